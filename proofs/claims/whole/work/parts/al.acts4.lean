/-! ===== minutes, undo, hear, forget, feed: side by side ===== -/
section ACTS4
variable {N S D L n q T n' q' T' : Nat} {ac ac' : Nat → Rw} {o : Option Im} {t : List px_E} {g g1 g2 G B : hG} {w w' a k f : Rw} {v x y : Int32} {K : Kt}
theorem RI_iter (hK : KN K N S D L) (hO : KO K N S D L) : ∀ (m : Nat) (w : Rw) (T : Nat), RI K N S T w → T + m < 1000000 → RI K N S (T + m) (iterR (minR K N D L) m w) := by
  intro m
  induction m with
  | zero => intro w T h _; exact h
  | succ m ih =>
    intro w T h hT
    have := ih _ (T + 1) (RI_min hK hO h (by omega)) (by omega)
    rw [show T + (m + 1) = T + 1 + m by omega]
    exact this
theorem Z54_iter (hK : KN K N S D L) (hO : KO K N S D L) : ∀ (m : Nat) (w : Rw), Z54 w → Z54 (iterR (minR K N D L) m w) := by
  intro m
  induction m with
  | zero => intro w h; exact h
  | succ m ih => intro w h; exact ih _ (Z54_min hK hO h)
theorem RI_mono {T T' : Nat} (h : RI K N S T w) (hT : T ≤ T') : RI K N S T' w := ⟨h.1, h.2.1, by have := h.2.2; omega⟩
theorem gP_at {r : Nat} {s : Int32} {m : Int64} {v : Rw} {c j : Nat} (h : ¬ c = r ∧ ¬ (c = 16 ∧ j = 14) ∧ ¬ c = 27 ∧ ¬ c = 28) : (gP g r w s m v k).1 c j = g.1 c j := by
  unfold gP
  rw [hR_at, if_neg (by omega), hR_at, if_neg (by omega)]
  show (hI (hR g r w) 16 14 s).1 c j = g.1 c j
  rw [hI_at, if_neg (by omega), hR_at, if_neg (by omega)]
theorem okD_ref {fX fM : px_H → Option (px_Res × px_H × Nat × Nat)} (H : RelP N S D L n q T ac o t g) {i : Nat} (hi : i < 3) {u : Int32} (eX : fX (hp t g) = some (.inl (some (.int u)), hp t (hI g 31 i (g.1 31 i + 1)), 0, 0))
    (eM : ∀ G : hG, (∀ c j, G.1 c j = (hI g 31 i (g.1 31 i + 1)).1 c j) → gM G (g.1 29) (G.1 72) (G.1 73) = G → fM (hp t G) = some (.inl (some (.int u)), hp t (gM (hI (hI G 49 2 0) 62 i (G.1 62 i + 1)) (g.1 29) (G.1 72) (G.1 73)), 0, 0)) : OkD fX fM t g := by
  have hF : FrK g (hI g 31 i (g.1 31 i + 1)) := FrK_hI FrK_rf (by omega)
  exact ⟨u, t, _, _, 0, 0, eX, eM _ (fun _ _ => rfl) (r_gM (fun i hi => by rw [FrK_mrow hF, r_w H i hi])), RelP_rel (RelP_ref H hi (fun _ _ => rfl) rfl), by omega, by omega⟩
theorem rl_minutes (H : RelP N S D L n q T ac o t g) (x : Int32) : OkD (fun h => bc 99 M_X9_minutes none 0 [some (.ref 0), some (.int x), none] [] h 0 0) (fun h => bc 99 M_X10_minutes none 0 [some (.ref 49), some (.int x), none] [] h 0 0) t g := by
  by_cases hx : (1 ≤ x.toInt ∧ x.toInt ≤ 30) ∧ ¬ 9999 < g.1 29 53 + x
  · obtain ⟨j, ex, h1, h2⟩ := ex_rng (A := 1) (B := 30) hx.1
    subst ex
    obtain ⟨R, z, s', n', v', k', e, hc⟩ := c_minutes_y (d := 95) (t := t) (cn := 0) (sn := 0) (r_cA H) (r_K H) (r_O H) h1 h2 hx.2
    have hA : ∀ c i, ¬ c = 29 → ¬ (c = 16 ∧ i = 14) → ¬ c = 27 → ¬ c = 28 → (gP (gC (gA g R z (Int32.ofNat (pushA n ac (g.1 29)).1))) 29 (iterR (minR (kC g) N D L) j (g.1 29)) s' n' v' k').1 c i = (gC (gA g R z (Int32.ofNat (pushA n ac (g.1 29)).1))).1 c i := fun c i a1 a2 a3 a4 => gP_at ⟨a1, a2, a3, a4⟩
    have hF : FrK g (gP (gC (gA g R z (Int32.ofNat (pushA n ac (g.1 29)).1))) 29 (iterR (minR (kC g) N D L) j (g.1 29)) s' n' v' k') := FrK_gP (by omega) (FrK_gC (FrK_gA FrK_rf))
    obtain ⟨R2, a', k'', e2, hm⟩ := m_minutes_y (d := 95) (t := t) (w := g.1 29) (a := g.1 72) (k := g.1 73) (cn := 0) (sn := 0) (FrK_mAc hF (r_mA H)) (r_cA H).1 (FrK_MK hF (r_M H)) (r_K H) (r_O H) (r_R H) h1 h2 hx.2
    rw [← FrK_row hF (c := 72) (by omega), ← FrK_row hF (c := 73) (by omega), r_gM (fun i hi => by rw [FrK_mrow hF, r_w H i hi])] at e2
    refine ⟨_, t, _, _, 0, 0, e, e2, RelP_rel (RelP_push (g1 := gP (gC (gA g R z (Int32.ofNat (pushA n ac (g.1 29)).1))) 29 (iterR (minR (kC g) N D L) j (g.1 29)) s' n' v' k') H ?_ (gP_r h29) ?_ (Z54_iter (r_K H) (r_O H) j _ (r_z H)) ?_ (push_all (P := fun w => RI (kC g) N S 9999 w ∧ Z54 w) ⟨r_R H, r_z H⟩ (r_cA2 H)) ?_ ?_ ?_ ?_ rfl hm), by omega, by omega⟩
    · intro c i h
      unfold esD at h
      rw [hA c i (by omega) (by omega) (by omega) (by omega), gCA_at (by omega)]
    · have h53 := (r_R H).2
      have hh := hx.2
      rw [ii_lt, ii_add (by rw [ii_ofNat (by omega)]; omega) (by rw [ii_ofNat (by omega)]; omega), ii_ofNat (by omega), show (9999 : Int32).toInt = 9999 by decide] at hh
      have h0 : RI (kC g) N S (g.1 29 53).toInt.toNat (g.1 29) := ⟨(r_R H).1, h53.1, by omega⟩
      exact RI_mono (RI_iter (r_K H) (r_O H) j _ _ h0 (by omega)) (by omega)
    · exact cA_cong (funext fun i => hA 32 i (by omega) (by omega) (by omega) (by omega)) (funext fun i => hA 33 i (by omega) (by omega) (by omega) (by omega)) hc
    · rw [hA 41 4 (by omega) (by omega) (by omega) (by omega)]; rfl
    · rw [hA 37 4 (by omega) (by omega) (by omega) (by omega)]; rfl
    · intro c i h
      exact gK_lo h
    · intro c i h0 h3 h4
      rw [gK_hi h3 h4]
      exact hF c i h0
  · refine okD_ref H (i := 1) (by omega) (c_minutes_r (d := 95) hx) (fun G hG hgm => ?_)
    have e2 := m_minutes_r (d := 95) (t := t) (g := G) (w := g.1 29) (a := G.1 72) (k := G.1 73) (cn := 0) (sn := 0) hx
    rw [hgm] at e2
    exact e2
theorem rl_undo (H : RelP N S D L n q T ac o t g) : OkD (fun h => bc 99 M_X9_undo none 0 [some (.ref 0)] [] h 0 0) (fun h => bc 99 M_X10_undo none 0 [some (.ref 49)] [] h 0 0) t g := by
  by_cases hn : n = 0
  · subst hn
    refine okD_q H (Fr_rf H) (c_undo_0 (d := 99) (r_cA H)) (fun G HG hM hw hE => ?_)
    have e := m_undo_0 (d := 97) (t := t) (g := G) (cn := 0) (sn := 0) (w := g.1 29) (a := G.1 72) (k := G.1 73) (r_mA HG)
    rw [r_gM hw] at e
    exact ⟨_, e, frm_1 HG hw⟩
  · have hl := r_cA2 H (n - 1) (by omega)
    obtain ⟨e, hc⟩ := c_undo_y (d := 97) (t := t) (cn := 0) (sn := 0) (r_cA H) (by omega) (r_z H) hl.2
    have hF : FrK g (gC (hR (hI g 32 2 (Int32.ofNat (n - 1))) 29 (ac (n - 1)))) := FrK_gC (FrK_hR (FrK_hI FrK_rf (by omega)) (by omega))
    obtain ⟨e2, hm⟩ := m_undo_y (d := 97) (t := t) (w := g.1 29) (a := g.1 72) (k := g.1 73) (cn := 0) (sn := 0) (FrK_mAc hF (r_mA H)) (r_cA H).1 (by omega)
    rw [← FrK_row hF (c := 72) (by omega), ← FrK_row hF (c := 73) (by omega), r_gM (fun i hi => by rw [FrK_mrow hF, r_w H i hi])] at e2
    refine ⟨_, t, _, _, 0, 0, e, e2, RelP_rel (RelP_push (g1 := gC (hR (hI g 32 2 (Int32.ofNat (n - 1))) 29 (ac (n - 1)))) H ?_ rfl hl.1 hl.2 hc (fun i hi => r_cA2 H i (by omega)) rfl rfl ?_ ?_ rfl hm), by omega, by omega⟩
    · intro c i h
      unfold esD at h
      unfold gC
      rw [hI_at, if_neg (by omega), hI_at, if_neg (by omega), hR_at, if_neg (by omega), hI_at, if_neg (by omega)]
    · intro c i h
      rw [hI_at, if_neg (by omega), hI_at, if_neg (by omega)]
    · intro c i h0 h3 h4
      rw [hI_at, if_neg (by omega), hI_at, if_neg (by omega)]
      exact hF c i h0
/-- other things heard -/
theorem RelP_heard (H : RelP N S D L n q T ac o t g) (hE : ∀ c j, ¬ (c = 34 ∨ c = 35 ∨ c = 36 ∨ (c = 37 ∧ j = 4) ∨ (c = 41 ∧ j = 4)) → c < 49 → g1.1 c j = g.1 c j) (h41 : g1.1 41 4 = -1) (h37 : g1.1 37 4 = 0)
    (hH : q' ≤ 8 ∧ g1.1 34 2 = Int32.ofNat q' ∧ ∀ i, i < q' → (1 ≤ (g1.1 35 i).toInt ∧ (g1.1 35 i).toInt ≤ 60) ∧ (-1 ≤ (g1.1 36 i).toInt ∧ (g1.1 36 i).toInt ≤ 60))
    (hB1 : ∀ c j, c < 49 → B.1 c j = g1.1 c j) (hB2 : ∀ c j, 49 ≤ c → ¬ (c = 49 ∧ (j = 2 ∨ j = 35)) → ¬ c = 78 → ¬ c = 79 → B.1 c j = g.1 c j) (h22 : B.2.2 = g.2.2) (m4 : B.1 49 35 = Int32.ofNat q') (m5 : ∀ i, i < q' → B.1 78 i = g1.1 35 i ∧ B.1 79 i = g1.1 36 i) : RelP N S D L n q' T ac o t (gM B (g.1 29) a k) := by
  have hC : ∀ c j, c < 49 → (gM B (g.1 29) a k).1 c j = g1.1 c j := fun c j h => by
    rw [gM_o (by omega)]; exact hB1 c j h
  have hM : ∀ c j, 49 ≤ c → ¬ (c = 49 ∧ (j = 33 ∨ j = 2 ∨ j = 35)) → ¬ c = 78 → ¬ c = 79 → ¬ (64 ≤ c ∧ c ≤ 70) → ¬ c = 72 → ¬ c = 73 → (gM B (g.1 29) a k).1 c j = g.1 c j := by
    intro c j h0 h1 h2 h2' h3 h4 h5
    unfold gM mA
    dsimp only
    rw [if_neg h4, if_neg h5, if_neg (by omega), if_neg (by omega), if_neg (by omega)]
    exact hB2 c j h0 (by omega) h2 h2'
  have r : ∀ c, c < 34 → g1.1 c = g.1 c := fun c h => funext fun j => hE c j (by omega) (by omega)
  have eK : kC g1 = kC g := kC_esC (fun c j h => hE c j (by unfold esC at h; omega) (by unfold esC at h; omega))
  have hc : CI N S D L n q' T ac g1 := by
    refine CI_act H.1 (fun c j h => hE c j (by unfold esC at h; omega) (by unfold esC at h; omega)) (by rw [r 29 (by omega)]; exact r_R H) (by rw [r 29 (by omega)]; exact r_z H) (cA_cong (r 32 (by omega)) (r 33 (by omega)) (r_cA H)) (r_cA2 H) hH (fun dd hd h => ?_) (Or.inl h37)
    rw [h41] at h
    have h5 := (r_K H).2.2.2.2.2.1
    exact absurd h (ofN_m1 (by omega))
  obtain ⟨-, ⟨m1, m2, m3, -, -, m6, m7, m8, m9⟩, ic, im⟩ := H
  refine RelP_join hC hc ?_ ?_ ?_ ?_ ?_ ?_ ?_ ?_ ?_ ?_ ?_
  · rw [eK]; exact MK_cong (fun c j h1 h2 => hM c j (by omega) (by omega) (by omega) (by omega) (by omega) (by omega) (by omega)) m1
  · intro j hj; rw [mrow_gM hj, r 29 (by omega)]
  · exact mAc_cong (hM 49 34 (by omega) (by omega) (by omega) (by omega) (by omega) (by omega) (by omega)) (funext fun j => hM 71 j (by omega) (by omega) (by omega) (by omega) (by omega) (by omega) (by omega)) m3
  · rw [gM_49 (by omega)]; exact m4
  · intro j hj; rw [gM_o (by omega), gM_o (by omega)]; exact m5 j hj
  · intro j hj
    rw [hM 62 j (by omega) (by omega) (by omega) (by omega) (by omega) (by omega) (by omega), r 31 (by omega)]; exact m6 j hj
  · rw [hM 49 15 (by omega) (by omega) (by omega) (by omega) (by omega) (by omega) (by omega)]; exact m7
  · rw [show (gM B (g.1 29) a k).1 63 = g.1 63 from funext fun j => hM 63 j (by omega) (by omega) (by omega) (by omega) (by omega) (by omega) (by omega), r 2 (by omega)]; exact m8
  · rw [hM 49 24 (by omega) (by omega) (by omega) (by omega) (by omega) (by omega) (by omega), r 1 (by omega)]; exact m9
  · rw [eK, r 0 (by omega)]
    show IC (kC g) N S o t (B.2.2 0 10) (B.2.2 37 3) (g.1 0 11)
    rw [h22]; exact ic
  · exact IM_cong (fun c j h => hM c j (by omega) (by omega) (by omega) (by omega) (by omega) (by omega) (by omega)) im
theorem r_H (H : RelP N S D L n q T ac o t g) : q ≤ 8 ∧ g.1 34 2 = Int32.ofNat q ∧ ∀ i, i < q → (1 ≤ (g.1 35 i).toInt ∧ (g.1 35 i).toInt ≤ 60) ∧ (-1 ≤ (g.1 36 i).toInt ∧ (g.1 36 i).toInt ≤ 60) := H.1.2.2.2.2.2.2.2.2.1
theorem rl_hear (H : RelP N S D L n q T ac o t g) (x y : Int32) : OkD (fun h => bc 99 M_X9_hear none 0 [some (.ref 0), some (.int x), some (.int y), none, none] [] h 0 0) (fun h => bc 99 M_X10_hear none 0 [some (.ref 49), some (.int x), some (.int y)] [] h 0 0) t g := by
  obtain ⟨hq, hh, hb⟩ := r_H H
  have mq : g.1 49 35 = Int32.ofNat q := H.2.1.2.2.2.1
  by_cases ok : okH q x y
  · have e := c_hear_y (d := 97) (t := t) (cn := 0) (sn := 0) hh ok
    have hF : FrK g (gC (hI (hI (hI g 35 q x) 36 q y) 34 2 (Int32.ofNat (q + 1)))) := FrK_gC (FrK_hI (FrK_hI (FrK_hI FrK_rf (by omega)) (by omega)) (by omega))
    have e2 := m_hear_y (d := 97) (t := t) (w := g.1 29) (a := g.1 72) (k := g.1 73) (cn := 0) (sn := 0) ((hF 49 35 (by omega)).trans mq) ok
    rw [← FrK_row hF (c := 72) (by omega), ← FrK_row hF (c := 73) (by omega), r_gM (fun i hi => by rw [FrK_mrow hF, r_w H i hi])] at e2
    have a35 : ∀ i, (gC (hI (hI (hI g 35 q x) 36 q y) 34 2 (Int32.ofNat (q + 1)))).1 35 i = if i = q then x else g.1 35 i := fun i => by
      show (hI g 35 q x).1 35 i = _
      rw [hI_at]
      by_cases h : i = q
      · rw [if_pos ⟨rfl, h⟩, if_pos h]
      · rw [if_neg (by omega), if_neg h]
    have a36 : ∀ i, (gC (hI (hI (hI g 35 q x) 36 q y) 34 2 (Int32.ofNat (q + 1)))).1 36 i = if i = q then y else g.1 36 i := fun i => by
      show (hI g 36 q y).1 36 i = _
      rw [hI_at]
      by_cases h : i = q
      · rw [if_pos ⟨rfl, h⟩, if_pos h]
      · rw [if_neg (by omega), if_neg h]
    refine ⟨_, t, _, _, 0, 0, e, e2, RelP_rel (RelP_heard (q' := q + 1) (g1 := gC (hI (hI (hI g 35 q x) 36 q y) 34 2 (Int32.ofNat (q + 1)))) H ?_ rfl rfl ⟨by have := ok.1; omega, rfl, fun i hi => ?_⟩ ?_ ?_ rfl ?_ (fun i hi => ?_)), by omega, by omega⟩
    · intro c j h hc
      unfold gC
      rw [hI_at, if_neg (by omega), hI_at, if_neg (by omega), hI_at, if_neg (by omega), hI_at, if_neg (by omega), hI_at, if_neg (by omega)]
    · rw [a35, a36]
      by_cases h : i = q
      · rw [if_pos h, if_pos h]; exact ok.2
      · rw [if_neg h, if_neg h]; exact hb i (by omega)
    · intro c j h
      rw [hI_at, if_neg (by omega), hI_at, if_neg (by omega), hI_at, if_neg (by omega), hI_at, if_neg (by omega)]
    · intro c j h0 h1 h2 h3
      rw [hI_at, if_neg (by omega), hI_at, if_neg (by omega), hI_at, if_neg (by omega), hI_at, if_neg (by omega)]
      exact hF c j h0
    · exact hI_eq
    · have m5 := H.2.1.2.2.2.2.1
      have b78 : ∀ X : hG, (hI (hI (hI (hI X 49 2 0) 78 q x) 79 q y) 49 35 (Int32.ofNat (q + 1))).1 78 i = if i = q then x else X.1 78 i := fun X => by
        rw [hI_at, if_neg (by omega), hI_at, if_neg (by omega), hI_at]
        by_cases h : i = q
        · rw [if_pos ⟨rfl, h⟩, if_pos h]
        · rw [if_neg (by omega), if_neg h, hI_at, if_neg (by omega)]
      have b79 : ∀ X : hG, (hI (hI (hI (hI X 49 2 0) 78 q x) 79 q y) 49 35 (Int32.ofNat (q + 1))).1 79 i = if i = q then y else X.1 79 i := fun X => by
        rw [hI_at, if_neg (by omega), hI_at]
        by_cases h : i = q
        · rw [if_pos ⟨rfl, h⟩, if_pos h]
        · rw [if_neg (by omega), if_neg h, hI_at, if_neg (by omega), hI_at, if_neg (by omega)]
      rw [a35, a36, b78, b79]
      by_cases h : i = q
      · rw [if_pos h, if_pos h, if_pos h, if_pos h]; exact ⟨rfl, rfl⟩
      · rw [if_neg h, if_neg h, if_neg h, if_neg h, hF 78 i (by omega), hF 79 i (by omega)]
        exact m5 i (by omega)
  · refine okD_ref H (i := 2) (by omega) (c_hear_r (d := 97) hq hh ok) (fun G hG hgm => ?_)
    have e2 := m_hear_r (d := 97) (t := t) (g := G) (w := g.1 29) (a := G.1 72) (k := G.1 73) (cn := 0) (sn := 0) hq (by rw [hG, hI_at, if_neg (by omega)]; exact mq) ok
    rw [hgm] at e2
    exact e2
theorem rl_forget (H : RelP N S D L n q T ac o t g) : OkN (fun h => bc 99 M_X9_forget none 0 [some (.ref 0)] [] h 0 0) (fun h => bc 99 M_X10_forget none 0 [some (.ref 49)] [] h 0 0) t g := by
  have e := c_forget (d := 98) (t := t) (g := g) (cn := 0) (sn := 0)
  have hF : FrK g (gC (hI g 34 2 0)) := FrK_gC (FrK_hI FrK_rf (by omega))
  have e2 := m_forget (d := 98) (t := t) (g := gC (hI g 34 2 0)) (w := g.1 29) (a := g.1 72) (k := g.1 73) (cn := 0) (sn := 0)
  rw [← FrK_row hF (c := 72) (by omega), ← FrK_row hF (c := 73) (by omega), r_gM (fun i hi => by rw [FrK_mrow hF, r_w H i hi])] at e2
  refine ⟨t, _, _, 0, 0, e, e2, RelP_rel (RelP_heard (q' := 0) (g1 := gC (hI g 34 2 0)) H ?_ rfl rfl ⟨by omega, rfl, fun i hi => by omega⟩ ?_ ?_ rfl ?_ (fun i hi => by omega)), by omega, by omega⟩
  · intro c j h hc
    unfold gC
    rw [hI_at, if_neg (by omega), hI_at, if_neg (by omega), hI_at, if_neg (by omega)]
  · intro c j h
    rw [hI_at, if_neg (by omega), hI_at, if_neg (by omega)]
  · intro c j h0 h1 h2 h3
    rw [hI_at, if_neg (by omega), hI_at, if_neg (by omega)]
    exact hF c j h0
  · exact hI_eq
end ACTS4
