/-! ===== put, lift, pour, scrape, minutes, undo: side by side ===== -/
section ACTS3
variable {N S D L n q T n' q' T' : Nat} {ac ac' : Nat → Rw} {o : Option Im} {t : List px_E} {g g1 g2 G B : hG} {w w' a k f : Rw} {v x y : Int32} {K : Kt}
def esD (c j : Nat) : Prop := c = 0 ∨ c = 2 ∨ (c = 1 ∧ (j = 2 ∨ j = 3)) ∨ (c = 16 ∧ 10 ≤ j ∧ j ≤ 12) ∨ (17 ≤ c ∧ c ≤ 26) ∨ c = 30 ∨ c = 38 ∨ c = 42 ∨ c = 31 ∨ c = 34 ∨ c = 35 ∨ c = 36
theorem RelP_push (H : RelP N S D L n q T ac o t g) (hE : ∀ c j, esD c j → g1.1 c j = g.1 c j) (e29 : g1.1 29 = w') (hRI : RI (kC g) N S 9999 w') (hz : Z54 w') (hA : cA n' ac' g1) (hA2 : ∀ i, i < n' → RI (kC g) N S 9999 (ac' i) ∧ Z54 (ac' i)) (h41 : g1.1 41 4 = -1) (h37 : g1.1 37 4 = 0)
    (hB1 : ∀ c j, c < 49 → B.1 c j = g1.1 c j) (hB2 : ∀ c j, 49 ≤ c → ¬ (c = 49 ∧ (j = 2 ∨ j = 34)) → ¬ c = 71 → B.1 c j = g.1 c j) (h22 : B.2.2 = g.2.2) (hm : mAc n' ac' B) : RelP N S D L n' q T ac' o t (gM B w' a k) := by
  have hC : ∀ c j, c < 49 → (gM B w' a k).1 c j = g1.1 c j := fun c j h => by
    rw [gM_o (by omega)]; exact hB1 c j h
  have hM : ∀ c j, 49 ≤ c → ¬ (c = 49 ∧ (j = 33 ∨ j = 2 ∨ j = 34)) → ¬ c = 71 → ¬ (64 ≤ c ∧ c ≤ 70) → ¬ c = 72 → ¬ c = 73 → (gM B w' a k).1 c j = g.1 c j := by
    intro c j h0 h1 h2 h3 h4 h5
    unfold gM mA
    dsimp only
    rw [if_neg h4, if_neg h5, if_neg (by omega), if_neg (by omega), if_neg (by omega)]
    exact hB2 c j h0 (by omega) h2
  have r : ∀ c, (∀ j, esD c j) → g1.1 c = g.1 c := fun c h => funext fun j => hE c j (h j)
  have eK : kC g1 = kC g := kC_esC (fun c j h => hE c j (by unfold esC at h; unfold esD; omega))
  have e34 := r 34 (fun j => by unfold esD; omega)
  have e35 := r 35 (fun j => by unfold esD; omega)
  have e36 := r 36 (fun j => by unfold esD; omega)
  have hc : CI N S D L n' q T ac' g1 := by
    refine CI_act H.1 (fun c j h => hE c j (by unfold esC at h; unfold esD; omega)) (by rw [e29]; exact hRI) (by rw [e29]; exact hz) hA hA2 (by rw [e34, e35, e36]; exact H.1.2.2.2.2.2.2.2.2.1) (fun dd hd h => ?_) (Or.inl h37)
    rw [h41] at h
    have h5 := (r_K H).2.2.2.2.2.1
    exact absurd h (ofN_m1 (by omega))
  obtain ⟨-, ⟨m1, m2, m3, m4, m5, m6, m7, m8, m9⟩, ic, im⟩ := H
  refine RelP_join hC hc ?_ ?_ ?_ ?_ ?_ ?_ ?_ ?_ ?_ ?_ ?_
  · rw [eK]; exact MK_cong (fun c j h1 h2 => hM c j (by omega) (by omega) (by omega) (by omega) (by omega) (by omega)) m1
  · intro j hj; rw [mrow_gM hj, e29]
  · exact mAc_cong (gM_49 (by omega)) (gM_o (by omega)) hm
  · rw [hM 49 35 (by omega) (by omega) (by omega) (by omega) (by omega) (by omega)]; exact m4
  · intro j hj
    rw [hM 78 j (by omega) (by omega) (by omega) (by omega) (by omega) (by omega), hM 79 j (by omega) (by omega) (by omega) (by omega) (by omega) (by omega), e35, e36]; exact m5 j hj
  · intro j hj
    rw [hM 62 j (by omega) (by omega) (by omega) (by omega) (by omega) (by omega), hE 31 j (by unfold esD; omega)]; exact m6 j hj
  · rw [hM 49 15 (by omega) (by omega) (by omega) (by omega) (by omega) (by omega)]; exact m7
  · rw [show (gM B w' a k).1 63 = g.1 63 from funext fun j => hM 63 j (by omega) (by omega) (by omega) (by omega) (by omega) (by omega), r 2 (fun j => by unfold esD; omega)]; exact m8
  · rw [hM 49 24 (by omega) (by omega) (by omega) (by omega) (by omega) (by omega), hE 1 3 (by unfold esD; omega)]; exact m9
  · rw [eK, hE 0 11 (by unfold esD; omega)]
    show IC (kC g) N S o t (B.2.2 0 10) (B.2.2 37 3) (g.1 0 11)
    rw [h22]; exact ic
  · exact IM_cong (fun c j h => hM c j (by omega) (by omega) (by omega) (by omega) (by omega) (by omega)) im
theorem gCA_at {R : Rw} {z m : Int32} {c j : Nat} (h : ¬ c = 41 ∧ ¬ c = 37 ∧ ¬ c = 33 ∧ ¬ c = 32) : (gC (gA g R z m)).1 c j = g.1 c j := by
  unfold gC gA
  rw [hI_at, if_neg (by omega), hI_at, if_neg (by omega), hI_at, if_neg (by omega), hI_at, if_neg (by omega), hR_at, if_neg (by omega)]
theorem gK_lo {R : Rw} {m : Int32} {c j : Nat} (h : c < 49) : (gK G R m).1 c j = G.1 c j := by
  unfold gK
  rw [hI_at, if_neg (by omega), hR_at, if_neg (by omega), hI_at, if_neg (by omega)]
theorem gK_hi {R : Rw} {m : Int32} {c j : Nat} (h1 : ¬ (c = 49 ∧ (j = 2 ∨ j = 34))) (h2 : ¬ c = 71) : (gK G R m).1 c j = G.1 c j := by
  unfold gK
  rw [hI_at, if_neg (by omega), hR_at, if_neg (by omega), hI_at, if_neg (by omega)]
theorem r_cA (H : RelP N S D L n q T ac o t g) : cA n ac g := H.1.2.2.2.2.2.2.2.1.1
theorem r_cA2 (H : RelP N S D L n q T ac o t g) : ∀ i, i < n → RI (kC g) N S 9999 (ac i) ∧ Z54 (ac i) := H.1.2.2.2.2.2.2.2.1.2
theorem r_mA (H : RelP N S D L n q T ac o t g) : mAc n ac g := H.2.1.2.2.1
/-- the same, with something more of the reference's answer -/
def OkB (Q : Int32 → Prop) (fL fM : px_H → Option (px_Res × px_H × Nat × Nat)) (t : List px_E) (g : hG) : Prop := ∃ (k b : Int32) (t1 : List px_E) (g1 g2 : hG) (c1 s1 : Nat), fL (hp t g) = some (.inl (some (.int k)), hp t1 g1, c1, s1) ∧ fM (hp t1 g1) = some (.inl (some (.int b)), hp t1 g2, 0, 0) ∧ g2.1 49 2 = k ∧ (k = 0 → g2.2.1 88 0 = b.toInt64) ∧ Rel t1 g2 ∧ c1 ≤ 10 ∧ s1 ≤ 5000 ∧ Q b
theorem OkB_L {Q : Int32 → Prop} {fL fM : px_H → Option (px_Res × px_H × Nat × Nat)} (h : OkB Q fL fM t g) : OkL fL fM t g := by
  obtain ⟨k, b, t1, g1, g2, c1, s1, q1, q2, q3, q4, q5, q6, q7, -⟩ := h
  exact ⟨k, b, t1, g1, g2, c1, s1, q1, q2, q3, q4, q5, q6, q7⟩
theorem okB_n {Q : Int32 → Prop} (hQ : Q 0) {fL fM : px_H → Option (px_Res × px_H × Nat × Nat)} (H : RelP N S D L n q T ac o t g) {z : Int32} (hz : ¬ z = 0) (eL : fL (hp t g) = some (.inl (some (.int z)), hp t g, 1, 6))
    (hm : ∃ g2, fM (hp t g) = some (.inl (some (.int 0)), hp t g2, 0, 0) ∧ Fr g g2 ∧ g2.1 49 2 = z) : OkB Q fL fM t g := by
  obtain ⟨g2, e2, f2, h2⟩ := hm
  exact ⟨z, 0, t, g, g2, 1, 6, eL, e2, h2, fun h => absurd h hz, RelP_rel (RelP_fr H f2), by omega, by omega, hQ⟩
/-- an act done by both: the class's heap is gC (gA ..) with row w' -/
theorem ok_act {Q : Int32 → Prop} (hQ : Q v) {fL fM : px_H → Option (px_Res × px_H × Nat × Nat)} (H : RelP N S D L n q T ac o t g) {R R2 : Rw} {z m m2 : Int32} (e29 : g1.1 29 = w') (h1 : ∀ c j, ¬ c = 29 → g1.1 c j = (gC (gA g R z m)).1 c j) (h2 : g1.2.2 = g.2.2) (hRI : RI (kC g) N S 9999 w') (hz : Z54 w') (hc : cA (pushA n ac (g.1 29)).1 (pushA n ac (g.1 29)).2 (gC (gA g R z m)))
    (eL : fL (hp t g) = some (.inl (some (.int 0)), hp t (hJ g1 88 0 v.toInt64), 0, 0)) (eM : fM (hp t (hJ g1 88 0 v.toInt64)) = some (.inl (some (.int v)), hp t (gM (gK (hJ g1 88 0 v.toInt64) R2 m2) w' a k), 0, 0)) (hm : mAc (pushA n ac (g.1 29)).1 (pushA n ac (g.1 29)).2 (gK (hJ g1 88 0 v.toInt64) R2 m2)) : OkB Q fL fM t g := by
  refine ⟨0, v, t, _, _, 0, 0, eL, eM, rfl, fun _ => hJ88, RelP_rel (RelP_push (g1 := g1) H ?_ e29 hRI hz ?_ (push_all (P := fun w => RI (kC g) N S 9999 w ∧ Z54 w) ⟨r_R H, r_z H⟩ (r_cA2 H)) ?_ ?_ ?_ ?_ h2 hm), by omega, by omega, hQ⟩
  · intro c j h
    unfold esD at h
    rw [h1 c j (by omega), gCA_at (by omega)]
  · exact cA_cong (funext fun j => h1 32 j (by omega)) (funext fun j => h1 33 j (by omega)) hc
  · rw [h1 41 4 (by omega)]; rfl
  · rw [h1 37 4 (by omega)]; rfl
  · intro c j h
    exact gK_lo h
  · intro c j h0 h3 h4
    rw [gK_hi h3 h4]
    show g1.1 c j = g.1 c j
    rw [h1 c j (by omega), gCA_at (by omega)]
theorem fk_act {R : Rw} {z m : Int32} (h1 : ∀ c j, ¬ c = 29 → g1.1 c j = (gC (gA g R z m)).1 c j) : FrK g (hJ g1 88 0 v.toInt64) := fun c j h => by
  show g1.1 c j = g.1 c j
  rw [h1 c j (by omega), gCA_at (by omega)]
/-- a refused act -/
theorem ok_ref {Q : Int32 → Prop} (hQ : Q v) {fL fM : px_H → Option (px_Res × px_H × Nat × Nat)} (H : RelP N S D L n q T ac o t g) (eL : fL (hp t g) = some (.inl (some (.int 0)), hp t (hJ (hI g 31 1 (g.1 31 1 + 1)) 88 0 v.toInt64), 0, 0))
    (eM : ∀ G : hG, (∀ c j, G.1 c j = (hI g 31 1 (g.1 31 1 + 1)).1 c j) → gM G (g.1 29) (G.1 72) (G.1 73) = G → MK (kC g) N S D L G → fM (hp t G) = some (.inl (some (.int v)), hp t (gM (gN G) (g.1 29) (G.1 72) (G.1 73)), 0, 0)) : OkB Q fL fM t g := by
  have hF : FrK g (hJ (hI g 31 1 (g.1 31 1 + 1)) 88 0 v.toInt64) := FrK_hJ (FrK_hI FrK_rf (by omega))
  exact ⟨0, v, t, _, _, 0, 0, eL, eM _ (fun _ _ => rfl) (r_gM (fun i hi => by rw [FrK_mrow hF, r_w H i hi])) (FrK_MK hF (r_M H)), rfl, fun _ => hJ88, RelP_rel (RelP_ref H (i := 1) (by omega) (fun _ _ => rfl) rfl), by omega, by omega, hQ⟩
theorem rl_put (H : RelP N S D L n q T ac o t g) (x y : Int32) : OkB (fun b => b = 0 ∨ b = 1) (fun h => bc 99 M_L_put none 0 [some (.ref 0), some (.int x), some (.int y), some (.ref 88), none] [] h 0 0) (fun h => bc 99 M_X10_put none 0 [some (.ref 49), some (.int x), some (.int y)] [] h 0 0) t g := by
  have h8 := (r_K H).2.1
  have h4 := (r_K H).2.2.2.1
  by_cases hx : (0 ≤ x.toInt ∧ x.toInt < N) ∧ (0 ≤ y.toInt ∧ y.toInt < S)
  · obtain ⟨j, ex, hj⟩ := ex_nat hx.1
    obtain ⟨j', ey, hj'⟩ := ex_nat hx.2
    subst ex
    subst ey
    by_cases hf : findR (g.1 29) (Int32.ofNat j') N 0 = -1
    · obtain ⟨R, z, e, hc⟩ := c_put_y (d := 95) (t := t) (cn := 0) (sn := 0) (r_cA H) (r_K H) hj hj' hf
      have h1 : ∀ c i, ¬ c = 29 → (hI (gC (gA g R z (Int32.ofNat (pushA n ac (g.1 29)).1))) 29 j (Int32.ofNat j')).1 c i = (gC (gA g R z (Int32.ofNat (pushA n ac (g.1 29)).1))).1 c i := fun c i h => by rw [hI_at, if_neg (by omega)]
      have hF := fk_act (v := 1) h1
      obtain ⟨R2, e2, hm⟩ := m_put_y (d := 97) (t := t) (w := g.1 29) (a := g.1 72) (k := g.1 73) (cn := 0) (sn := 0) (FrK_mAc hF (r_mA H)) (r_cA H).1 (FrK_MK hF (r_M H)) (r_K H) hj hj' hf
      rw [← FrK_row hF (c := 72) (by omega), ← FrK_row hF (c := 73) (by omega), r_gM (fun i hi => by rw [FrK_mrow hF, r_w H i hi])] at e2
      refine ok_act (Or.inr rfl) H (w' := upd (g.1 29) j (Int32.ofNat j')) rfl h1 rfl ?_ (Z54_upd (r_z H) (by omega)) hc (lx_put_y (d := 98) (v := 1) (Or.inr rfl) e) e2 hm
      refine RI_upd (r_R H) h8 (by omega) (fun i hi => ⟨fun _ => Or.inr ?_, fun h => ?_, fun h => ?_, fun h => ?_⟩)
      · rw [ii_ofNat (by omega)]; omega
      · omega
      · omega
      · omega
    · refine ok_ref (Or.inl rfl) H (lx_put_y (d := 98) (v := 0) (Or.inl rfl) (c_put_r (d := 95) (r_K H) hj hj' hf)) (fun G hG hgm hM => ?_)
      have e2 := m_put_r (d := 97) (t := t) (g := G) (w := g.1 29) (a := G.1 72) (k := G.1 73) (cn := 0) (sn := 0) hM (r_K H) hj hj' hf
      rw [hgm] at e2
      exact e2
  · have e2 := rf_n H (f := fun h => bc 99 M_X10_put none 0 [some (.ref 49), some (.int x), some (.int y)] [] h 0 0) (m_put_n (d := 97) (r_M H) (r_K H) hx)
    by_cases hx1 : 0 ≤ x.toInt ∧ x.toInt < N
    · have hy : ¬ (0 ≤ y.toInt ∧ y.toInt < S) := fun z => hx ⟨hx1, z⟩
      obtain ⟨j, ex, hj⟩ := ex_nat hx1
      subst ex
      exact okB_n (Or.inl rfl) H (by decide) (lx_put_1 (d := 98) (c_put_n2 (d := 85) (r_K H) hj hy)) e2
    · exact okB_n (Or.inl rfl) H (by decide) (lx_put_1 (d := 98) (c_put_n1 (d := 85) (r_K H) hx1)) e2
theorem rl_lift (H : RelP N S D L n q T ac o t g) (x : Int32) : OkL (fun h => bc 99 M_L_lift none 0 [some (.ref 0), some (.int x), some (.ref 88), none] [] h 0 0) (fun h => bc 99 M_X10_lift none 0 [some (.ref 49), some (.int x), none] [] h 0 0) t g := by
  have h8 := (r_K H).2.1
  by_cases hx : 0 ≤ x.toInt ∧ x.toInt < N
  · obtain ⟨j, ex, hj⟩ := ex_nat hx
    subst ex
    by_cases hf : g.1 29 j = -1
    · refine OkB_L (ok_ref (Q := fun _ => True) trivial H (lx_lift_y (d := 98) (c_lift_r (d := 95) (r_K H) hj hf)) (fun G hG hgm hM => ?_))
      have e2 := m_lift_r (d := 97) (t := t) (g := G) (w := g.1 29) (a := G.1 72) (k := G.1 73) (cn := 0) (sn := 0) hM (r_K H) hj hf
      rw [hgm] at e2
      exact e2
    · obtain ⟨R, z, e, hc⟩ := c_lift_y (d := 95) (t := t) (cn := 0) (sn := 0) (r_cA H) (r_K H) hj hf
      have h1 : ∀ c i, ¬ c = 29 → (hI (gC (gA g R z (Int32.ofNat (pushA n ac (g.1 29)).1))) 29 j (-1)).1 c i = (gC (gA g R z (Int32.ofNat (pushA n ac (g.1 29)).1))).1 c i := fun c i h => by rw [hI_at, if_neg (by omega)]
      have hF := fk_act (v := g.1 29 j) h1
      obtain ⟨R2, e2, hm⟩ := m_lift_y (d := 97) (t := t) (w := g.1 29) (a := g.1 72) (k := g.1 73) (cn := 0) (sn := 0) (FrK_mAc hF (r_mA H)) (r_cA H).1 (FrK_MK hF (r_M H)) (r_K H) hj hf
      rw [← FrK_row hF (c := 72) (by omega), ← FrK_row hF (c := 73) (by omega), r_gM (fun i hi => by rw [FrK_mrow hF, r_w H i hi])] at e2
      refine OkB_L (ok_act (Q := fun _ => True) trivial H (w' := upd (g.1 29) j (-1)) rfl h1 rfl ?_ (Z54_upd (r_z H) (by omega)) hc (lx_lift_y (d := 98) e) e2 hm)
      exact RI_upd (r_R H) h8 (by omega) (fun i hi => ⟨fun _ => Or.inl rfl, fun h => by omega, fun h => by omega, fun h => by omega⟩)
  · exact okL_n H (by decide) (lx_lift_1 (d := 98) (c_lift_n (d := 85) (r_K H) hx)) (rf_n H (f := fun h => bc 99 M_X10_lift none 0 [some (.ref 49), some (.int x), none] [] h 0 0) (m_lift_n (d := 97) (r_M H) (r_K H) hx))
theorem rl_scrape (H : RelP N S D L n q T ac o t g) (x : Int32) : OkL (fun h => bc 99 M_L_scrape none 0 [some (.ref 0), some (.int x), some (.ref 88), none] [] h 0 0) (fun h => bc 99 M_X10_scrape none 0 [some (.ref 49), some (.int x), none] [] h 0 0) t g := by
  have h8 := (r_K H).2.1
  by_cases hx : 0 ≤ x.toInt ∧ x.toInt < N
  · obtain ⟨j, ex, hj⟩ := ex_nat hx
    subst ex
    by_cases hf : g.1 29 j = -1 ∧ ¬ g.1 29 (24 + j) = 0
    · obtain ⟨R, z, e, hc⟩ := c_scrape_y (d := 95) (t := t) (cn := 0) (sn := 0) (r_cA H) (r_K H) hj hf.1 hf.2
      have h1 : ∀ c i, ¬ c = 29 → (hI (gC (gA g R z (Int32.ofNat (pushA n ac (g.1 29)).1))) 29 (24 + j) 0).1 c i = (gC (gA g R z (Int32.ofNat (pushA n ac (g.1 29)).1))).1 c i := fun c i h => by rw [hI_at, if_neg (by omega)]
      have hF := fk_act (v := g.1 29 (24 + j)) h1
      obtain ⟨R2, e2, hm⟩ := m_scrape_y (d := 97) (t := t) (w := g.1 29) (a := g.1 72) (k := g.1 73) (cn := 0) (sn := 0) (FrK_mAc hF (r_mA H)) (r_cA H).1 (FrK_MK hF (r_M H)) (r_K H) hj hf.1 hf.2
      rw [← FrK_row hF (c := 72) (by omega), ← FrK_row hF (c := 73) (by omega), r_gM (fun i hi => by rw [FrK_mrow hF, r_w H i hi])] at e2
      refine OkB_L (ok_act (Q := fun _ => True) trivial H (w' := upd (g.1 29) (24 + j) 0) rfl h1 rfl ?_ (Z54_upd (r_z H) (by omega)) hc (lx_scrape_y (d := 98) e) e2 hm)
      exact RI_upd (r_R H) h8 (by omega) (fun i hi => ⟨fun h => by omega, fun h => by omega, fun h => by omega, fun h => by rw [ti_0]; omega⟩)
    · refine OkB_L (ok_ref (Q := fun _ => True) trivial H (lx_scrape_y (d := 98) (c_scrape_r (d := 95) (r_K H) hj hf)) (fun G hG hgm hM => ?_))
      have e2 := m_scrape_r (d := 97) (t := t) (g := G) (w := g.1 29) (a := G.1 72) (k := G.1 73) (cn := 0) (sn := 0) hM (r_K H) hj hf
      rw [hgm] at e2
      exact e2
  · exact okL_n H (by decide) (lx_scrape_1 (d := 98) (c_scrape_n (d := 85) (r_K H) hx)) (rf_n H (f := fun h => bc 99 M_X10_scrape none 0 [some (.ref 49), some (.int x), none] [] h 0 0) (m_scrape_n (d := 97) (r_M H) (r_K H) hx))
theorem RI_pour {j : Nat} (h : RI K N S 9999 w) (hO : KO K N S D L) (h8 : N ≤ 8) (hj : j < N) (h0 : 0 ≤ x.toInt) (h1 : ¬ K 2 j < x) : RI K N S 9999 (pourR w j x) := by
  obtain ⟨a1, a2, a3, a4, a5⟩ := h.1 j hj
  have hs := (hO.1 j hj).1
  rw [ii_lt] at h1
  unfold pourR
  refine RI_upd ?_ h8 (by omega) (fun i hi => ⟨fun h => by omega, fun h => by omega, fun h => ?_, fun h => by omega⟩)
  · split
    · next hl =>
      rw [ii_lt] at hl
      refine RI_upd h h8 (by omega) (fun i hi => ⟨fun h => by omega, fun h => ?_, fun h => by omega, fun h => by omega⟩)
      have hm1 : 0 ≤ (w (8 + j)).toInt * (w (16 + j)).toInt := Int.mul_nonneg a2.1 a3.1
      have hm2 : (w (8 + j)).toInt * (w (16 + j)).toInt ≤ 150 * 40 := Int.mul_le_mul a2.2 (by omega) a3.1 (by omega)
      have em : (w (8 + j) * w (16 + j)).toInt = (w (8 + j)).toInt * (w (16 + j)).toInt := ii_mul (by omega) (by omega)
      rw [ii_div (by rw [em]; exact hm1) (by omega), em]
      refine ⟨Int.ediv_nonneg hm1 h0, ?_⟩
      have : (w (8 + j)).toInt * (w (16 + j)).toInt ≤ 150 * x.toInt := Int.mul_le_mul a2.2 (by omega) a3.1 (by omega)
      exact Int.ediv_le_of_le_mul (by omega) this
    · exact h
  · have : i = j := by omega
    subst this
    omega
theorem Z54_pour {j : Nat} (h : Z54 w) (hj : j < 8) : Z54 (pourR w j x) := by
  unfold pourR
  refine Z54_upd ?_ (by omega)
  split
  · exact Z54_upd h (by omega)
  · exact h
theorem rl_pour (H : RelP N S D L n q T ac o t g) (x y : Int32) : OkL (fun h => bc 99 M_L_pour none 0 [some (.ref 0), some (.int x), some (.int y), some (.ref 88), none] [] h 0 0) (fun h => bc 99 M_X10_pour none 0 [some (.ref 49), some (.int x), some (.int y)] [] h 0 0) t g := by
  have h8 := (r_K H).2.1
  by_cases hx : 0 ≤ x.toInt ∧ x.toInt < N
  · obtain ⟨j, ex, hj⟩ := ex_nat hx
    subst ex
    have ho := ((r_R H).1 j hj).2.2.1.1
    by_cases hf : 0 ≤ y.toInt ∧ ¬ g.1 19 j < y ∧ ¬ y = g.1 29 (16 + j)
    · obtain ⟨R, z, e, hc⟩ := c_pour_y (d := 95) (t := t) (cn := 0) (sn := 0) (r_cA H) (r_K H) hj hf.1 hf.2.1 hf.2.2 ho
      have h1 : ∀ c i, ¬ c = 29 → (hR (gC (gA g R z (Int32.ofNat (pushA n ac (g.1 29)).1))) 29 (pourR (g.1 29) j y)).1 c i = (gC (gA g R z (Int32.ofNat (pushA n ac (g.1 29)).1))).1 c i := fun c i h => by rw [hR_at, if_neg (by omega)]
      have hF := fk_act (v := pourR (g.1 29) j y (8 + j)) h1
      obtain ⟨R2, e2, hm⟩ := m_pour_y (d := 97) (t := t) (w := g.1 29) (a := g.1 72) (k := g.1 73) (cn := 0) (sn := 0) (FrK_mAc hF (r_mA H)) (r_cA H).1 (FrK_MK hF (r_M H)) (r_K H) hj hf.1 hf.2.1 hf.2.2 ho
      rw [← FrK_row hF (c := 72) (by omega), ← FrK_row hF (c := 73) (by omega), r_gM (fun i hi => by rw [FrK_mrow hF, r_w H i hi])] at e2
      exact OkB_L (ok_act (Q := fun _ => True) trivial H (w' := pourR (g.1 29) j y) rfl h1 rfl (RI_pour (r_R H) (r_O H) h8 hj hf.1 hf.2.1) (Z54_pour (r_z H) (by omega)) hc (lx_pour_y (d := 98) e) e2 hm)
    · refine OkB_L (ok_ref (Q := fun _ => True) trivial H (lx_pour_y (d := 98) (c_pour_r (d := 95) (r_K H) hj hf)) (fun G hG hgm hM => ?_))
      have e2 := m_pour_r (d := 97) (t := t) (g := G) (w := g.1 29) (a := G.1 72) (k := G.1 73) (cn := 0) (sn := 0) hM (r_K H) hj hf
      rw [hgm] at e2
      exact e2
  · exact okL_n H (by decide) (lx_pour_1 (d := 98) (c_pour_n (d := 85) (r_K H) hx)) (rf_n H (f := fun h => bc 99 M_X10_pour none 0 [some (.ref 49), some (.int x), some (.int y)] [] h 0 0) (m_pour_n (d := 97) (r_M H) (r_K H) hx))
end ACTS3
