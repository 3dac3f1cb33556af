/-! ===== kitchen: side by side ===== -/
section KITCHEN3
variable {N S D L n q T n' q' T' : Nat} {ac ac' : Nat → Rw} {o : Option Im} {t t1 : List px_E} {g g1 g2 G B gc : hG} {w w' a k f : Rw} {v x y : Int32} {K : Kt}
theorem MK_sm (hK : KN K N S D L) (h : SmM g g1) (hM : MK K N S D L g) : MK K N S D L g1 := by
  obtain ⟨-, -, s3, s4, s5, s6, s7⟩ := h
  obtain ⟨⟨a0, a1, a2, a3⟩, b, c, d, e, f⟩ := hM
  obtain ⟨-, k8, -, k4, -, k5, -, k6, k7⟩ := hK
  refine ⟨⟨?_, ?_, ?_, ?_⟩, fun j hj => ?_, fun j hj => ?_, fun j hj => ?_, fun j i hj hi => ?_, fun i hi => ?_⟩
  · rw [(s3 0 (by omega)).1]; exact a0
  · rw [(s3 1 (by omega)).1]; exact a1
  · rw [(s3 2 (by omega)).1]; exact a2
  · rw [(s3 3 (by omega)).1]; exact a3
  · obtain ⟨p1, p2, p3, -, -⟩ := s4 j (by omega)
    rw [p1, p2, p3]; exact b j hj
  · rw [(s3 j (by omega)).2]; exact c j hj
  · rw [s5 j (by omega)]; exact d j hj
  · obtain ⟨M, hM, hM3⟩ := k7 j hj
    have hi' := hi
    rw [hM, nn_clamp (by omega)] at hi'
    rw [s6 (3 * j + i) (by omega)]; exact e j i hj hi
  · rw [s7 i (by omega)]; exact f i hi
/-- the class behind a reading: only Reader and status are touched -/
theorem CI_rd (H : CI N S D L n q T ac g) (hE : ∀ c j, c < 49 → 14 ≤ c → ¬ c = 31 → g1.1 c j = g.1 c j) (hT : g1.1 1 2 = Int32.ofNat T' ∧ T' ≤ 600) : CI N S D L n q T' ac g1 := by
  have r : ∀ c, c < 49 → 14 ≤ c → ¬ c = 31 → g1.1 c = g.1 c := fun c h1 h2 h3 => funext fun j => hE c j h1 h2 h3
  have eK : kC g1 = kC g := kC_esC' (fun c j h1 h2 => hE c j (by omega) (by omega) (by omega))
  obtain ⟨c1, c2, c3, c4, c5, c6, c7, c8, c9, c10, c11, c12⟩ := H
  unfold CI cA
  unfold cA at c8
  rw [eK, r 29 (by omega) (by omega) (by omega), r 30 (by omega) (by omega) (by omega), r 38 (by omega) (by omega) (by omega), r 42 (by omega) (by omega) (by omega), r 32 (by omega) (by omega) (by omega), r 33 (by omega) (by omega) (by omega), r 34 (by omega) (by omega) (by omega), r 35 (by omega) (by omega) (by omega), r 36 (by omega) (by omega) (by omega), r 41 (by omega) (by omega) (by omega), r 44 (by omega) (by omega) (by omega), r 37 (by omega) (by omega) (by omega)]
  exact ⟨c1, c2, c3, c4, c5, c6, c7, c8, c9, hT, c11, c12⟩
theorem kq_o {r : Rw} {j : Nat} (h : ¬ j = 2 ∧ ¬ j = 15 ∧ ¬ j = 24) : kq r j = r j := by
  unfold kq
  rw [upd_oth (by omega), upd_oth (by omega), upd_oth (by omega)]
theorem IC_none {a b : Value} {K' : Kt} {N' S' : Nat} (ic : IC K N S o t a b x) : IC K' N' S' none t a b 0 := by
  cases o with
  | none => exact ⟨rfl, ic.2⟩
  | some o =>
    obtain ⟨-, R, A, f, m, M, Q, n0, s, hz, h, -⟩ := ic
    exact ⟨rfl, Or.inr ⟨R, A, f, m, M, Q, n0, s, hz, h⟩⟩
/-- a text with a fault -/
theorem RelP_kf (H : RelP N S D L n q T ac o t g) {m : Nat} {b : Rw} {σ : Sg} {g' : hG} (hσ : ¬ σ.1 0 = 0) (hc : CR b m σ g1) (hs : Sm g g1) (h1 : ∀ c j, G.1 c j = (hI g1 31 0 (g1.1 31 0 + 1)).1 c j) (h22 : G.2.2 = g1.2.2) (hm : MQr b m (kq (G.1 49)) σ g') (hsm : SmM G g') : RelP N S D L n q 0 ac o t (hI (hI g' 49 24 (g'.1 49 23)) 62 0 (g'.1 62 0 + 1)) := by
  have hE : ∀ c j, (c = 0 ∨ c = 2 ∨ 14 ≤ c) → ¬ (c = 31 ∧ j = 0) → G.1 c j = g.1 c j := fun c j h h' => by rw [h1, hI_at, if_neg h', hs.2 c h]
  have rt : RT m σ (g1.1 1) := hc.2.2.1
  have rn : RN m (kq (G.1 49)) σ (g'.1 49) := hm.2.2.1
  have r49 : ∀ j, 23 < j → ¬ j = 24 → g'.1 49 j = g.1 49 j := fun j h h' => by
    rw [rn.2.2.2.2 j (Or.inr h), kq_o (by omega)]; exact hE 49 j (by omega) (by omega)
  have hg : ∀ c j, ¬ c = 49 → (c < 52 ∨ 61 < c) → g'.1 c j = G.1 c j := fun c j a1 a2 => congrFun (hsm.2.1 c a1 a2) j
  have hM : ∀ c j, 61 < c → ¬ (c = 62 ∧ j = 0) → (hI (hI g' 49 24 (g'.1 49 23)) 62 0 (g'.1 62 0 + 1)).1 c j = g.1 c j := fun c j a1 a2 => by
    rw [hI_at, if_neg a2, hI_at, if_neg (by omega), hg c j (by omega) (by omega)]; exact hE c j (by omega) (by omega)
  have h49 : ∀ j, 23 < j → ¬ j = 24 → (hI (hI g' 49 24 (g'.1 49 23)) 62 0 (g'.1 62 0 + 1)).1 49 j = g.1 49 j := fun j a1 a2 => by
    rw [hI_at, if_neg (by omega), hI_at, if_neg (by omega)]; exact r49 j a1 a2
  have eK : kC G = kC g := kC_esC' (fun c j _ _ => hE c j (by omega) (by omega))
  have hcK := r_K H
  have eG1 : ∀ j, G.1 1 j = g1.1 1 j := fun j => by rw [h1, hI_at, if_neg (by omega)]
  obtain ⟨hci, ⟨m1, m2, m3, m4, m5, m6, m7, m8, m9⟩, ic, im⟩ := H
  refine RelP_join (g1 := G) (fun c j h => ?_) (CI_rd hci (fun c j _ a2 a3 => hE c j (by omega) (by omega)) ⟨by rw [eG1]; exact rt.1, by omega⟩) ?_ ?_ ?_ ?_ ?_ ?_ ?_ ?_ ?_ ?_ ?_
  · rw [hI_at, if_neg (by omega), hI_at, if_neg (by omega), hg c j (by omega) (by omega)]
  · rw [eK]
    refine MK_cong (g := g') (fun c j a1 a2 => ?_) (MK_sm hcK hsm (MK_cong (fun c j a1 a2 => hE c j (by omega) (by omega)) m1))
    rw [hI_at, if_neg (by omega), hI_at, if_neg (by omega)]
  · intro i hi
    rw [hE 29 i (by omega) (by omega), ← m2 i hi]
    refine mrow_of (fun c j h => ?_) i
    rcases h with h | ⟨h, h'⟩
    · exact hM c j (by omega) (by omega)
    · rw [h, h']; exact h49 33 (by omega) (by omega)
  · exact mAc_cong (h49 34 (by omega) (by omega)) (funext fun j => hM 71 j (by omega) (by omega)) m3
  · rw [h49 35 (by omega) (by omega)]; exact m4
  · intro j hj
    rw [hM 78 j (by omega) (by omega), hM 79 j (by omega) (by omega), hE 35 j (by omega) (by omega), hE 36 j (by omega) (by omega)]; exact m5 j hj
  · intro j hj
    by_cases h : j = 0
    · subst h
      rw [hI_eq, hg 62 0 (by omega) (by omega), hE 62 0 (by omega) (by omega), h1 31 0, hI_eq, hs.2 31 (by omega), m6 0 hj]
    · rw [hM 62 j (by omega) (by omega), hE 31 j (by omega) (by omega)]; exact m6 j hj
  · rw [hI_at, if_neg (by omega), hI_at, if_neg (by omega), rn.2.2.2.2 15 (by omega)]; rfl
  · intro i hi; omega
  · rw [hI_at, if_neg (by omega), hI_eq, rn.2.2.1 hσ, eG1, (rt.2.2.2.1 hσ).2]
  · rw [eK, hE 0 11 (by omega) (by omega)]
    show IC (kC g) N S o t (g'.2.2 0 10) (g'.2.2 37 3) (g.1 0 11)
    rw [hsm.1, h22, hs.1]; exact ic
  · refine IM_cong (fun c j h => ?_) im
    rcases h with h | ⟨h, h', h''⟩
    · exact hM c j (by omega) (by omega)
    · rw [h]; exact h49 j (by omega) (by omega)
theorem tkG_at {c j : Nat} (h : c < 16 ∨ 26 < c) : (tkG g).1 c j = g.1 c j := by
  unfold tkG
  rw [hR_at, if_neg (by omega), hI_at, if_neg (by omega), hR_at, if_neg (by omega), hR_at, if_neg (by omega), hR_at, if_neg (by omega), hR_at, if_neg (by omega), hR_at, if_neg (by omega), hR_at, if_neg (by omega), hR_at, if_neg (by omega), hR_at, if_neg (by omega), hI_at, if_neg (by omega), hI_at, if_neg (by omega), hI_at, if_neg (by omega)]
theorem kdG_at {m c j : Nat} (h : ¬ c = 29 ∧ ¬ c = 32 ∧ ¬ c = 34 ∧ ¬ c = 0 ∧ ¬ c = 41 ∧ ¬ c = 37) : (kdG g m).1 c j = (tkG g).1 c j := by
  unfold kdG
  rw [hI_at, if_neg (by omega), hI_at, if_neg (by omega), hI_at, if_neg (by omega), hI_at, if_neg (by omega), hI_at, if_neg (by omega), hI_at, if_neg (by omega), hR_at, if_neg (by omega)]
/-- a text without: another kitchen -/
theorem RelP_kd (H : RelP N S D L n q T ac o t g) {m : Nat} {b : Rw} {σ : Sg} {g' : hG} (hD : DGk σ) (hC : DCo σ) (h0 : σ.1 0 = 0) (hc : CR b m σ g1) (hs : Sm g g1) (h1 : ∀ c j, G.1 c j = (kdG g1 (σ.1 6)).1 c j) (h22 : G.2.2 = g1.2.2) (hm : MQr b m (kq (G.1 49)) σ g') (hsm : SmM G g')
    (k1 : g2.2 = g'.2) (k2 : ∀ c, ¬ c = 49 → ¬ (52 ≤ c ∧ c ≤ 61) → ¬ (64 ≤ c ∧ c ≤ 70) → g2.1 c = g'.1 c) (k3 : ∀ j, ¬ (j = 33 ∨ j = 34 ∨ j = 35 ∨ j = 50) → g2.1 49 j = g'.1 49 j) (k5 : g2.1 49 34 = 0) (k6 : g2.1 49 35 = 0) (k7 : g2.1 49 50 = 0)
    (km : MK (kC (tkG g1)) (σ.1 6) (σ.1 7) (σ.1 8) (σ.1 9) g2) (kr : mrow g2 = opnR ((tkG g1).1 20) ((tkG g1).1 21) (σ.1 6)) : RelP (σ.1 6) (σ.1 7) (σ.1 8) (σ.1 9) 0 0 0 ac none t g2 := by
  have hE : ∀ c j, 14 ≤ c → ¬ (16 ≤ c ∧ c ≤ 26) → ¬ c = 29 → ¬ c = 32 → ¬ c = 34 → ¬ c = 41 → ¬ c = 37 → G.1 c j = g.1 c j := fun c j a1 a2 a3 a4 a5 a6 a7 => by
    rw [h1, kdG_at ⟨a3, a4, a5, by omega, a6, a7⟩, tkG_at (by omega), hs.2 c (by omega)]
  have rt : RT m σ (g1.1 1) := hc.2.2.1
  have rn : RN m (kq (G.1 49)) σ (g'.1 49) := hm.2.2.1
  have hg : ∀ c j, ¬ c = 49 → (c < 52 ∨ 61 < c) → g'.1 c j = G.1 c j := fun c j a1 a2 => congrFun (hsm.2.1 c a1 a2) j
  have eK : kC G = kC (tkG g1) := kC_esC' (fun c j a1 a2 => by rw [h1, kdG_at (by omega)])
  have eG1 : ∀ j, G.1 1 j = g1.1 1 j := fun j => by rw [h1, kdG_at (by omega), tkG_at (by omega)]
  have e29 : G.1 29 = opnR ((tkG g1).1 20) ((tkG g1).1 21) (σ.1 6) := (funext fun j => h1 29 j : G.1 29 = (kdG g1 (σ.1 6)).1 29).trans rfl
  have hH : ∀ c j, 62 ≤ c → ¬ (64 ≤ c ∧ c ≤ 70) → g2.1 c j = g.1 c j := fun c j a1 a2 => by
    rw [k2 c (by omega) (by omega) (by omega), hg c j (by omega) (by omega)]; exact hE c j (by omega) (by omega) (by omega) (by omega) (by omega) (by omega) (by omega)
  have hci : CI (σ.1 6) (σ.1 7) (σ.1 8) (σ.1 9) 0 0 0 ac G := by
    refine ⟨?_, ?_, ?_, ?_, fun i hi => ?_, fun i hi => ?_, fun i hi => ?_, ⟨⟨by omega, 0, by omega, ?_, ?_, fun i hi => by omega⟩, fun i hi => by omega⟩, ⟨by omega, ?_, fun i hi => by omega⟩, ⟨?_, by omega⟩, fun dd hd h => ?_, Or.inl ?_⟩
    · rw [eK]; exact KN_tk hc h0 hD
    · rw [eK]; exact KO_tk hc h0 hD hC
    · rw [eK, e29]; exact RI_tk hc h0 hD
    · rw [e29]; exact opn_z
    · rw [hE 30 i (by omega) (by omega) (by omega) (by omega) (by omega) (by omega) (by omega)]; exact r_30 H i hi
    · rw [hE 38 i (by omega) (by omega) (by omega) (by omega) (by omega) (by omega) (by omega)]; exact r_38 H i hi
    · rw [hE 42 i (by omega) (by omega) (by omega) (by omega) (by omega) (by omega) (by omega)]; exact r_42 H i hi
    · rw [h1 32 1]; rfl
    · rw [h1 32 2]; rfl
    · rw [h1 34 2]; rfl
    · rw [eG1]; exact rt.1
    · rw [h1 41 4] at h
      have h5 := (KN_tk hc h0 hD).2.2.2.2.2.1
      exact absurd (show (-1 : Int32) = Int32.ofNat dd from h) (ofN_m1 (by omega))
    · rw [h1 37 4]; rfl
  obtain ⟨-, ⟨m1, m2, m3, m4, m5, m6, m7, m8, m9⟩, ic, im⟩ := H
  refine RelP_join (g1 := G) (fun c j h => ?_) hci ?_ ?_ ⟨k5, fun i hi => by omega⟩ k6 (fun i hi => by omega) ?_ ?_ (fun i hi => by omega) ?_ ?_ k7
  · rw [k2 c (by omega) (by omega) (by omega), hg c j (by omega) (by omega)]
  · rw [eK]; exact km
  · intro i hi; rw [kr, e29]
  · intro j hj
    rw [hH 62 j (by omega) (by omega), hE 31 j (by omega) (by omega) (by omega) (by omega) (by omega) (by omega) (by omega)]; exact m6 j hj
  · rw [k3 15 (by omega), rn.2.2.2.2 15 (by omega)]; rfl
  · rw [k3 24 (by omega), rn.2.2.2.2 24 (by omega), eG1, (rt.2.2.2.2 h0).1]; rfl
  · have e0 : G.1 0 11 = 0 := by rw [h1 0 11]; rfl
    rw [e0, k1, hsm.1, h22, hs.1]
    exact IC_none ic
theorem rl_kitchen (H : RelP N S D L n q T ac o t g) (x : Int32) : OkL (fun h => bc 99 M_L_kitchen none 0 [some (.ref 0), some (.int x), some (.ref 88), none] [] h 0 0) (fun h => bc 99 M_X10_kitchen none 0 [some (.ref 49), some (.int x), none] [] h 0 0) t g := by
  have hT : g.1 1 2 = Int32.ofNat T ∧ T ≤ 600 := H.1.2.2.2.2.2.2.2.2.2.1
  have mT : g.1 49 15 = Int32.ofNat T := H.2.1.2.2.2.2.2.2.1
  by_cases hx : x < 0 ∨ Int32.ofNat T < x
  · exact okL_n H (by decide) (lx_kitchen_0 (d := 98) (c_kit_no (d := 86) hT.1 hx)) ⟨_, m_kit_no (d := 98) mT hT.2 hx, Fr_hI (Fr_rf H) nes492, hI_eq⟩
  · have h0 : ¬ x < 0 := fun z => hx (Or.inl z)
    have h1 : ¬ Int32.ofNat T < x := fun z => hx (Or.inr z)
    rw [ii_lt, ti_0] at h0
    rw [ii_lt, ii_ofNat (by omega)] at h1
    obtain ⟨m, ex, hm⟩ := ex_nat (x := x) (N := T + 1) (by omega)
    subst ex
    obtain ⟨g1, hc, hs, e⟩ := c_kit (d := 44) (t := t) (cn := 0) (sn := 0) hT.1 hT.2 (show m ≤ T by omega) (r_z H)
    have hD := DG_read (K := dC g) (b := g.1 2) (n := m) (by omega)
    have hC := DC_read (K := dC g) (b := g.1 2) (n := m) (by omega)
    generalize hσ : pRead (g.1 2) m (sg0 (dC g)) = σ at hc e hD hC
    by_cases hz : σ.1 0 = 0
    · rw [if_pos hz] at e
      have hG : ∀ c j, (hJ (kdG g1 (σ.1 6)) 88 0 (0 : Int32).toInt64).1 c j = (kdG g1 (σ.1 6)).1 c j := fun _ _ => rfl
      have hE : ∀ c, 45 ≤ c → (hJ (kdG g1 (σ.1 6)) 88 0 (0 : Int32).toInt64).1 c = g.1 c := fun c h => funext fun j => by
        rw [hG, kdG_at (by omega), tkG_at (by omega), hs.2 c (by omega)]
      obtain ⟨g', a2, hq, hsm, e2⟩ := m_kit (d := 45) (t := t) (g := hJ (kdG g1 (σ.1 6)) 88 0 (0 : Int32).toInt64) (cn := 0) (sn := 0) (K := dC g) (b := g.1 2) (T := T) (n := m) (by rw [hE 63 (by omega)]; exact H.2.1.2.2.2.2.2.2.2.1) (by rw [hE 49 (by omega)]; exact mT) (by omega) hT.2
      rw [hσ] at hq
      obtain ⟨g2, k1, k2, k3, k4, k5, k6, k7, e52, e53, e54, e55, e56, e57, e58, e59, e60, e61, kr, e3⟩ := m_kit_d (d := 97) (t := t) (cn := 0) (sn := 0) (x := Int32.ofNat m) (a2 := a2) hq hz
      have km := MK_tk (g' := g2) hq hc hz hD e52 e53 e54 e55 e58 e59 e60 e61
      rw [row_tk hq hc hz] at kr
      have R := RelP_kd H hD hC hz hc hs hG rfl hq hsm k1 k2 k3 k5 k6 k7 km kr
      refine ⟨0, 0, t, _, g2, 0, 0, lx_kitchen_y (d := 98) e, e2.trans e3, ?_, fun _ => ?_, RelP_rel R, by omega, by omega⟩
      · rw [k3 2 (by omega), hq.2.2.1.2.2.2.2 2 (by omega)]; rfl
      · rw [k1, hsm.1]; exact hJ88
    · rw [if_neg hz] at e
      have hG : ∀ c j, (hJ (hI g1 31 0 (g1.1 31 0 + 1)) 88 0 (Int32.ofNat (σ.1 0)).toInt64).1 c j = (hI g1 31 0 (g1.1 31 0 + 1)).1 c j := fun _ _ => rfl
      have hE : ∀ c, 45 ≤ c → (hJ (hI g1 31 0 (g1.1 31 0 + 1)) 88 0 (Int32.ofNat (σ.1 0)).toInt64).1 c = g.1 c := fun c h => funext fun j => by
        rw [hG, hI_at, if_neg (by omega), hs.2 c (by omega)]
      obtain ⟨g', a2, hq, hsm, e2⟩ := m_kit (d := 45) (t := t) (g := hJ (hI g1 31 0 (g1.1 31 0 + 1)) 88 0 (Int32.ofNat (σ.1 0)).toInt64) (cn := 0) (sn := 0) (K := dC g) (b := g.1 2) (T := T) (n := m) (by rw [hE 63 (by omega)]; exact H.2.1.2.2.2.2.2.2.2.1) (by rw [hE 49 (by omega)]; exact mT) (by omega) hT.2
      rw [hσ] at hq
      have h22 : g'.1 49 22 = Int32.ofNat (σ.1 0) := hq.2.2.1.2.1
      have h5 : σ.1 0 ≤ 5 := hc.2.1.2.1
      have hne : ¬ g'.1 49 22 = 0 := by
        rw [h22, show (0 : Int32) = Int32.ofNat 0 from rfl, nn_inj (by omega) (by omega)]; exact hz
      have e3 := m_kit_f (d := 98) (t := t) (cn := 0) (sn := 0) (x := Int32.ofNat m) (a2 := a2) hne
      rw [h22] at e3
      have R := RelP_kf H hz hc hs hG rfl hq hsm
      refine ⟨0, Int32.ofNat (σ.1 0), t, _, _, 0, 0, lx_kitchen_y (d := 98) e, e2.trans e3, ?_, fun _ => ?_, RelP_rel R, by omega, by omega⟩
      · rw [hI_at, if_neg (by omega), hI_at, if_neg (by omega), hq.2.2.1.2.2.2.2 2 (by omega)]; rfl
      · show g'.2.1 88 0 = _
        rw [hsm.1]; exact hJ88
end KITCHEN3
