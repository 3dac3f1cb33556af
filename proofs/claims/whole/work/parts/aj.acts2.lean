/-! ===== the calls that change an evening: what holds behind them ===== -/
section ACTS2
variable {N S D L n q T n' q' T' : Nat} {ac ac' : Nat → Rw} {o : Option Im} {t : List px_E} {g g1 g2 G : hG} {w a k f : Rw} {v x y : Int32} {K : Kt}
/-- cells of the kitchen and the tape, of the class -/
def esC (c j : Nat) : Prop := c = 2 ∨ (c = 1 ∧ (j = 2 ∨ j = 3)) ∨ (c = 16 ∧ 10 ≤ j ∧ j ≤ 12) ∨ (17 ≤ c ∧ c ≤ 26) ∨ c = 30 ∨ c = 38 ∨ c = 42
theorem kC_esC (h : ∀ c j, esC c j → g1.1 c j = g.1 c j) : kC g1 = kC g := by
  funext c j
  unfold kC
  split
  all_goals first
    | rfl
    | (exact h _ _ (by unfold esC; omega))
    | (split <;> exact h _ _ (by unfold esC; omega))
/-- the class: another row, other acts, other things heard -/
theorem CI_act (H : CI N S D L n q T ac g) (hE : ∀ c j, esC c j → g1.1 c j = g.1 c j) (hRI : RI (kC g) N S 9999 (g1.1 29)) (hz : Z54 (g1.1 29)) (hA : cA n' ac' g1) (hA2 : ∀ i, i < n' → RI (kC g) N S 9999 (ac' i) ∧ Z54 (ac' i))
    (hH : q' ≤ 8 ∧ g1.1 34 2 = Int32.ofNat q' ∧ ∀ i, i < q' → (1 ≤ (g1.1 35 i).toInt ∧ (g1.1 35 i).toInt ≤ 60) ∧ (-1 ≤ (g1.1 36 i).toInt ∧ (g1.1 36 i).toInt ≤ 60)) (hP : ∀ dd, dd < D → g1.1 41 4 = Int32.ofNat dd → plOk (kC g) N S D L dd (g1.1 29) (g1.1 41) (g1.1 44))
    (hEa : g1.1 37 4 = 0 ∨ (g1.1 37 4 = 1 ∧ eaOk (kC g) N D L q' (g1.1 29) (g1.1 35) (g1.1 36) (g1.1 37))) : CI N S D L n' q' T ac' g1 := by
  obtain ⟨c1, c2, c3, c4, c5, c6, c7, c8, c9, c10, c11, c12⟩ := H
  have eK := kC_esC hE
  refine ⟨?_, ?_, ?_, hz, fun i hi => ?_, fun i hi => ?_, fun i hi => ?_, ⟨hA, ?_⟩, hH, ?_, ?_, ?_⟩
  · rw [eK]; exact c1
  · rw [eK]; exact c2
  · rw [eK]; exact hRI
  · rw [hE 30 i (by unfold esC; omega)]; exact c5 i hi
  · rw [hE 38 i (by unfold esC; omega)]; exact c6 i hi
  · rw [hE 42 i (by unfold esC; omega)]; exact c7 i hi
  · rw [eK]; exact hA2
  · rw [hE 1 2 (by unfold esC; omega)]; exact c10
  · rw [eK]; exact hP
  · rw [eK]; exact hEa
/-- both sides joined: the class's cells are those of g1, the reference's those of g2 -/
theorem RelP_join (hc : ∀ c j, c < 49 → g2.1 c j = g1.1 c j) (H : CI N S D L n q T ac g1) (m1 : MK (kC g1) N S D L g2) (m2 : ∀ i, i < 54 → mrow g2 i = g1.1 29 i) (m3 : mAc n ac g2) (m4 : g2.1 49 35 = Int32.ofNat q) (m5 : ∀ i, i < q → g2.1 78 i = g1.1 35 i ∧ g2.1 79 i = g1.1 36 i)
    (m6 : ∀ i, i < 3 → g2.1 62 i = g1.1 31 i) (m7 : g2.1 49 15 = Int32.ofNat T) (m8 : tapeR T (g1.1 2) (g2.1 63)) (m9 : g2.1 49 24 = g1.1 1 3) (ic : IC (kC g1) N S o t (g2.2.2 0 10) (g2.2.2 37 3) (g1.1 0 11)) (im : IM o g2) : RelP N S D L n q T ac o t g2 := by
  have er : ∀ c, c < 49 → g2.1 c = g1.1 c := fun c h => funext fun j => hc c j h
  have eK : kC g2 = kC g1 := kC_esC (fun c j h => hc c j (by unfold esC at h; omega))
  unfold CI cA at H
  unfold RelP CI MS cA
  rw [eK, er 29 (by omega), er 30 (by omega), er 38 (by omega), er 42 (by omega), er 32 (by omega), er 33 (by omega), er 34 (by omega), er 35 (by omega), er 36 (by omega), er 1 (by omega), er 41 (by omega), er 44 (by omega), er 37 (by omega), er 31 (by omega), er 2 (by omega), er 0 (by omega)]
  exact ⟨H, ⟨m1, m2, m3, m4, m5, m6, m7, m8, m9⟩, ic, im⟩
/-- the reference's cells alone are as they were -/
def FrK (g g1 : hG) : Prop := ∀ c j, 49 ≤ c → g1.1 c j = g.1 c j
theorem FrK_rf : FrK g g := fun _ _ _ => rfl
theorem FrK_hI {c i : Nat} (H : FrK g g1) (hc : c < 49) : FrK g (hI g1 c i x) := fun c' j h => by rw [hI_at, if_neg (by omega)]; exact H c' j h
theorem FrK_hR {c : Nat} (H : FrK g g1) (hc : c < 49) : FrK g (hR g1 c f) := fun c' j h => by rw [hR_at, if_neg (by omega)]; exact H c' j h
theorem FrK_hJ {c i : Nat} {x : Int64} (H : FrK g g1) : FrK g (hJ g1 c i x) := H
theorem FrK_gC (H : FrK g g1) : FrK g (gC g1) := FrK_hI (FrK_hI H (by omega)) (by omega)
theorem FrK_gA {m : Int32} (H : FrK g g1) : FrK g (gA g1 f x m) := FrK_hI (FrK_hI (FrK_hR H (by omega)) (by omega)) (by omega)
theorem FrK_gP {r : Nat} {s : Int32} {m : Int64} {v : Rw} (hr : r < 49) (H : FrK g g1) : FrK g (gP g1 r w s m v k) := FrK_hR (FrK_hR (FrK_hJ (FrK_hI (FrK_hR H hr) (by omega))) (by omega)) (by omega)
theorem FrK_row (H : FrK g g1) {c : Nat} (hc : 49 ≤ c) : g1.1 c = g.1 c := funext fun j => H c j hc
theorem MK_cong (h : ∀ c j, 52 ≤ c → c ≤ 61 → g1.1 c j = g.1 c j) (hM : MK K N S D L g) : MK K N S D L g1 := by
  have e : ∀ c, 52 ≤ c → c ≤ 61 → g1.1 c = g.1 c := fun c h1 h2 => funext fun j => h c j h1 h2
  unfold MK at hM ⊢
  rw [e 52 (by omega) (by omega), e 53 (by omega) (by omega), e 54 (by omega) (by omega), e 55 (by omega) (by omega), e 58 (by omega) (by omega), e 59 (by omega) (by omega), e 60 (by omega) (by omega), e 61 (by omega) (by omega)]
  exact hM
theorem mAc_cong (h1 : g1.1 49 34 = g.1 49 34) (h2 : g1.1 71 = g.1 71) (h : mAc n ac g) : mAc n ac g1 := by
  unfold mAc at h ⊢
  rw [h1, h2]; exact h
theorem cA_cong (h1 : g1.1 32 = g.1 32) (h2 : g1.1 33 = g.1 33) (h : cA n ac g) : cA n ac g1 := by
  unfold cA at h ⊢
  rw [h1, h2]; exact h
theorem IM_cong (h : ∀ c j, (83 ≤ c ∧ c ≤ 87) ∨ (c = 49 ∧ 50 ≤ j ∧ j ≤ 52) → g1.1 c j = g.1 c j) (im : IM o g) : IM o g1 := by
  have e : ∀ c, 83 ≤ c → c ≤ 87 → g1.1 c = g.1 c := fun c h1 h2 => funext fun j => h c j (Or.inl ⟨h1, h2⟩)
  unfold IM at im ⊢
  rw [h 49 50 (by omega), h 49 51 (by omega), h 49 52 (by omega), e 83 (by omega) (by omega), e 84 (by omega) (by omega), e 85 (by omega) (by omega), e 86 (by omega) (by omega), e 87 (by omega) (by omega)]
  exact im
theorem FrK_mrow (H : FrK g g1) (i : Nat) : mrow g1 i = mrow g i := mrow_of (fun c j h => H c j (by omega)) i
theorem FrK_MK (H : FrK g g1) (hM : MK K N S D L g) : MK K N S D L g1 := MK_cong (fun c j h1 h2 => H c j (by omega)) hM
theorem FrK_mAc (H : FrK g g1) (h : mAc n ac g) : mAc n ac g1 := mAc_cong (H 49 34 (by omega)) (FrK_row H (by omega)) h
/-- acts and rows that are kept are good -/
theorem push_all {P : Rw → Prop} (hw : P w) (h : ∀ i, i < n → P (ac i)) : ∀ i, i < (pushA n ac w).1 → P ((pushA n ac w).2 i) := by
  unfold pushA
  by_cases hn : n = 40
  · rw [if_pos hn]
    dsimp only
    intro i hi
    by_cases h9 : i = 39
    · rw [if_pos h9]; exact hw
    · rw [if_neg h9]; exact h _ (by omega)
  · rw [if_neg hn]
    dsimp only
    intro i hi
    by_cases h9 : i = n
    · rw [if_pos h9]; exact hw
    · rw [if_neg h9]; exact h _ (by omega)
theorem push_le (hn : n ≤ 40) : (pushA n ac w).1 ≤ 40 := by
  unfold pushA
  by_cases hn : n = 40
  · rw [if_pos hn]; exact Nat.le_refl _
  · rw [if_neg hn]; dsimp only; omega
theorem ofN_m1 {dd : Nat} (h : dd < 1000) : ¬ (-1 : Int32) = Int32.ofNat dd := fun z => by
  have := congrArg Int32.toInt z
  rw [ii_ofNat (by omega), ti_m1] at this
  omega
theorem RI_upd {T i : Nat} (h : RI K N S T w) (h8 : N ≤ 8) (hi : i < 40) (hc : ∀ j, j < N → (i = j → x = -1 ∨ (0 ≤ x.toInt ∧ x.toInt < S)) ∧ (i = 8 + j → 0 ≤ x.toInt ∧ x.toInt ≤ 150) ∧ (i = 16 + j → 0 ≤ x.toInt ∧ x.toInt ≤ (K 2 j).toInt) ∧ (i = 24 + j → 0 ≤ x.toInt ∧ x.toInt ≤ 9)) : RI K N S T (upd w i x) := by
  refine ⟨fun j hj => ?_, ?_⟩
  · obtain ⟨a1, a2, a3, a4, a5⟩ := h.1 j hj
    obtain ⟨b1, b2, b3, b4⟩ := hc j hj
    refine ⟨?_, ?_, ?_, ?_, ?_⟩
    · rw [upd_at]; split
      · next z => exact b1 z.symm
      · exact a1
    · rw [upd_at]; split
      · next z => exact b2 z.symm
      · exact a2
    · rw [upd_at]; split
      · next z => exact b3 z.symm
      · exact a3
    · rw [upd_at]; split
      · next z => exact b4 z.symm
      · exact a4
    · rw [upd_oth (by omega)]; exact a5
  · rw [upd_oth (by omega)]; exact h.2
/-- a refused call is counted -/
theorem RelP_ref (H : RelP N S D L n q T ac o t g) {i : Nat} (hi : i < 3) {z : Int32} (hG : ∀ c j, G.1 c j = (hI g 31 i (g.1 31 i + 1)).1 c j) (h22 : G.2.2 = g.2.2) : RelP N S D L n q T ac o t (gM (hI (hI G 49 2 z) 62 i (G.1 62 i + 1)) (g.1 29) a k) := by
  have hE : ∀ c j, ¬ (c = 31 ∧ j = i) → G.1 c j = g.1 c j := fun c j h => by rw [hG, hI_at, if_neg h]
  have hC : ∀ c j, c < 49 → (gM (hI (hI G 49 2 z) 62 i (G.1 62 i + 1)) (g.1 29) a k).1 c j = G.1 c j := fun c j h => by
    rw [gM_o (by omega), hI_at, if_neg (by omega), hI_at, if_neg (by omega)]
  have hM : ∀ c j, 49 ≤ c → ¬ (c = 49 ∧ (j = 33 ∨ j = 2)) → ¬ (c = 62 ∧ j = i) → ¬ (64 ≤ c ∧ c ≤ 70) → ¬ c = 72 → ¬ c = 73 → (gM (hI (hI G 49 2 z) 62 i (G.1 62 i + 1)) (g.1 29) a k).1 c j = g.1 c j := by
    intro c j h0 h1 h2 h3 h4 h5
    unfold gM mA
    dsimp only
    rw [if_neg h4, if_neg h5, if_neg (by omega), if_neg (by omega), if_neg (by omega), hI_at, if_neg h2, hI_at, if_neg (by omega)]
    exact hE c j (by omega)
  have hc : CI N S D L n q T ac G := CI_act H.1 (fun c j h => hE c j (by unfold esC at h; omega))
    (by rw [show G.1 29 = g.1 29 from funext fun j => hE 29 j (by omega)]; exact r_R H) (by rw [show G.1 29 = g.1 29 from funext fun j => hE 29 j (by omega)]; exact r_z H)
    (cA_cong (funext fun j => hE 32 j (by omega)) (funext fun j => hE 33 j (by omega)) H.1.2.2.2.2.2.2.2.1.1) H.1.2.2.2.2.2.2.2.1.2
    (by rw [hE 34 2 (by omega), show G.1 35 = g.1 35 from funext fun j => hE 35 j (by omega), show G.1 36 = g.1 36 from funext fun j => hE 36 j (by omega)]; exact H.1.2.2.2.2.2.2.2.2.1)
    (by rw [show G.1 29 = g.1 29 from funext fun j => hE 29 j (by omega), show G.1 41 = g.1 41 from funext fun j => hE 41 j (by omega), show G.1 44 = g.1 44 from funext fun j => hE 44 j (by omega)]; exact H.1.2.2.2.2.2.2.2.2.2.2.1)
    (by rw [show G.1 29 = g.1 29 from funext fun j => hE 29 j (by omega), show G.1 35 = g.1 35 from funext fun j => hE 35 j (by omega), show G.1 36 = g.1 36 from funext fun j => hE 36 j (by omega), show G.1 37 = g.1 37 from funext fun j => hE 37 j (by omega)]; exact H.1.2.2.2.2.2.2.2.2.2.2.2)
  have eK : kC G = kC g := kC_esC (fun c j h => hE c j (by unfold esC at h; omega))
  obtain ⟨-, ⟨m1, m2, m3, m4, m5, m6, m7, m8, m9⟩, ic, im⟩ := H
  refine RelP_join hC hc ?_ ?_ ?_ ?_ ?_ ?_ ?_ ?_ ?_ ?_ ?_
  · rw [eK]; exact MK_cong (fun c j h1 h2 => hM c j (by omega) (by omega) (by omega) (by omega) (by omega) (by omega)) m1
  · intro j hj; rw [mrow_gM hj, hE 29 j (by omega)]
  · exact mAc_cong (hM 49 34 (by omega) (by omega) (by omega) (by omega) (by omega) (by omega)) (funext fun j => hM 71 j (by omega) (by omega) (by omega) (by omega) (by omega) (by omega)) m3
  · rw [hM 49 35 (by omega) (by omega) (by omega) (by omega) (by omega) (by omega)]; exact m4
  · intro j hj
    rw [hM 78 j (by omega) (by omega) (by omega) (by omega) (by omega) (by omega), hM 79 j (by omega) (by omega) (by omega) (by omega) (by omega) (by omega), hE 35 j (by omega), hE 36 j (by omega)]; exact m5 j hj
  · intro j hj
    by_cases h : j = i
    · subst h
      rw [gM_o (by omega), hI_eq, hE 62 j (by omega), hG, hI_eq, m6 j hj]
    · rw [hM 62 j (by omega) (by omega) (by omega) (by omega) (by omega) (by omega), hE 31 j (by omega)]; exact m6 j hj
  · rw [hM 49 15 (by omega) (by omega) (by omega) (by omega) (by omega) (by omega)]; exact m7
  · rw [show (gM (hI (hI G 49 2 z) 62 i (G.1 62 i + 1)) (g.1 29) a k).1 63 = g.1 63 from funext fun j => hM 63 j (by omega) (by omega) (by omega) (by omega) (by omega) (by omega), show G.1 2 = g.1 2 from funext fun j => hE 2 j (by omega)]; exact m8
  · rw [hM 49 24 (by omega) (by omega) (by omega) (by omega) (by omega) (by omega), hE 1 3 (by omega)]; exact m9
  · rw [eK, hE 0 11 (by omega)]
    show IC (kC g) N S o t (G.2.2 0 10) (G.2.2 37 3) (g.1 0 11)
    rw [h22]; exact ic
  · exact IM_cong (fun c j h => hM c j (by omega) (by omega) (by omega) (by omega) (by omega) (by omega)) im
end ACTS2
