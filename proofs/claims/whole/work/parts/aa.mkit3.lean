/-! ===== the reference: the reading call, whole ===== -/
section MKIT3
variable {d : Nat} {t : List px_E} {g : hG} {n cn sn : Nat} {b q : Rw} {x : Int32} {σ : Sg} {a2 : Option Value}
set_option maxHeartbeats 2000000 in
/-- no fault: the kitchen is taken over -/
theorem m_kit_d (h : MQr b n q σ g) (h0 : σ.1 0 = 0) : ∃ g' : hG, g'.2 = g.2 ∧ (∀ c, ¬ c = 49 → ¬ (52 ≤ c ∧ c ≤ 61) → ¬ (64 ≤ c ∧ c ≤ 70) → g'.1 c = g.1 c) ∧
    (∀ j, ¬ (j = 33 ∨ j = 34 ∨ j = 35 ∨ j = 50) → g'.1 49 j = g.1 49 j) ∧ g'.1 49 33 = 0 ∧ g'.1 49 34 = 0 ∧ g'.1 49 35 = 0 ∧ g'.1 49 50 = 0 ∧
    g'.1 52 = thR 4 4 (g.1 52) ∧ g'.1 53 = thR 8 8 (g.1 53) ∧ g'.1 54 = thR 8 8 (g.1 54) ∧ g'.1 55 = thR 8 8 (g.1 55) ∧ g'.1 56 = thR 8 8 (g.1 56) ∧ g'.1 57 = thR 8 8 (g.1 57) ∧ g'.1 58 = thR 4 4 (g.1 58) ∧ g'.1 59 = thR 5 5 (g.1 59) ∧ g'.1 60 = thR 15 15 (g.1 60) ∧ g'.1 61 = thR 600 600 (g.1 61) ∧
    mrow g' = opnR (fun j => g.1 56 (8 + j)) (fun j => g.1 57 (8 + j)) (σ.1 6) ∧
    bc (d + 2) M_X10_kitchen none 99 [some (.ref 49), some (.int x), a2] [] (hp t g) cn sn = some (.inl (some (.int 0)), hp t g', cn, sn) := by
  have f0 := bad_e h
  have h52 : g.1 52 4 = Int32.ofNat (σ.1 6) := (h.2.2.2.1 h0).1.1
  obtain ⟨g', k1, k2, k3, k4, k5, k6, k7, k8, k9, k10, k11, k12, k13, k14, k15, k16, k17, k18, e⟩ := m_take (d := d) (t := t) (cn := 0) (sn := 0) (h.2.2.2.2 h0).1 h52
  refine ⟨g', k1, k2, k3, k4, k5, k6, k7, k8, k9, k10, k11, k12, k13, k14, k15, k16, k17, k18, ?_⟩
  simp (disch := omega) only [st_X10_kitchen_99, st_X10_kitchen_100, st_X10_kitchen_103, st_X10_kitchen_129, st_X10_kitchen_133, st_X10_kitchen_134, st_X10_kitchen_130 (p := 49) hq_49 ps_, bM_some, hg_49_22, f0.trans (eq_true h0), if_true, e, bC_inl, Option.toList, List.nil_append, Nat.add_zero, Nat.reduceAdd]
/-- the reference's row of an evening that begins, by the kitchen that was read -/
theorem opn_eq {P Q P' Q' : Rw} {N : Nat} (hP : ∀ j, j < N → P j = P' j) (hQ : ∀ j, j < N → Q j = Q' j) : opnR P Q N = opnR P' Q' N := by
  funext i
  unfold opnR
  by_cases h1 : i - 16 < N
  · by_cases h2 : i - 24 < N
    · rw [hP _ h1, hQ _ h2]
    · rw [hP _ h1, if_neg h2, if_neg h2]
  · by_cases h2 : i - 24 < N
    · rw [hQ _ h2, if_neg h1, if_neg h1]
    · rw [if_neg h1, if_neg h1, if_neg h2, if_neg h2]
theorem opn_z {P Q : Rw} {N : Nat} : Z54 (opnR P Q N) := by
  intro i hi
  unfold opnR
  rw [if_neg (show ¬ i < 8 by omega), if_neg (show ¬ i < 16 by omega), if_neg (show ¬ i < 24 by omega), if_neg (show ¬ i < 32 by omega), if_neg (show ¬ i < 40 by omega), if_neg (show ¬ i < 53 by omega)]
end MKIT3
