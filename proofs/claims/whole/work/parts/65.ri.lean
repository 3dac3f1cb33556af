/-! ===== what holds of a row holds a minute later ===== -/
section RIP
variable {K : Kt} {N S D L T : Nat} {w : Rw}
theorem px_max_i {a b : Int32} : (px_max a b).toInt = max a.toInt b.toInt := by
  unfold px_max
  by_cases h : a < b
  · rw [if_pos h]; rw [ii_lt] at h; omega
  · rw [if_neg h]; rw [ii_lt] at h; omega
theorem px_min_i {a b : Int32} : (px_min a b).toInt = min a.toInt b.toInt := by
  unfold px_min
  by_cases h : b < a
  · rw [if_pos h]; rw [ii_lt] at h; omega
  · rw [if_neg h]; rw [ii_lt] at h; omega
theorem ii_div {a b : Int32} (h0 : 0 ≤ a.toInt) (h1 : 0 < b.toInt) : (a / b).toInt = a.toInt / b.toInt := by
  rw [Int32.toInt_div]
  have h2 : a.toInt.tdiv b.toInt = a.toInt / b.toInt := Int.tdiv_eq_ediv_of_nonneg h0
  have h3 : 0 ≤ a.toInt / b.toInt := Int.ediv_nonneg h0 (by omega)
  have h4 : a.toInt / b.toInt ≤ a.toInt := Int.ediv_le_self _ h0
  have h5 := Int32.toInt_lt a
  rw [h2]
  exact Int.bmod_eq_of_le (by omega) (by omega)
theorem gainR_b {m p : Int32} (hm : 5 ≤ m.toInt) (hm2 : m.toInt ≤ 50) (hp : 0 ≤ p.toInt) (hp2 : p.toInt ≤ 40) : 1 ≤ (gainR m p).toInt ∧ (gainR m p).toInt ≤ 400 := by
  unfold gainR
  have h0 : 0 < m := by rw [ii_lt, ti_0]; omega
  rw [if_pos h0, px_max_i, ti_1]
  have e1 : (10 * p).toInt = 10 * p.toInt := by rw [ii_mul] <;> rw [ti_10] <;> omega
  rw [ii_div (by omega) (by omega), e1]
  have h3 : 10 * p.toInt / m.toInt ≤ 10 * p.toInt := Int.ediv_le_self _ (by omega)
  omega
theorem warm_b {j : Nat} {p : Int32} (hh : 0 ≤ (w (8 + j)).toInt ∧ (w (8 + j)).toInt ≤ 150) (hf : 0 ≤ (w (16 + j)).toInt ∧ (w (16 + j)).toInt ≤ 40) (hp : 0 ≤ p.toInt ∧ p.toInt ≤ 40) :
    0 ≤ (warmR K p j w (8 + j)).toInt ∧ (warmR K p j w (8 + j)).toInt ≤ 150 := by
  unfold warmR
  split
  · rw [upd_same, px_max_i, ti_0]
    have e : (w (8 + j) - (if K 0 j = 3 then 1 else 2)).toInt ≤ (w (8 + j)).toInt := by
      split
      · rw [ii_sub] <;> rw [ti_1] <;> omega
      · rw [ii_sub] <;> rw [ti_2] <;> omega
    omega
  · rw [upd_same, px_min_i, ti_150]
    have em : 5 ≤ (w (16 + j) + (if K 0 j = 2 then 10 else 5)).toInt ∧ (w (16 + j) + (if K 0 j = 2 then 10 else 5)).toInt ≤ 50 := by
      split
      · rw [ii_add] <;> rw [ti_10] <;> omega
      · rw [ii_add] <;> rw [ti_5] <;> omega
    have eg := gainR_b em.1 em.2 hp.1 hp.2
    have e : (w (8 + j) + gainR (w (16 + j) + (if K 0 j = 2 then 10 else 5)) p).toInt = (w (8 + j)).toInt + (gainR (w (16 + j) + (if K 0 j = 2 then 10 else 5)) p).toInt := by
      rw [ii_add] <;> omega
    omega
theorem powerR_b (hK : KN K N S D L) (hO : KO K N S D L) {o : Int32} (ho : o = -1 ∨ (0 ≤ o.toInt ∧ o.toInt < S)) : 0 ≤ (powerR K o).toInt ∧ (powerR K o).toInt ≤ 40 := by
  unfold powerR
  rcases ho with ho | ⟨h1, h2⟩
  · rw [ho, if_pos (by decide), ti_0]; decide
  · rw [if_neg (by rw [ii_lt, ti_0]; omega)]
    split
    · have := ii_clamp (a := o)
      have := hO.2.1 o.toNatClampNeg (by omega)
      omega
    · rw [ti_0]; decide
theorem hvR_h {j : Nat} (hj : j < 8) : hvR K j w (8 + j) = warmR K (powerR K (w j)) j w (8 + j) := by
  unfold hvR voiceR
  repeat' split
  · rw [upd_oth (by omega)]
  · rw [upd_oth (by omega)]
  · rw [upd_oth (by omega), upd_oth (by omega)]
theorem hvR_o {j i : Nat} (hj : j < 8) (h : i = j ∨ i = 16 + j ∨ i = 24 + j) : hvR K j w i = w i := by
  unfold hvR
  have e : warmR K (powerR K (w j)) j w i = w i := by unfold warmR; split <;> rw [upd_oth (by omega)]
  rw [← e]
  unfold voiceR
  repeat' split
  · rw [upd_oth (by omega)]
  · rw [upd_oth (by omega)]
  · rw [upd_oth (by omega), upd_oth (by omega)]
/-- who sings can -/
theorem hvR_s {j : Nat} (hj : j < 8) (h : ¬ hvR K j w (40 + j) = -1) : ¬ warmR K (powerR K (w j)) j w (8 + j) < 100 ∧ ¬ couldR K j w = 0 := by
  unfold hvR voiceR at h
  have e : couldR K j (warmR K (powerR K (w j)) j w) = couldR K j w := by
    have e1 : warmR K (powerR K (w j)) j w (16 + j) = w (16 + j) := by unfold warmR; split <;> rw [upd_oth (by omega)]
    have e2 : warmR K (powerR K (w j)) j w (24 + j) = w (24 + j) := by unfold warmR; split <;> rw [upd_oth (by omega)]
    unfold couldR; rw [e1, e2]
  rw [e] at h
  split at h
  · rw [upd_same] at h; exact absurd rfl h
  · split at h
    · rw [upd_same] at h; exact absurd rfl h
    · exact ⟨by assumption, by assumption⟩
theorem couldR_iff {j : Nat} (hs : (K 2 j).toInt ≤ 40) (hs0 : 0 ≤ (K 2 j).toInt) (hf : 0 ≤ (w (16 + j)).toInt) (hf2 : (w (16 + j)).toInt ≤ 40) : (¬ couldR K j w = 0) ↔ (1 ≤ (w (16 + j)).toInt ∧ 10 * (w (16 + j)).toInt ≤ 9 * (K 2 j).toInt ∧ ¬ w (24 + j) = 9) := by
  unfold couldR
  have e1 : (9 * K 2 j).toInt = 9 * (K 2 j).toInt := by rw [ii_mul] <;> rw [ti_9] <;> omega
  have e2 : (10 * w (16 + j)).toInt = 10 * (w (16 + j)).toInt := by rw [ii_mul] <;> rw [ti_10] <;> omega
  simp only [ii_lt, e1, e2, ti_1]
  split
  · exact ⟨fun h => absurd rfl h, fun h => by omega⟩
  · split
    · exact ⟨fun h => absurd rfl h, fun h => by omega⟩
    · split
      · exact ⟨fun h => absurd rfl h, fun h => absurd (by assumption) h.2.2⟩
      · exact ⟨fun _ => ⟨by omega, by omega, by assumption⟩, fun _ => by decide⟩
theorem hbR_fc {j : Nat} (hj : j < 8) (hs : (K 2 j).toInt ≤ 40) (hs0 : 0 ≤ (K 2 j).toInt) (hf : 0 ≤ (w (16 + j)).toInt) (hf2 : (w (16 + j)).toInt ≤ (K 2 j).toInt) (hc : 0 ≤ (w (24 + j)).toInt ∧ (w (24 + j)).toInt ≤ 9) :
    (0 ≤ (hbR K j w (16 + j)).toInt ∧ (hbR K j w (16 + j)).toInt ≤ (w (16 + j)).toInt) ∧ (0 ≤ (hbR K j w (24 + j)).toInt ∧ (hbR K j w (24 + j)).toInt ≤ 9) ∧ (hbR K j w (40 + j) = -1 → hbR K j w (16 + j) = w (16 + j) ∧ hbR K j w (24 + j) = w (24 + j)) := by
  have e1 := hvR_o (K := K) (w := w) (j := j) (i := 16 + j) hj (by omega)
  have e2 := hvR_o (K := K) (w := w) (j := j) (i := 24 + j) hj (by omega)
  rw [hbR_n hj]
  unfold hbR
  by_cases h0 : w 53 - w 53 / 3 * 3 = 0
  · rw [if_pos h0]
    unfold boilR
    by_cases h1 : hvR K j w (40 + j) = -1
    · rw [if_pos h1, e1, e2]
      exact ⟨⟨hf, Int.le_refl _⟩, hc, fun _ => ⟨rfl, rfl⟩⟩
    · have hcs := (couldR_iff hs hs0 hf (by omega)).mp (hvR_s hj h1).2
      have e3 : (w (16 + j) - 1).toInt = (w (16 + j)).toInt - 1 := by rw [ii_sub] <;> rw [ti_1] <;> omega
      have e4 : (w (24 + j) + 1).toInt = (w (24 + j)).toInt + 1 := by rw [ii_add] <;> rw [ti_1] <;> omega
      rw [if_neg h1]
      split
      · rw [upd_oth (by omega), upd_same, upd_same, e1, e2, e3, px_min_i, ti_9, e4]
        exact ⟨⟨by omega, by omega⟩, ⟨by omega, by omega⟩, fun z => absurd z h1⟩
      · rw [upd_same, upd_oth (by omega), e1, e2, e3]
        exact ⟨⟨by omega, by omega⟩, hc, fun z => absurd z h1⟩
  · rw [if_neg h0, e1, e2]
    exact ⟨⟨hf, Int.le_refl _⟩, hc, fun _ => ⟨rfl, rfl⟩⟩
theorem hbR_h {j : Nat} (hj : j < 8) : hbR K j w (8 + j) = warmR K (powerR K (w j)) j w (8 + j) := by
  rw [← hvR_h hj]
  unfold hbR boilR
  repeat' split
  · rfl
  · rw [upd_oth (by omega), upd_oth (by omega)]
  · rw [upd_oth (by omega)]
  · rfl
theorem RI_min (hK : KN K N S D L) (hO : KO K N S D L) (hR : RI K N S T w) (hT : T < 1000000) : RI K N S (T + 1) (minR K N D L w) := by
  have h8 := hK.2.1
  refine ⟨fun j hj => ?_, ?_⟩
  · obtain ⟨q1, q2, q3, q4, q5⟩ := hR.1 j hj
    obtain ⟨s1, -⟩ := hO.1 j hj
    have m1 : minR K N D L w (8 + j) = hbR K j w (8 + j) := by rw [minR_at hK hO (by omega) (by omega) (by omega), show (8 + j) % 8 = j by omega]
    have m2 : minR K N D L w (16 + j) = hbR K j w (16 + j) := by rw [minR_at hK hO (by omega) (by omega) (by omega), show (16 + j) % 8 = j by omega]
    have m3 : minR K N D L w (24 + j) = hbR K j w (24 + j) := by rw [minR_at hK hO (by omega) (by omega) (by omega), show (24 + j) % 8 = j by omega]
    have m4 : minR K N D L w (40 + j) = hbR K j w (40 + j) := by rw [minR_at hK hO (by omega) (by omega) (by omega), show (40 + j) % 8 = j by omega]
    have fc := hbR_fc (K := K) (w := w) (j := j) (by omega) s1.2 (by omega) q3.1 q3.2 q4
    rw [m1, m2, m3, m4, hbR_h (by omega)]
    refine ⟨?_, warm_b q2 ⟨q3.1, by omega⟩ (powerR_b hK hO q1), ⟨fc.1.1, by omega⟩, fc.2.1, ?_⟩
    · rcases minR_on (w := w) hK hO (j := j) (by omega) with e | e
      · rw [e]; exact q1
      · exact Or.inl e
    · rw [hbR_n (by omega)]; exact voiceR_nb
  · rw [minR_53 hK hO]
    have e : (w 53 + 1).toInt = (w 53).toInt + 1 := by
      have := hR.2
      rw [ii_add] <;> rw [ti_1] <;> omega
    have := hR.2
    omega
end RIP
