/-! ===== what a minute does to one kettle; what holds of a row holds a minute later ===== -/
section MINP
variable {K : Kt} {N S D L T : Nat} {w : Rw}
theorem loop_own {f : Nat → Rw → Rw} (ha : ∀ j w i, j < 8 → ¬ (i < 48 ∧ i % 8 = j) → f j w i = w i) (hb : ∀ j w w' i, j < 8 → (∀ i, i < 48 → i % 8 = j → w i = w' i) → w 53 = w' 53 → i < 48 → i % 8 = j → f j w i = f j w' i) :
    ∀ (m j0 : Nat) (w : Rw), j0 + m ≤ 8 → (∀ i, (¬ (i < 48 ∧ j0 ≤ i % 8 ∧ i % 8 < j0 + m)) → loopR f m j0 w i = w i) ∧ ∀ i, i < 48 → j0 ≤ i % 8 → i % 8 < j0 + m → loopR f m j0 w i = f (i % 8) w i := by
  intro m
  induction m with
  | zero => intro j0 w _; exact ⟨fun i _ => rfl, fun i _ h1 h2 => by omega⟩
  | succ m ih =>
    intro j0 w h8
    unfold loopR
    obtain ⟨q1, q2⟩ := ih (j0 + 1) (f j0 w) (by omega)
    constructor
    · intro i hi
      rw [q1 i (by omega), ha j0 w i (by omega) (by omega)]
    · intro i h1 h2 h3
      by_cases e : i % 8 = j0
      · rw [q1 i (by omega), e]
      · rw [q2 i h1 (by omega) (by omega)]
        apply hb _ _ _ _ (by omega) _ _ h1 rfl
        · intro i' a b; exact ha j0 w i' (by omega) (by omega)
        · exact ha j0 w 53 (by omega) (by omega)
theorem warm_own : (∀ j (w : Rw) i, j < 8 → ¬ (i < 48 ∧ i % 8 = j) → warmR K (powerR K (w j)) j w i = w i) ∧ (∀ j (w w' : Rw) i, j < 8 → (∀ i, i < 48 → i % 8 = j → w i = w' i) → w 53 = w' 53 → i < 48 → i % 8 = j → warmR K (powerR K (w j)) j w i = warmR K (powerR K (w' j)) j w' i) := by
  constructor
  · intro j w i hj hi
    unfold warmR; split <;> rw [upd_oth (by omega)]
  · intro j w w' i hj h _ hi he
    have e0 := h j (by omega) (by omega)
    have e1 := h (8 + j) (by omega) (by omega)
    have e2 := h (16 + j) (by omega) (by omega)
    unfold warmR
    rw [e0, e1, e2]
    split <;> (rw [upd_at, upd_at, h i hi he])
theorem voice_own : (∀ j (w : Rw) i, j < 8 → ¬ (i < 48 ∧ i % 8 = j) → voiceR K j w i = w i) ∧ (∀ j (w w' : Rw) i, j < 8 → (∀ i, i < 48 → i % 8 = j → w i = w' i) → w 53 = w' 53 → i < 48 → i % 8 = j → voiceR K j w i = voiceR K j w' i) := by
  constructor
  · intro j w i hj hi
    unfold voiceR; repeat' split
    · rw [upd_oth (by omega)]
    · rw [upd_oth (by omega)]
    · rw [upd_oth (by omega), upd_oth (by omega)]
  · intro j w w' i hj h _ hi he
    have e1 := h (8 + j) (by omega) (by omega)
    have e2 := h (16 + j) (by omega) (by omega)
    have e3 := h (24 + j) (by omega) (by omega)
    have e4 := h (32 + j) (by omega) (by omega)
    unfold voiceR couldR
    rw [e1, e2, e3, e4]
    repeat' split
    all_goals simp only [upd_at, h i hi he]
theorem boil_own : (∀ j (w : Rw) i, j < 8 → ¬ (i < 48 ∧ i % 8 = j) → boilR j w i = w i) ∧ (∀ j (w w' : Rw) i, j < 8 → (∀ i, i < 48 → i % 8 = j → w i = w' i) → w 53 = w' 53 → i < 48 → i % 8 = j → boilR j w i = boilR j w' i) := by
  constructor
  · intro j w i hj hi
    unfold boilR; repeat' split
    · rfl
    · rw [upd_oth (by omega), upd_oth (by omega)]
    · rw [upd_oth (by omega)]
  · intro j w w' i hj h _ hi he
    have e1 := h (40 + j) (by omega) (by omega)
    have e2 := h (16 + j) (by omega) (by omega)
    have e3 := h (24 + j) (by omega) (by omega)
    unfold boilR
    rw [e1, e2, e3]
    repeat' split
    all_goals simp only [upd_at, h i hi he]
/-- kettle j behind heat and singing -/
def hvR (K : Kt) (j : Nat) (w : Rw) : Rw := voiceR K j (warmR K (powerR K (w j)) j w)
def hbR (K : Kt) (j : Nat) (w : Rw) : Rw := if w 53 - w 53 / 3 * 3 = 0 then boilR j (hvR K j w) else hvR K j w
theorem sgR_at (h8 : N ≤ 8) {i : Nat} : ((¬ (i < 48 ∧ i % 8 < N)) → sgR K N w i = w i) ∧ (i < 48 → i % 8 < N → sgR K N w i = hvR K (i % 8) w i) := by
  obtain ⟨a1, a2⟩ := loop_own (f := fun j w => warmR K (powerR K (w j)) j w) warm_own.1 warm_own.2 N 0 w (by omega)
  obtain ⟨b1, b2⟩ := loop_own (f := voiceR K) voice_own.1 voice_own.2 N 0 (warmL K N w) (by omega)
  unfold sgR
  constructor
  · intro hi
    rw [b1 i (by omega)]
    exact a1 i (by omega)
  · intro h1 h2
    rw [b2 i h1 (by omega) (by omega)]
    unfold hvR
    refine voice_own.2 _ _ _ _ (by omega) ?_ ?_ h1 rfl
    · intro i' p1 p2
      have := a2 i' p1 (by omega) (by omega)
      rw [p2] at this
      exact this
    · exact (a1 53 (by omega)).trans (warm_own.1 _ _ _ (by omega) (by omega)).symm
theorem blR_at (h8 : N ≤ 8) (h5 : D ≤ 5) {i : Nat} (hi : i < 48) (h2 : i % 8 < N) : boilL N (loopR (fun dd => readyM K N dd 61 0) D 0 (sgR K N w)) i = hbR K (i % 8) w i := by
  have e53 : loopR (fun dd => readyM K N dd 61 0) D 0 (sgR K N w) 53 = w 53 := by
    rw [loopR_lt (f := fun dd => readyM K N dd 61 0) (B := 5) (fun j w hj => readyM_53 hj) _ _ _ (by omega)]
    exact (sgR_at h8).1 (by omega)
  unfold boilL hbR
  rw [e53]
  have hv : ∀ i', i' < 48 → i' % 8 = i % 8 → loopR (fun dd => readyM K N dd 61 0) D 0 (sgR K N w) i' = hvR K (i % 8) w i' := by
    intro i' p1 p2
    rw [readyL_n (by omega) p1, (sgR_at h8).2 p1 (by omega), p2]
  by_cases h : w 53 - w 53 / 3 * 3 = 0
  · rw [if_pos h, if_pos h]
    obtain ⟨b1, b2⟩ := loop_own (f := boilR) boil_own.1 boil_own.2 N 0 (loopR (fun dd => readyM K N dd 61 0) D 0 (sgR K N w)) (by omega)
    rw [b2 i hi (by omega) (by omega)]
    refine boil_own.2 _ _ _ _ (by omega) hv ?_ hi rfl
    rw [e53]
    unfold hvR
    exact ((voice_own.1 _ _ _ (by omega) (by omega)).trans (warm_own.1 _ _ _ (by omega) (by omega))).symm
  · rw [if_neg h, if_neg h]
    exact hv i hi rfl
theorem cookM_at : ∀ (m j : Nat) (q : Rw × Rw × Rw) (i : Nat), j + m ≤ 8 → (8 ≤ i → (cookM K L N m j q).1 i = q.1 i) ∧ (i < 8 → (cookM K L N m j q).1 i = q.1 i ∨ (cookM K L N m j q).1 i = -1) := by
  intro m
  induction m with
  | zero => intro j q i _; exact ⟨fun _ => rfl, fun _ => Or.inl rfl⟩
  | succ m ih =>
    intro j q i hj
    unfold cookM
    by_cases h1 : q.1 j = -1
    · rw [if_pos h1]
      exact ih (j + 1) q i (by omega)
    · rw [if_neg h1]
      have h := ih (j + 1) ((if 0 < givV (givA (K 8) (lookM q.1 N j q.2.1) L 0 0 q.2.2) then upd q.1 j (-1) else q.1), lookM q.1 N j q.2.1, (givA (K 8) (lookM q.1 N j q.2.1) L 0 0 q.2.2).2) i (by omega)
      dsimp only at h
      constructor
      · intro hi
        rw [h.1 hi]
        split
        · exact upd_oth (by omega)
        · rfl
      · intro hi
        rcases h.2 hi with e | e
        · rw [e]
          split
          · rw [upd_at]
            split
            · exact Or.inr rfl
            · exact Or.inl rfl
          · exact Or.inl rfl
        · exact Or.inr e
theorem minR_eq (hK : KN K N S D L) (hO : KO K N S D L) : ∃ u : Rw, minR K N D L w = upd u 53 (u 53 + 1) ∧ (∀ i, 8 ≤ i → u i = boilL N (loopR (fun dd => readyM K N dd 61 0) D 0 (sgR K N w)) i) ∧ (∀ i, i < 8 → u i = boilL N (loopR (fun dd => readyM K N dd 61 0) D 0 (sgR K N w)) i ∨ u i = -1) := by
  have h8 := hK.2.1
  rw [← minM_R hK hO (fun _ => 0) (fun _ => 0)]
  unfold minM
  dsimp only
  rw [show loopR (voiceR K) N 0 (warmL K N w) = sgR K N w from rfl, lose_boil h8]
  refine ⟨_, rfl, ?_, ?_⟩
  · intro i hi
    split
    · rfl
    · exact (cookM_at N 0 _ i (by omega)).1 hi
  · intro i hi
    split
    · exact Or.inl rfl
    · exact (cookM_at N 0 _ i (by omega)).2 hi
/-- kettle j a minute later -/
theorem minR_at (hK : KN K N S D L) (hO : KO K N S D L) {i : Nat} (h1 : 8 ≤ i) (h2 : i < 48) (h3 : i % 8 < N) : minR K N D L w i = hbR K (i % 8) w i := by
  obtain ⟨u, e, q, -⟩ := minR_eq (w := w) hK hO
  rw [e, upd_oth (by omega), q i h1, blR_at hK.2.1 hK.2.2.2.2.2.1 h2 h3]
theorem minR_on (hK : KN K N S D L) (hO : KO K N S D L) {j : Nat} (hj : j < 8) : minR K N D L w j = w j ∨ minR K N D L w j = -1 := by
  obtain ⟨u, e, -, q⟩ := minR_eq (w := w) hK hO
  have h8 := hK.2.1
  rw [e, upd_oth (by omega)]
  rcases q j hj with z | z
  · left
    rw [z, boilL_n h8 (by omega), readyL_n (by have := hK.2.2.2.2.2.1; omega) (by omega)]
    by_cases hN : j < N
    · rw [(sgR_at h8).2 (by omega) (by omega), show j % 8 = j by omega]
      unfold hvR voiceR warmR
      repeat' split
      all_goals simp only [upd_at, show ¬ j = 8 + j by omega, show ¬ j = 40 + j by omega, show ¬ j = 32 + j by omega, if_false]
    · exact (sgR_at h8).1 (by omega)
  · exact Or.inr z
theorem minR_53 (hK : KN K N S D L) (hO : KO K N S D L) : minR K N D L w 53 = w 53 + 1 := by
  obtain ⟨u, e, q, -⟩ := minR_eq (w := w) hK hO
  have h8 := hK.2.1
  rw [e, upd_same, q 53 (by omega), boilL_n h8 (by omega)]
  rw [loopR_lt (f := fun dd => readyM K N dd 61 0) (B := 5) (fun j w hj => readyM_53 hj) _ _ _ (by have := hK.2.2.2.2.2.1; omega)]
  rw [(sgR_at h8).1 (by omega)]
theorem minR_far (hK : KN K N S D L) (hO : KO K N S D L) {i : Nat} (h : 8 ≤ i) (h2 : i < 48) (h3 : ¬ i % 8 < N) : minR K N D L w i = w i := by
  obtain ⟨u, e, q, -⟩ := minR_eq (w := w) hK hO
  have h8 := hK.2.1
  have h5 := hK.2.2.2.2.2.1
  rw [e, upd_oth (by omega), q i h]
  unfold boilL
  have e0 : loopR (fun dd => readyM K N dd 61 0) D 0 (sgR K N w) i = w i := by
    rw [readyL_n (by omega) h2]; exact (sgR_at h8).1 (by omega)
  split
  · obtain ⟨b1, b2⟩ := loop_own (f := boilR) boil_own.1 boil_own.2 N 0 (loopR (fun dd => readyM K N dd 61 0) D 0 (sgR K N w)) (by omega)
    rw [b1 i (by omega), e0]
  · exact e0
theorem hbR_n {j : Nat} (hj : j < 8) : hbR K j w (40 + j) = hvR K j w (40 + j) := by
  unfold hbR boilR
  repeat' split
  · rfl
  · rw [upd_oth (by omega), upd_oth (by omega)]
  · rw [upd_oth (by omega)]
  · rfl
theorem minR_sg (hK : KN K N S D L) (hO : KO K N S D L) {j : Nat} (hj : j < N) : minR K N D L w (40 + j) = sgR K N w (40 + j) := by
  have h8 := hK.2.1
  have e : (40 + j) % 8 = j := by omega
  rw [minR_at hK hO (by omega) (by omega) (by omega), (sgR_at h8).2 (by omega) (by omega), e, hbR_n (by omega)]
theorem minC_s (hK : KN K N S D L) (hO : KO K N S D L) (v k : Rw) : (minC K N D L w v k).2.1 = Int32.ofNat (cntN (bS (minR K N D L w)) N) := by
  have h8 := hK.2.1
  unfold minC
  rw [singF_0 h8]
  dsimp only
  congr 1
  exact cntN_congr N (fun i hi => bS_eq (minR_sg hK hO hi).symm)
theorem minC_n (hK : KN K N S D L) (hO : KO K N S D L) (v k : Rw) : (minC K N D L w v k).2.2.1 = notesN (minR K N D L w) N := by
  have h8 := hK.2.1
  unfold minC
  rw [singF_0 h8]
  dsimp only
  exact notesN_congr N (fun i hi => (minR_sg hK hO hi).symm)
end MINP
