/-! ===== class and reference make the same minute ===== -/
section EQMIN
variable {K : Kt} {N S D L T : Nat} {w : Rw}
theorem singF_1 : ∀ (m j : Nat) (q : Rw × Int32 × Int64), (singF K m j q).1 = loopR (voiceR K) m j q.1 := by
  intro m
  induction m with
  | zero => intro j q; rfl
  | succ m ih => intro j q; unfold singF loopR; rw [ih]
theorem voiceR_n {j i : Nat} (h : i < j) (hj : j < 8) : voiceR K j w (40 + i) = w (40 + i) := by
  unfold voiceR; repeat' split
  · rw [upd_oth (by omega)]
  · rw [upd_oth (by omega)]
  · rw [upd_oth (by omega), upd_oth (by omega)]
theorem cntN_congr {b b' : Nat → Bool} : ∀ m : Nat, (∀ j, j < m → b j = b' j) → cntN b m = cntN b' m := by
  intro m
  induction m with
  | zero => intro _; rfl
  | succ m ih => intro h; unfold cntN; rw [ih (fun j hj => h j (by omega)), h m (by omega)]
theorem setN_congr {b b' : Nat → Bool} : ∀ m : Nat, (∀ j, j < m → b j = b' j) → setN b m = setN b' m := by
  intro m
  induction m with
  | zero => intro _; rfl
  | succ m ih => intro h; unfold setN; rw [ih (fun j hj => h j (by omega)), h m (by omega)]
theorem notesN_congr {w w' : Rw} : ∀ m : Nat, (∀ j, j < m → w (40 + j) = w' (40 + j)) → notesN w m = notesN w' m := by
  intro m
  induction m with
  | zero => intro _; rfl
  | succ m ih => intro h; unfold notesN; rw [ih (fun j hj => h j (by omega)), h m (by omega)]
theorem bS_eq {w w' : Rw} {j : Nat} (h : w (40 + j) = w' (40 + j)) : bS w j = bS w' j := by unfold bS; rw [h]
theorem singF_23 : ∀ (m j : Nat) (w : Rw), j + m ≤ 8 → (singF K m j (w, Int32.ofNat (cntN (bS w) j), notesN w j)).2 = (Int32.ofNat (cntN (bS (loopR (voiceR K) m j w)) (j + m)), notesN (loopR (voiceR K) m j w) (j + m)) := by
  intro m
  induction m with
  | zero => intro j w h; rfl
  | succ m ih =>
    intro j w h
    have e1 : cntN (bS (voiceR K j w)) j = cntN (bS w) j := cntN_congr j (fun i hi => bS_eq (voiceR_n hi (by omega)))
    have e2 : notesN (voiceR K j w) j = notesN w j := notesN_congr j (fun i hi => voiceR_n hi (by omega))
    have e3 : (if voiceR K j w (40 + j) = -1 then Int32.ofNat (cntN (bS w) j) else Int32.ofNat (cntN (bS w) j) + 1) = Int32.ofNat (cntN (bS (voiceR K j w)) (j + 1)) := by
      rw [← e1]
      show _ = Int32.ofNat (cntN (bS (voiceR K j w)) j + (bif !decide (voiceR K j w (40 + j) = -1) then 1 else 0))
      by_cases h1 : voiceR K j w (40 + j) = -1
      · rw [if_pos h1, decide_eq_true h1]; rfl
      · rw [if_neg h1, decide_eq_false h1, nn_suc]; rfl
    have e4 : (if voiceR K j w (40 + j) = -1 then notesN w j else notesN w j ||| ((1 : Int64) <<< ((voiceR K j w (40 + j)).toInt64 &&& 63))) = notesN (voiceR K j w) (j + 1) := by
      rw [← e2]; rfl
    unfold singF loopR
    dsimp only
    rw [e3, e4, ih (j + 1) _ (by omega), show j + 1 + m = j + (m + 1) by omega]
theorem voiceR_nb {j : Nat} : -1 ≤ (voiceR K j w (40 + j)).toInt ∧ (voiceR K j w (40 + j)).toInt ≤ 60 := by
  unfold voiceR
  repeat' split
  · rw [upd_same, ti_m1]; decide
  · rw [upd_same, ti_m1]; decide
  · rw [upd_oth (by omega), upd_same]; have := noteR_ge (K := K) (j := j) (f := w (16 + j)) (he := w (8 + j)) (c := w (24 + j)); omega
/-- behind the singing every note is as told -/
theorem voice_nb : ∀ (m j : Nat) (w : Rw), j + m ≤ 8 → (∀ i, i < j → -1 ≤ (w (40 + i)).toInt ∧ (w (40 + i)).toInt ≤ 60) → ∀ i, i < j + m → -1 ≤ (loopR (voiceR K) m j w (40 + i)).toInt ∧ (loopR (voiceR K) m j w (40 + i)).toInt ≤ 60 := by
  intro m
  induction m with
  | zero => intro j w _ h i hi; exact h i (by omega)
  | succ m ih =>
    intro j w hj h i hi
    unfold loopR
    apply ih (j + 1) _ (by omega) _ i (by omega)
    intro i' hi'
    by_cases e : i' = j
    · rw [e]; exact voiceR_nb
    · rw [voiceR_n (by omega) (by omega)]; exact h i' (by omega)
theorem chordB_iff {N : Nat} {st : Rw} {v : Int32} : ∀ (m i : Nat) (b : Int32), (b = 0 ∨ b = 1) → ((¬ chordB w N st v m i b = 0) ↔ (b = 1 ∧ ∀ k, i ≤ k → k < i + m → sungR w (v + st k) N 0 = 1)) := by
  intro m
  induction m with
  | zero =>
    intro i b hb
    unfold chordB
    rcases hb with hb | hb <;> subst hb
    · exact ⟨fun h => absurd rfl h, fun h => absurd h.1 (by decide)⟩
    · exact ⟨fun _ => ⟨rfl, fun k h1 h2 => by omega⟩, fun _ => by decide⟩
  | succ m ih =>
    intro i b hb
    unfold chordB
    rcases hb with hb | hb <;> subst hb
    · rw [if_pos rfl]
      exact ⟨fun h => absurd rfl h, fun h => absurd h.1 (by decide)⟩
    · rw [if_neg (by decide), ih (i + 1) _ (sungR_01 _ _ _)]
      constructor
      · intro ⟨h1, h2⟩
        refine ⟨rfl, fun k hk1 hk2 => ?_⟩
        by_cases e : k = i
        · rw [e]; exact h1
        · exact h2 k (by omega) (by omega)
      · intro ⟨_, h2⟩
        exact ⟨h2 i (by omega) (by omega), fun k hk1 hk2 => h2 k (by omega) (by omega)⟩
theorem chordV_iff {dd M : Nat} : ∀ (m v : Nat), (¬ chordV K w N dd M m v = 0) ↔ ∃ u, v ≤ u ∧ u < v + m ∧ ¬ chordB w N (fun i => K 7 (dd * 3 + i)) (Int32.ofNat u) M 0 (sungR w (Int32.ofNat u) N 0) = 0 := by
  intro m
  induction m with
  | zero =>
    intro v
    unfold chordV
    exact ⟨fun h => absurd rfl h, fun ⟨u, h1, h2, _⟩ => by omega⟩
  | succ m ih =>
    intro v
    unfold chordV
    by_cases h : chordB w N (fun i => K 7 (dd * 3 + i)) (Int32.ofNat v) M 0 (sungR w (Int32.ofNat v) N 0) = 0
    · rw [if_pos h, ih (v + 1)]
      constructor
      · intro ⟨u, h1, h2, h3⟩; exact ⟨u, by omega, by omega, h3⟩
      · intro ⟨u, h1, h2, h3⟩
        by_cases e : u = v
        · rw [e] at h3; exact absurd h h3
        · exact ⟨u, by omega, by omega, h3⟩
    · rw [if_neg h]
      exact ⟨fun _ => ⟨v, by omega, by omega, h⟩, fun _ => by decide⟩
theorem rootsN_iff {n : Int64} {dd : Nat} : ∀ (m i : Nat) (a : Int64) (b : Nat), (∀ k, i ≤ k → k < i + m → 1 ≤ (K 7 (dd * 3 + k)).toInt ∧ (K 7 (dd * 3 + k)).toInt ≤ 24) →
    (tb (rootsN K n dd m i a) b = true ↔ (tb a b = true ∧ ∀ k, i ≤ k → k < i + m → tb n ((K 7 (dd * 3 + k)).toNatClampNeg + b) = true)) := by
  intro m
  induction m with
  | zero => intro i a b _; unfold rootsN; exact ⟨fun h => ⟨h, fun k h1 h2 => by omega⟩, fun h => h.1⟩
  | succ m ih =>
    intro i a b hs
    have h0 := hs i (by omega) (by omega)
    have e0 : K 7 (dd * 3 + i) = Int32.ofNat (K 7 (dd * 3 + i)).toNatClampNeg := (ii_nat (by omega)).symm
    have e1 := ii_clamp (a := K 7 (dd * 3 + i))
    have e2 : tb (n.toUInt64 >>> ((K 7 (dd * 3 + i)).toInt64.toUInt64 &&& Int64.toUInt64 63)).toInt64 b = tb n ((K 7 (dd * 3 + i)).toNatClampNeg + b) := by
      have := tb_shr (n := n) (s := (K 7 (dd * 3 + i)).toNatClampNeg) (i := b) (by omega)
      rw [← e0] at this
      exact this
    unfold rootsN
    rw [ih (i + 1) _ b (fun k h1 h2 => hs k (by omega) (by omega)), tb_and, Bool.and_eq_true, e2]
    constructor
    · intro ⟨⟨h1, h2⟩, h3⟩
      refine ⟨h1, fun k hk1 hk2 => ?_⟩
      by_cases e : k = i
      · rw [e]; exact h2
      · exact h3 k (by omega) (by omega)
    · intro ⟨h1, h2⟩
      exact ⟨⟨h1, h2 i (by omega) (by omega)⟩, fun k hk1 hk2 => h2 k (by omega) (by omega)⟩
theorem serve_ready {dd : Nat} (hn : ∀ j, j < N → -1 ≤ (w (40 + j)).toInt ∧ (w (40 + j)).toInt ≤ 60) (hs : ∀ i, i < (K 6 dd).toNatClampNeg → 1 ≤ (K 7 (dd * 3 + i)).toInt ∧ (K 7 (dd * 3 + i)).toInt ≤ 24) :
    serveR K (notesN w N) dd w = readyM K N dd 61 0 w := by
  unfold serveR readyM
  by_cases h : w (48 + dd) = -1
  · rw [if_pos h, if_pos h]
    have key : (¬ rootsN K (notesN w N) dd (K 6 dd).toNatClampNeg 0 (notesN w N) = 0) ↔ ¬ chordV K w N dd (K 6 dd).toNatClampNeg 61 0 = 0 := by
      rw [tb_ne0, chordV_iff]
      have hb : ∀ b, b < 900 → (sungR w (Int32.ofNat b) N 0 = 1 ↔ tb (notesN w N) b = true) := by
        intro b hb
        rw [sung_tb hn (by omega)]
        constructor
        · intro q
          apply Classical.byContradiction
          intro z
          rw [if_neg z] at q
          exact absurd q (by decide)
        · intro q; rw [if_pos q]
      have hk : ∀ b k, b < 64 → k < (K 6 dd).toNatClampNeg → (sungR w (Int32.ofNat b + K 7 (dd * 3 + k)) N 0 = 1 ↔ tb (notesN w N) ((K 7 (dd * 3 + k)).toNatClampNeg + b) = true) := by
        intro b k hb64 hkk
        have h0 := hs k hkk
        have e1 := ii_clamp (a := K 7 (dd * 3 + k))
        rw [show Int32.ofNat b + K 7 (dd * 3 + k) = Int32.ofNat ((K 7 (dd * 3 + k)).toNatClampNeg + b) by
          rw [← nn_add, ii_nat (by omega), Int32.add_comm]]
        exact hb _ (by omega)
      constructor
      · intro ⟨b, hb64, h1⟩
        rw [rootsN_iff _ _ _ _ (fun k _ h2 => hs k (by omega))] at h1
        have hb60 : b < 61 := by
          obtain ⟨j, hj, e⟩ := (tb_notes N hn b (by omega)).mp h1.1
          have := hn j hj
          rw [e, ii_ofNat (by omega)] at this
          omega
        refine ⟨b, by omega, by omega, ?_⟩
        rw [chordB_iff _ _ _ (sungR_01 _ _ _)]
        exact ⟨(hb b (by omega)).mpr h1.1, fun k h2 h3 => (hk b k hb64 (by omega)).mpr (h1.2 k h2 (by omega))⟩
      · intro ⟨u, h1, h2, h3⟩
        rw [chordB_iff _ _ _ (sungR_01 _ _ _)] at h3
        refine ⟨u, by omega, ?_⟩
        rw [rootsN_iff _ _ _ _ (fun k _ h2 => hs k (by omega))]
        exact ⟨(hb u (by omega)).mp h3.1, fun k h4 h5 => (hk u k (by omega) (by omega)).mp (h3.2 k h4 (by omega))⟩
    by_cases h2 : rootsN K (notesN w N) dd (K 6 dd).toNatClampNeg 0 (notesN w N) = 0
    · rw [if_pos h2, if_pos (Classical.byContradiction fun z => (key.mpr z) h2)]
    · rw [if_neg h2, if_neg (key.mp h2)]
  · rw [if_neg h, if_neg h]
end EQMIN
