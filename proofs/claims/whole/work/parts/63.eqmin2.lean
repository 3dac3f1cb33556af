/-! ===== class and reference make the same minute: put together; what holds of a row holds a minute later ===== -/
section EQMIN2
variable {K : Kt} {N S D L T : Nat} {w : Rw}
theorem readyM_o {dd m v i : Nat} (hd : dd < 5) (hi : i < 48) : readyM K N dd m v w i = w i := by
  unfold readyM
  repeat' split
  · rfl
  · exact upd_oth (by omega)
  · rfl
theorem serve_loop (h5 : D ≤ 5) (hs : ∀ d, d < D → ∀ i, i < (K 6 d).toNatClampNeg → 1 ≤ (K 7 (d * 3 + i)).toInt ∧ (K 7 (d * 3 + i)).toInt ≤ 24) : ∀ (m j : Nat) (w : Rw) (n : Int64), j + m = D → n = notesN w N → (N ≤ 8) → (∀ j, j < N → -1 ≤ (w (40 + j)).toInt ∧ (w (40 + j)).toInt ≤ 60) →
    loopR (serveR K n) m j w = loopR (fun dd => readyM K N dd 61 0) m j w := by
  intro m
  induction m with
  | zero => intro j w n _ _ _ _; rfl
  | succ m ih =>
    intro j w n hj hn h8 hb
    unfold loopR
    have e : serveR K n j w = readyM K N j 61 0 w := by rw [hn]; exact serve_ready hb (hs j (by omega))
    rw [e]
    apply ih (j + 1) _ n (by omega) _ h8
    · intro i hi; rw [readyM_o (by omega) (by omega)]; exact hb i hi
    · rw [hn]; exact notesN_congr N (fun i hi => (readyM_o (by omega) (by omega)).symm)
theorem boilR_53 {j : Nat} (hj : j < 8) : boilR j w 53 = w 53 := by
  unfold boilR
  repeat' split
  · rfl
  · rw [upd_oth (by omega), upd_oth (by omega)]
  · rw [upd_oth (by omega)]
theorem lose_boil (h8 : N ≤ 8) : loseL N w = boilL N w := by
  unfold loseL boilL
  have key : ∀ (m j : Nat) (w : Rw), j + m ≤ 8 → loopR (fun j w => if w 53 - w 53 / 3 * 3 = 0 then boilR j w else w) m j w = if w 53 - w 53 / 3 * 3 = 0 then loopR boilR m j w else w := by
    intro m
    induction m with
    | zero => intro j w _; exact r_ign.symm
    | succ m ih =>
      intro j w hj
      unfold loopR
      rw [ih (j + 1) _ (by omega)]
      by_cases h : w 53 - w 53 / 3 * 3 = 0
      · rw [if_pos h, if_pos h, boilR_53 (by omega), if_pos h]
      · rw [if_neg h, if_neg h, if_neg h]
  exact key N 0 w (by omega)
theorem givA_ind {code v v' : Rw} (hv : ∀ x, x < 7 → v x = v' x) : ∀ (m i p : Nat) (k k' : Rw), okC code m i p → (∀ x, x < p → k x = k' x) → (givA code v m i p k).1 = (givA code v' m i p k').1 ∧ ∀ x, x < (givA code v m i p k).1 → (givA code v m i p k).2 x = (givA code v' m i p k').2 x := by
  intro m
  induction m with
  | zero => intro i p k k' _ hk; exact ⟨rfl, hk⟩
  | succ m ih =>
    intro i p k k' ok hk
    unfold givA
    rcases ok with ⟨h0, h1, h2, ok⟩ | ⟨h1, h2, ok⟩ | ⟨h1, h2, ok⟩
    · simp only [h1, h2, if_true]
      apply ih _ _ _ _ ok
      intro x hx
      rw [upd_at, upd_at]
      split
      · split
        · rfl
        · rename_i h3
          apply hv
          have h3' := h3
          rw [ii_lt, ti_10000] at h3'
          rw [ii_lt, ti_10007] at h1
          have e := ii_sub (a := code i) (b := 10000) (by rw [ti_10000]; omega) (by rw [ti_10000]; omega)
          rw [ti_10000] at e
          have := ii_clamp (a := code i - 10000)
          omega
      · exact hk x (by omega)
    · have e1 : ¬ code i < 10007 := by rw [h1]; decide
      simp only [h1, h2, if_true, nn_77, if_false]
      apply ih _ _ _ _ ok
      intro x hx
      rw [upd_at, upd_at, hk (p - 1) (by omega)]
      split
      · rfl
      · exact hk x hx
    · obtain ⟨-, -, e3, e4⟩ := encM_op h1
      simp only [e3, e4, h2, if_true, if_false]
      apply ih _ _ _ _ ok
      intro x hx
      rw [upd_at, upd_at, hk (p - 1) (by omega), hk (p - 2) (by omega)]
      split
      · rfl
      · exact hk x (by omega)
theorem okC_len {code v : Rw} : ∀ (m i p : Nat) (k : Rw), okC code m i p → (givA code v m i p k).1 = 1 := by
  intro m
  induction m with
  | zero => intro i p k ok; exact ok
  | succ m ih =>
    intro i p k ok
    unfold givA
    rcases ok with ⟨h0, h1, h2, ok⟩ | ⟨h1, h2, ok⟩ | ⟨h1, h2, ok⟩
    · simp only [h1, h2, if_true]
      exact ih _ _ _ ok
    · simp only [h1, h2, if_true, nn_77, if_false]
      exact ih _ _ _ ok
    · obtain ⟨-, -, e3, e4⟩ := encM_op h1
      simp only [e3, e4, h2, if_true, if_false]
      exact ih _ _ _ ok
theorem givV_ind {code v v' k k' : Rw} (hv : ∀ x, x < 7 → v x = v' x) (ok : okC code L 0 0) : givV (givA code v L 0 0 k) = givV (givA code v' L 0 0 k') := by
  have h := givA_ind hv L 0 0 k k' ok (fun x hx => absurd hx (Nat.not_lt_zero _))
  have h1 := okC_len (v := v) L 0 0 k ok
  unfold givV
  rw [← h.1, h1, if_pos (by decide), if_pos (by decide)]
  exact h.2 0 (by rw [h1]; decide)
theorem third_eq (hn : ∀ j, j < N → -1 ≤ (w (40 + j)).toInt ∧ (w (40 + j)).toInt ≤ 60) {j : Nat} (hj : j < N) : thirdM w N j = thirdN (notesN w N) (w (40 + j)) := by
  unfold thirdM thirdN
  by_cases h : w (40 + j) = -1
  · rw [if_pos h, if_pos h]
  · rw [if_neg h, if_neg h]
    have hb := hn j hj
    have h0 : 0 ≤ (w (40 + j)).toInt := by rw [ii_eq, ti_m1] at h; omega
    have e0 : w (40 + j) = Int32.ofNat (w (40 + j)).toNatClampNeg := (ii_nat h0).symm
    have e1 := ii_clamp (a := w (40 + j))
    generalize (w (40 + j)).toNatClampNeg = u at e0 e1
    have hu : u ≤ 60 := by omega
    rw [e0, nn_r3, nn_r4, sung_tb hn (by omega), sung_tb hn (by omega)]
    have key : (((notesN w N).toUInt64 >>> ((Int32.ofNat (u + 3)).toInt64.toUInt64 &&& Int64.toUInt64 63)).toInt64 &&& 3 = 0) ↔ (tb (notesN w N) (u + 3) = false ∧ tb (notesN w N) (u + 4) = false) := by
      have hsh : ∀ i, tb ((notesN w N).toUInt64 >>> ((Int32.ofNat (u + 3)).toInt64.toUInt64 &&& Int64.toUInt64 63)).toInt64 i = tb (notesN w N) (u + 3 + i) := fun i => tb_shr (by omega)
      have h3 : ∀ i : Nat, i < 64 → tb 3 i = decide (i < 2) := by decide +kernel
      constructor
      · intro q
        have q0 : tb (((notesN w N).toUInt64 >>> ((Int32.ofNat (u + 3)).toInt64.toUInt64 &&& Int64.toUInt64 63)).toInt64 &&& 3) 0 = false := by rw [q, tb_zero]
        have q1 : tb (((notesN w N).toUInt64 >>> ((Int32.ofNat (u + 3)).toInt64.toUInt64 &&& Int64.toUInt64 63)).toInt64 &&& 3) 1 = false := by rw [q, tb_zero]
        rw [tb_and, hsh, h3 0 (by decide)] at q0
        rw [tb_and, hsh, h3 1 (by decide)] at q1
        simp only [Nat.add_zero, show decide (0 < 2) = true from rfl, show decide (1 < 2) = true from rfl, Bool.and_true] at q0 q1
        exact ⟨q0, q1⟩
      · intro ⟨q0, q1⟩
        apply tb_ext
        intro i hi
        rw [tb_and, hsh, h3 i hi, tb_zero]
        by_cases i0 : i = 0
        · subst i0; rw [Nat.add_zero, q0]; rfl
        by_cases i1 : i = 1
        · subst i1; rw [q1]; rfl
        rw [decide_eq_false (by omega), Bool.and_false]
    by_cases c0 : tb (notesN w N) (u + 3) = true
    · rw [if_pos c0, if_neg (by decide), if_neg]
      intro z; rw [(key.mp z).1] at c0; cases c0
    · rw [if_neg c0, if_pos rfl]
      by_cases c1 : tb (notesN w N) (u + 4) = true
      · rw [if_pos c1, if_neg (by decide), if_neg]
        intro z; rw [(key.mp z).2] at c1; cases c1
      · rw [if_neg c1, if_pos rfl, if_pos]
        exact key.mpr ⟨Bool.eq_false_iff.mpr c0, Bool.eq_false_iff.mpr c1⟩
theorem cook_eq (h8 : N ≤ 8) (ok : okC (K 8) L 0 0) : ∀ (m j : Nat) (w v k a k' : Rw) (s : Int32) (n : Int64), j + m = N → s = Int32.ofNat (cntN (bS w) N) → n = notesN w N → (∀ j, j < N → -1 ≤ (w (40 + j)).toInt ∧ (w (40 + j)).toInt ≤ 60) →
    (cookF K L s n m j (w, v, k)).1 = (cookM K L N m j (w, a, k')).1 := by
  intro m
  induction m with
  | zero => intro j w v k a k' s n _ _ _ _; rfl
  | succ m ih =>
    intro j w v k a k' s n hj hs hn hb
    unfold cookF cookM
    dsimp only
    by_cases h1 : w j = -1
    · rw [if_pos h1, if_pos h1]
      exact ih (j + 1) _ _ _ _ _ _ _ (by omega) hs hn hb
    · rw [if_neg h1, if_neg h1]
      have hv : ∀ x, x < 7 → lookR w s n j v x = lookM w N j a x := by
        intro x hx
        unfold lookR lookM
        simp only [upd_at]
        rw [third_eq hb (by omega), hs, hn]
        repeat' split
        all_goals first | rfl | (exfalso; omega)
      rw [givV_ind (k' := k') hv ok]
      have hw : ∀ i, 40 ≤ i → (if 0 < givV (givA (K 8) (lookM w N j a) L 0 0 k') then upd w j (-1) else w) i = w i := by
        intro i hi
        split
        · exact upd_oth (by omega)
        · rfl
      apply ih (j + 1) _ _ _ _ _ _ _ (by omega)
      · rw [hs]; congr 1; exact cntN_congr N (fun i hi => bS_eq (hw _ (by omega)).symm)
      · rw [hn]; exact notesN_congr N (fun i hi => (hw _ (by omega)).symm)
      · intro i hi; rw [hw _ (by omega)]; exact hb i hi
/-- a minute -/
def minR (K : Kt) (N D L : Nat) (w : Rw) : Rw := (minC K N D L w (fun _ => 0) (fun _ => 0)).1
def sgR (K : Kt) (N : Nat) (w : Rw) : Rw := loopR (voiceR K) N 0 (warmL K N w)
theorem boilL_n {i : Nat} (h8 : N ≤ 8) (hi : 40 ≤ i ∨ i < 16) : boilL N w i = w i := by
  unfold boilL
  split
  · refine loopR_lt (B := 8) (fun j w hj => ?_) _ _ _ (by omega)
    unfold boilR
    repeat' split
    · rfl
    · rw [upd_oth (by omega), upd_oth (by omega)]
    · rw [upd_oth (by omega)]
  · rfl
theorem readyL_n {i m j : Nat} (h5 : j + m ≤ 5) (hi : i < 48) : loopR (fun dd => readyM K N dd 61 0) m j w i = w i :=
  loopR_lt (f := fun dd => readyM K N dd 61 0) (B := 5) (fun j w hj => readyM_o hj hi) _ _ _ h5
theorem singF_0 (h8 : N ≤ 8) : singF K N 0 (warmL K N w, 0, 0) = (sgR K N w, Int32.ofNat (cntN (bS (sgR K N w)) N), notesN (sgR K N w) N) := by
  have e := singF_23 (K := K) N 0 (warmL K N w) (by omega)
  rw [Nat.zero_add] at e
  have e1 := singF_1 (K := K) N 0 (warmL K N w, 0, 0)
  exact Prod.ext e1 e
/-- class and reference: the same row, whatever stood in values and stacks -/
theorem min_eq (hK : KN K N S D L) (hO : KO K N S D L) (v k a k' : Rw) : (minC K N D L w v k).1 = (minM K N D L w a k').1 := by
  have h8 := hK.2.1
  have h5 := hK.2.2.2.2.2.1
  unfold minC minM
  rw [singF_0 h8]
  dsimp only
  have hb : ∀ i, i < N → -1 ≤ (sgR K N w (40 + i)).toInt ∧ (sgR K N w (40 + i)).toInt ≤ 60 := by
    intro i hi
    have := voice_nb (K := K) N 0 (warmL K N w) (by omega) (fun i hi => absurd hi (Nat.not_lt_zero _)) i (by omega)
    exact this
  rw [serve_loop h5 (fun d hd => (hO.2.2.1 d hd).2.2.1) D 0 (sgR K N w) _ (by omega) rfl h8 hb, ← lose_boil h8]
  rw [show loopR (voiceR K) N 0 (warmL K N w) = sgR K N w from rfl]
  have hw4 : ∀ i, i < N → loseL N (loopR (fun dd => readyM K N dd 61 0) D 0 (sgR K N w)) (40 + i) = sgR K N w (40 + i) := by
    intro i hi
    rw [lose_boil h8, boilL_n h8 (by omega), readyL_n (by omega) (by omega)]
  unfold cookC
  by_cases hL : L = 0
  · rw [if_pos hL, if_pos hL]
  · rw [if_neg hL, if_neg hL]
    have ok : okC (K 8) L 0 0 := by
      rcases hO.2.2.2 with q | q
      · exact absurd q hL
      · exact q
    rw [cook_eq h8 ok N 0 _ v k a k' _ _ (by omega) (by congr 1; exact cntN_congr N (fun i hi => bS_eq (hw4 i hi).symm)) (notesN_congr N (fun i hi => (hw4 i hi).symm)) (fun i hi => by rw [hw4 i hi]; exact hb i hi)]
theorem minC_R (hK : KN K N S D L) (hO : KO K N S D L) (v k : Rw) : (minC K N D L w v k).1 = minR K N D L w := by
  unfold minR
  rw [min_eq hK hO v k v k, min_eq hK hO _ _ v k]
theorem minM_R (hK : KN K N S D L) (hO : KO K N S D L) (a k : Rw) : (minM K N D L w a k).1 = minR K N D L w := by
  unfold minR
  rw [min_eq hK hO _ _ a k]
end EQMIN2
