/-! ===== soonest: the rows of places, by their number and one behind the other ===== -/
def dgt (C m n s : Nat) : Nat := n / C ^ (m - 1 - s) % C
/-- the digits of a row from the last one on: has none of them twice, the row -/
def chO (C : Nat) : Nat → Nat → Nat → Rw → Bool × Rw
  | 0, _, _, T => (true, T)
  | m + 1, r, u, T => if r % C = 0 then chO C m (r / C) u (upd T m (Int32.ofNat (r % C) - 1)) else if u.testBit (r % C - 1) = true then (false, upd T m (Int32.ofNat (r % C) - 1)) else chO C m (r / C) (u ||| 2 ^ (r % C - 1)) (upd T m (Int32.ofNat (r % C) - 1))
def vld (C m n : Nat) : Prop := ∀ s s', s < s' → s' < m → ¬ dgt C m n s = 0 → ¬ dgt C m n s = dgt C m n s'
section PLACES
variable {C m n s r u N S : Nat} {T P w : Rw}
theorem dgt_last : dgt C (m + 1) r m = r % C := by
  unfold dgt
  rw [show m + 1 - 1 - m = 0 by omega, Nat.pow_zero, Nat.div_one]
theorem dgt_suc (h : s < m) : dgt C (m + 1) r s = dgt C m (r / C) s := by
  unfold dgt
  rw [show m + 1 - 1 - s = (m - 1 - s) + 1 by omega, Nat.pow_succ, Nat.mul_comm, ← Nat.div_div_eq_div_mul]
theorem chO_spec : ∀ (m r u : Nat) (T : Rw), ((chO C m r u T).1 = true ↔ (∀ s, s < m → ¬ dgt C m r s = 0 → u.testBit (dgt C m r s - 1) = false) ∧ vld C m r) ∧ ((chO C m r u T).1 = true → ∀ s, s < m → (chO C m r u T).2 s = Int32.ofNat (dgt C m r s) - 1) ∧ ∀ s, m ≤ s → (chO C m r u T).2 s = T s := by
  intro m
  induction m with
  | zero =>
    intro r u T
    refine ⟨⟨fun _ => ⟨fun s h => absurd h (Nat.not_lt_zero s), fun s s' _ h => absurd h (Nat.not_lt_zero s')⟩, fun _ => rfl⟩, fun _ s h => absurd h (Nat.not_lt_zero s), fun s _ => rfl⟩
  | succ m ih =>
    intro r u T
    unfold chO
    have hl := dgt_last (C := C) (m := m) (r := r)
    by_cases h0 : r % C = 0
    · rw [if_pos h0]
      obtain ⟨i1, i2, i3⟩ := ih (r / C) u (upd T m (Int32.ofNat (r % C) - 1))
      refine ⟨?_, fun hb s hs => ?_, fun s hs => ?_⟩
      · rw [i1]
        constructor
        · intro ⟨h1, h2⟩
          refine ⟨fun s hs hne => ?_, fun s s' h3 h4 hne => ?_⟩
          · by_cases e : s = m
            · subst e; rw [hl] at hne; exact absurd h0 hne
            · rw [dgt_suc (by omega)] at hne ⊢; exact h1 s (by omega) hne
          · rw [dgt_suc (by omega)] at hne ⊢
            by_cases e : s' = m
            · subst e; rw [hl, h0]; exact hne
            · rw [dgt_suc (by omega)]; exact h2 s s' h3 (by omega) hne
        · intro ⟨h1, h2⟩
          refine ⟨fun s hs hne => ?_, fun s s' h3 h4 hne => ?_⟩
          · have := h1 s (by omega); rw [dgt_suc (by omega)] at this; exact this hne
          · have := h2 s s' h3 (by omega); rw [dgt_suc (by omega), dgt_suc (by omega)] at this; exact this hne
      · by_cases e : s = m
        · subst e; rw [i3 s (Nat.le_refl s), upd_same, hl]
        · rw [i2 hb s (by omega), dgt_suc (by omega)]
      · rw [i3 s (by omega), upd_oth (by omega)]
    · rw [if_neg h0]
      by_cases h1 : u.testBit (r % C - 1) = true
      · rw [if_pos h1]
        refine ⟨⟨fun h => (by cases h), fun ⟨h2, _⟩ => ?_⟩, fun h => (by cases h), fun s hs => upd_oth (by omega)⟩
        have := h2 m (by omega) (by rw [hl]; exact h0)
        rw [hl, h1] at this; cases this
      · rw [if_neg h1]
        obtain ⟨i1, i2, i3⟩ := ih (r / C) (u ||| 2 ^ (r % C - 1)) (upd T m (Int32.ofNat (r % C) - 1))
        refine ⟨?_, fun hb s hs => ?_, fun s hs => ?_⟩
        · rw [i1]
          constructor
          · intro ⟨h2, h3⟩
            have h2' : ∀ s, s < m → ¬ dgt C m (r / C) s = 0 → u.testBit (dgt C m (r / C) s - 1) = false ∧ ¬ r % C = dgt C m (r / C) s := by
              intro s hs hne
              have := h2 s hs hne
              rw [Nat.testBit_or, Bool.or_eq_false_iff, Nat.testBit_two_pow, decide_eq_false_iff_not] at this
              exact ⟨this.1, by omega⟩
            refine ⟨fun s hs hne => ?_, fun s s' h4 h5 hne => ?_⟩
            · by_cases e : s = m
              · subst e; rw [hl]; exact Bool.eq_false_iff.mpr h1
              · rw [dgt_suc (by omega)] at hne ⊢; exact (h2' s (by omega) hne).1
            · rw [dgt_suc (by omega)] at hne ⊢
              by_cases e : s' = m
              · subst e; rw [hl]; exact fun z => (h2' s (by omega) hne).2 z.symm
              · rw [dgt_suc (by omega)]; exact h3 s s' h4 (by omega) hne
          · intro ⟨h2, h3⟩
            refine ⟨fun s hs hne => ?_, fun s s' h4 h5 hne => ?_⟩
            · have q := h2 s (by omega)
              have q2 := h3 s m hs (by omega)
              rw [dgt_suc (by omega)] at q q2
              rw [hl] at q2
              rw [Nat.testBit_or, q hne, Bool.false_or, Nat.testBit_two_pow, decide_eq_false_iff_not]
              have := q2 hne
              omega
            · have := h3 s s' h4 (by omega); rw [dgt_suc (by omega), dgt_suc (by omega)] at this; exact this hne
        · by_cases e : s = m
          · subst e; rw [i3 s (Nat.le_refl s), upd_same, hl]
          · rw [i2 hb s (by omega), dgt_suc (by omega)]
        · rw [i3 s (by omega), upd_oth (by omega)]
theorem chO_ok : (chO C m n 0 T).1 = true ↔ vld C m n := by
  rw [(chO_spec m n 0 T).1]
  exact ⟨fun h => h.2, fun h => ⟨fun s _ _ => Nat.zero_testBit _, h⟩⟩
/-- the row of places: kettles set down where they should stand -/
def stP : Nat → Nat → Rw → Rw → Rw
  | 0, _, _, w => w
  | m + 1, i, P, w => stP m (i + 1) P (if P i = -1 then w else upd w (P i).toNatClampNeg (Int32.ofNat i))
def stK (N : Nat) (w : Rw) : Rw := fun i => if i < N then -1 else w i
def stR (N S : Nat) (P w : Rw) : Rw := stP S 0 P (stK N w)
theorem stP_congr {P' : Rw} : ∀ (m i : Nat) (w : Rw), (∀ e, i ≤ e → e < i + m → P e = P' e) → stP m i P w = stP m i P' w := by
  intro m
  induction m with
  | zero => intro i w _; rfl
  | succ m ih =>
    intro i w h
    unfold stP
    rw [← h i (by omega) (by omega), ih (i + 1) _ (fun e h1 h2 => h e (by omega) (by omega))]
theorem stP_at (hP : ∀ e, e < S → P e = -1 ∨ (0 ≤ (P e).toInt ∧ (P e).toInt < N)) (hS : S ≤ 4) : ∀ (m i : Nat) (w : Rw), i + m = S → (∀ j, j < N → w j = -1 ∨ (0 ≤ (w j).toInt ∧ (w j).toInt < S)) → (∀ j, N ≤ j → stP m i P w j = w j) ∧ ∀ j, j < N → stP m i P w j = -1 ∨ (0 ≤ (stP m i P w j).toInt ∧ (stP m i P w j).toInt < S) := by
  intro m
  induction m with
  | zero => intro i w _ h; exact ⟨fun j _ => rfl, h⟩
  | succ m ih =>
    intro i w hi h
    unfold stP
    by_cases e : P i = -1
    · rw [if_pos e]; exact ih (i + 1) w (by omega) h
    · rw [if_neg e]
      rcases hP i (by omega) with q | q
      · exact absurd q e
      · have hc := ii_clamp (a := P i)
        obtain ⟨i1, i2⟩ := ih (i + 1) (upd w (P i).toNatClampNeg (Int32.ofNat i)) (by omega) (fun j hj => by
          rw [upd_at]
          split
          · right; rw [ii_ofNat (by omega)]; omega
          · exact h j hj)
        exact ⟨fun j hj => by rw [i1 j hj, upd_oth (by omega)], i2⟩
theorem stR_RI {K : Kt} {T : Nat} (hP : ∀ e, e < S → P e = -1 ∨ (0 ≤ (P e).toInt ∧ (P e).toInt < N)) (hS : S ≤ 4) (hN : N ≤ 8) (h : RI K N S T w) : RI K N S T (stR N S P w) ∧ (∀ j, 8 ≤ j → stR N S P w j = w j) := by
  obtain ⟨i1, i2⟩ := stP_at hP hS S 0 (stK N w) (by omega) (fun j hj => by unfold stK; rw [if_pos hj]; exact Or.inl rfl)
  have e8 : ∀ j, 8 ≤ j → stR N S P w j = w j := fun j hj => by
    unfold stR
    rw [i1 j (by omega)]
    unfold stK
    rw [if_neg (by omega)]
  refine ⟨⟨fun j hj => ?_, ?_⟩, e8⟩
  · obtain ⟨q1, q2, q3, q4, q5⟩ := h.1 j hj
    rw [e8 (8 + j) (by omega), e8 (16 + j) (by omega), e8 (24 + j) (by omega), e8 (40 + j) (by omega)]
    exact ⟨i2 j hj, q2, q3, q4, q5⟩
  · rw [e8 53 (by omega)]; exact h.2
end PLACES
/-- one row of places tried: minutes left, the best minute, its row -/
def lfS (f : Rw → Rw) (N S dd : Nat) (w P : Rw) (q : Nat × Int32 × Rw) : Nat × Int32 × Rw :=
  if seekR f (fun _ w' => bR w' dd) q.1 1 (stR N S P w) = -1 then q else ((seekR f (fun _ w' => bR w' dd) q.1 1 (stR N S P w)).toNatClampNeg - 1, seekR f (fun _ w' => bR w' dd) q.1 1 (stR N S P w), fun i => if i < S then P i else q.2.2 i)
def tupR (C S n : Nat) : Rw := fun s => Int32.ofNat (dgt C S n s) - 1
/-- all rows by their numbers -/
def clL (lf : Rw → Nat × Int32 × Rw → Nat × Int32 × Rw) (C S : Nat) : Nat → Nat → Nat × Int32 × Rw → Nat × Int32 × Rw
  | 0, _, q => q
  | m + 1, n, q => clL lf C S m (n + 1) (if (chO C S n 0 (fun _ => 0)).1 = true then lf (tupR C S n) q else q)
/-- a kettle isn't among the first s places -/
def frB (P : Rw) (k : Int32) : Nat → Nat → Bool → Bool
  | 0, _, b => b
  | m + 1, i, b => frB P k m (i + 1) (b && (decide (k = -1) || !decide (P i = k)))
/-- all rows one behind the other: goS for m stoves more, goK for the kettles from a - 1 on -/
def goK (nx : Rw → Nat × Int32 × Rw → Nat × Int32 × Rw) (s : Nat) (P : Rw) : Nat → Nat → Nat × Int32 × Rw → Nat × Int32 × Rw
  | 0, _, q => q
  | m + 1, a, q => goK nx s P m (a + 1) (if frB P (Int32.ofNat a - 1) s 0 true = true then nx (upd P s (Int32.ofNat a - 1)) q else q)
def goS (lf : Rw → Nat × Int32 × Rw → Nat × Int32 × Rw) (C : Nat) : Nat → Nat → Rw → Nat × Int32 × Rw → Nat × Int32 × Rw
  | 0, _, P, q => lf P q
  | m + 1, s, P, q => goK (fun P' q' => goS lf C m (s + 1) P' q') s P C 0 q
section GOS
variable {lf : Rw → Nat × Int32 × Rw → Nat × Int32 × Rw} {C S : Nat} {q : Nat × Int32 × Rw} {P : Rw}
theorem clL_suc {m n : Nat} : clL lf C S (m + 1) n q = clL lf C S m (n + 1) (if (chO C S n 0 (fun _ => 0)).1 = true then lf (tupR C S n) q else q) := rfl
theorem goK_suc {nx : Rw → Nat × Int32 × Rw → Nat × Int32 × Rw} {s m a : Nat} : goK nx s P (m + 1) a q = goK nx s P m (a + 1) (if frB P (Int32.ofNat a - 1) s 0 true = true then nx (upd P s (Int32.ofNat a - 1)) q else q) := rfl
theorem clL_add : ∀ (a b n : Nat) (q : Nat × Int32 × Rw), clL lf C S (a + b) n q = clL lf C S b (n + a) (clL lf C S a n q) := by
  intro a
  induction a with
  | zero => intro b n q; rw [Nat.zero_add, Nat.add_zero]; rfl
  | succ a ih =>
    intro b n q
    rw [show a + 1 + b = (a + b) + 1 by omega, clL_suc, clL_suc, ih b (n + 1), show n + 1 + a = n + (a + 1) by omega]
theorem clL_no : ∀ (a n : Nat) (q : Nat × Int32 × Rw), (∀ i, n ≤ i → i < n + a → ¬ vld C S i) → clL lf C S a n q = q := by
  intro a
  induction a with
  | zero => intro n q _; rfl
  | succ a ih =>
    intro n q h
    unfold clL
    rw [if_neg (fun z => h n (by omega) (by omega) (chO_ok.mp z))]
    exact ih (n + 1) q (fun i h1 h2 => h i (by omega) (by omega))
theorem frB_iff {k : Int32} : ∀ (m i : Nat) (b : Bool), frB P k m i b = true ↔ (b = true ∧ (m = 0 ∨ k = -1 ∨ ∀ e, i ≤ e → e < i + m → ¬ P e = k)) := by
  intro m
  induction m with
  | zero => intro i b; unfold frB; exact ⟨fun h => ⟨h, Or.inl rfl⟩, fun h => h.1⟩
  | succ m ih =>
    intro i b
    unfold frB
    rw [ih, Bool.and_eq_true, Bool.or_eq_true, Bool.not_eq_true', decide_eq_true_eq, decide_eq_false_iff_not]
    constructor
    · intro ⟨⟨h1, h2⟩, h3⟩
      refine ⟨h1, Or.inr ?_⟩
      rcases h2 with h2 | h2
      · exact Or.inl h2
      · rcases h3 with h3 | h3 | h3
        · right; intro e h4 h5; obtain rfl : e = i := by omega
          exact h2
        · exact Or.inl h3
        · right; intro e h4 h5
          by_cases he : e = i
          · rw [he]; exact h2
          · exact h3 e (by omega) (by omega)
    · intro ⟨h1, h2⟩
      rcases h2 with h2 | h2 | h2
      · omega
      · exact ⟨⟨h1, Or.inl h2⟩, Or.inr (Or.inl h2)⟩
      · exact ⟨⟨h1, Or.inr (h2 i (by omega) (by omega))⟩, Or.inr (Or.inr (fun e h3 h4 => h2 e (by omega) (by omega)))⟩
theorem ofm1 {a b : Nat} (ha : a < 1000) (hb : b < 1000) : (Int32.ofNat a - 1 = Int32.ofNat b - 1) ↔ a = b := by
  constructor
  · intro h
    have := congrArg Int32.toInt h
    rw [ofN1 ha, ofN1 hb] at this
    omega
  · intro h; rw [h]
/-- digits of a number in a block -/
theorem dgt_blk {m s p r i : Nat} (hC : 0 < C) (hr : r < C ^ m) (hi : i < s) : dgt C (s + m) (p * C ^ m + r) i = dgt C s p i := by
  unfold dgt
  rw [show s + m - 1 - i = m + (s - 1 - i) by omega, Nat.pow_add, ← Nat.div_div_eq_div_mul, Nat.mul_comm p, Nat.mul_add_div (Nat.pow_pos hC), Nat.div_eq_of_lt hr, Nat.add_zero]
theorem cl_go (hC : 0 < C) (hC9 : C ≤ 9) (hlf : ∀ (P P' : Rw) q, (∀ e, e < S → P e = P' e) → lf P q = lf P' q) : ∀ (m s p : Nat) (P : Rw) (q : Nat × Int32 × Rw), s + m = S → vld C s p → (∀ i, i < s → P i = Int32.ofNat (dgt C s p i) - 1) → clL lf C S (C ^ m) (p * C ^ m) q = goS lf C m s P q := by
  have hdl : ∀ m n i, dgt C m n i < C := fun m n i => Nat.mod_lt _ hC
  intro m
  induction m with
  | zero =>
    intro s p P q hs hv hP
    obtain rfl : s = S := by omega
    rw [Nat.pow_zero, Nat.mul_one, clL_suc, if_pos (chO_ok.mpr hv)]
    show lf (tupR C s p) q = lf P q
    exact hlf _ _ _ (fun e he => (hP e he).symm)
  | succ m ih =>
    intro s p P q hs hv hP
    have hpm := Nat.pow_pos (n := m) hC
    unfold goS
    have key : ∀ (b a : Nat) (q : Nat × Int32 × Rw), a + b = C → clL lf C S (b * C ^ m) ((p * C + a) * C ^ m) q = goK (fun P' q' => goS lf C m (s + 1) P' q') s P b a q := by
      intro b
      induction b with
      | zero => intro a q _; rw [Nat.zero_mul]; rfl
      | succ b ihb =>
        intro a q hab
        rw [Nat.succ_mul, Nat.add_comm, clL_add, show (p * C + a) * C ^ m + C ^ m = (p * C + (a + 1)) * C ^ m by rw [← Nat.add_assoc, Nat.succ_mul], ihb (a + 1) _ (by omega), goK_suc]
        congr 1
        have hd1 : ∀ i, i < s → dgt C (s + 1) (p * C + a) i = dgt C s p i := by
          intro i hi
          have := dgt_blk (m := 1) (s := s) (p := p) (r := a) (i := i) hC (by rw [Nat.pow_one]; omega) hi
          rw [Nat.pow_one] at this
          exact this
        have hd2 : dgt C (s + 1) (p * C + a) s = a := by rw [dgt_last, Nat.mul_comm, Nat.mul_add_mod, Nat.mod_eq_of_lt (by omega)]
        have hfr : frB P (Int32.ofNat a - 1) s 0 true = true ↔ vld C (s + 1) (p * C + a) := by
          rw [frB_iff]
          constructor
          · intro ⟨_, h⟩ i i' h1 h2 hne
            rw [hd1 i (by omega)] at hne ⊢
            by_cases e : i' = s
            · subst e
              rw [hd2]
              intro z
              rcases h with h | h | h
              · omega
              · have : Int32.ofNat a - 1 = Int32.ofNat 0 - 1 := h
                rw [ofm1 (by omega) (by omega)] at this
                omega
              · exact h i (by omega) (by omega) (by rw [hP i h1, z])
            · rw [hd1 i' (by omega)]; exact hv i i' h1 (by omega) hne
          · intro h
            refine ⟨rfl, ?_⟩
            by_cases h0 : s = 0
            · exact Or.inl h0
            · by_cases ha : a = 0
              · right; left; rw [ha]; rfl
              · right; right
                intro e _ he z
                have he' : e < s := by omega
                rw [hP e he', ofm1 (by have := hdl s p e; omega) (by omega)] at z
                have := h e s he' (by omega) (by rw [hd1 e he', z]; exact ha)
                rw [hd1 e he', hd2] at this
                exact this z
        by_cases hb : frB P (Int32.ofNat a - 1) s 0 true = true
        · rw [if_pos hb]
          refine ih (s + 1) (p * C + a) (upd P s (Int32.ofNat a - 1)) q (by omega) (hfr.mp hb) (fun i hi => ?_)
          by_cases e : i = s
          · subst e; rw [upd_same, hd2]
          · rw [upd_oth e, hd1 i (by omega)]; exact hP i (by omega)
        · rw [if_neg hb]
          refine clL_no _ _ _ (fun i h1 h2 hvi => hb (hfr.mpr (fun j j' h3 h4 hne => ?_)))
          have hi : i = (p * C + a) * C ^ m + (i - (p * C + a) * C ^ m) := by omega
          have hdj : ∀ j, j < s + 1 → dgt C S i j = dgt C (s + 1) (p * C + a) j := by
            intro j hj
            rw [hi, show S = s + 1 + m by omega]
            exact dgt_blk hC (by omega) hj
          have := hvi j j' h3 (by omega)
          rw [hdj j (by omega), hdj j' h4] at this
          exact this hne
    have := key C 0 q (by omega)
    rw [Nat.add_zero, Nat.mul_assoc] at this
    rw [Nat.pow_succ, Nat.mul_comm (C ^ m) C]
    exact this
end GOS
