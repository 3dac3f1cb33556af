/-! ===== the least of totals; kettles to notes, by sets and by notes ===== -/
def Best (P : Nat → Prop) (B v : Nat) : Prop := v ≤ B ∧ (∀ x, P x → v ≤ x) ∧ (v < B → P v)
section BEST
variable {P Q : Nat → Prop} {B v r c : Nat}
theorem Best_iff (h : ∀ x, P x ↔ Q x) (hb : Best P B v) : Best Q B v := ⟨hb.1, fun x hx => hb.2.1 x ((h x).mpr hx), fun hv => (h v).mp (hb.2.2 hv)⟩
theorem Best_min (h1 : Best P B v) (h2 : Best Q B r) : Best (fun x => P x ∨ ∃ y, Q y ∧ x = c + y) B (min v (c + r)) := by
  obtain ⟨a1, a2, a3⟩ := h1
  obtain ⟨b1, b2, b3⟩ := h2
  refine ⟨by omega, fun x hx => ?_, fun hv => ?_⟩
  · rcases hx with hx | ⟨y, hy, e⟩
    · have := a2 x hx; omega
    · have := b2 y hy; omega
  · by_cases h : v ≤ c + r
    · rw [Nat.min_eq_left h] at hv ⊢
      exact Or.inl (a3 hv)
    · rw [Nat.min_eq_right (by omega)] at hv ⊢
      exact Or.inr ⟨r, b3 (by omega), rfl⟩
theorem Best_or (h1 : Best P B v) (h2 : Best Q B r) : Best (fun x => P x ∨ Q x) B (min v r) := by
  have := Best_min (c := 0) h1 h2
  rw [Nat.zero_add] at this
  refine Best_iff (fun x => ?_) this
  constructor
  · intro h
    rcases h with h | ⟨y, hy, e⟩
    · exact Or.inl h
    · rw [Nat.zero_add] at e; subst e; exact Or.inr hy
  · intro h
    rcases h with h | h
    · exact Or.inl h
    · exact Or.inr ⟨x, h, (Nat.zero_add x).symm⟩
theorem Best_no : Best (fun _ => False) B B := ⟨Nat.le_refl B, fun _ h => h.elim, fun h => absurd h (Nat.lt_irrefl B)⟩
theorem Best_0 (hB : 0 < B) : Best (fun x => x = 0) B 0 := ⟨Nat.zero_le B, fun _ _ => Nat.zero_le _, fun _ => rfl⟩
/-- two bounds, both above all totals: the same least, or none -/
theorem Best_two {B' : Nat} (hB : 160 < B) (hB' : 160 < B') (hP : ∀ x, P x → x ≤ 160) (h1 : Best P B v) (h2 : Best P B' r) : (v = r ∧ v ≤ 160) ∨ (v = B ∧ r = B') := by
  by_cases h : ∃ x, P x
  · obtain ⟨x, hx⟩ := h
    have q1 := h1.2.1 x hx
    have q2 := h2.2.1 x hx
    have q3 := hP x hx
    have p1 := h1.2.2 (by omega)
    have p2 := h2.2.2 (by omega)
    have l1 := h1.2.1 r p2
    have l2 := h2.2.1 v p1
    exact Or.inl ⟨by omega, by omega⟩
  · right
    constructor
    · apply Classical.byContradiction
      intro z
      exact h ⟨v, h1.2.2 (by have := h1.1; omega)⟩
    · apply Classical.byContradiction
      intro z
      exact h ⟨r, h2.2.2 (by have := h2.1; omega)⟩
end BEST
/-- totals of a set's notes sung by different kettles below k -/
def WS (n B : Nat) (co : Nat → Nat → Nat) : Nat → Nat → Nat → Prop
  | 0, s, x => s = 0 ∧ x = 0
  | k + 1, s, x => WS n B co k s x ∨ ∃ i, i < n ∧ s.testBit i = true ∧ co i k < B ∧ ∃ y, WS n B co k (s - 2 ^ i) y ∧ x = co i k + y
/-- totals of the notes from the last m on, by kettles that aren't used -/
def RS (n N B : Nat) (co : Nat → Nat → Nat) : Nat → Nat → Nat → Prop
  | 0, _, x => x = 0
  | m + 1, u, x => ∃ k, k < N ∧ u.testBit k = false ∧ co (n - (m + 1)) k < B ∧ ∃ y, RS n N B co m (u ||| 2 ^ k) y ∧ x = co (n - (m + 1)) k + y
def sS (b : Nat → Bool) (f : Nat → Nat) : Nat → Nat
  | 0 => 0
  | m + 1 => sS b f m + (bif b m then f m else 0)
section ASG
variable {n N B k s u x i : Nat} {co : Nat → Nat → Nat} {b b' : Nat → Bool} {f f' : Nat → Nat}
theorem sS_congr : ∀ m : Nat, (∀ j, j < m → b j = b' j) → (∀ j, j < m → b j = true → f j = f' j) → sS b f m = sS b' f' m := by
  intro m
  induction m with
  | zero => intro _ _; rfl
  | succ m ih =>
    intro h1 h2
    unfold sS
    rw [ih (fun j hj => h1 j (by omega)) (fun j hj => h2 j (by omega)), ← h1 m (by omega)]
    cases hb : b m with
    | false => rfl
    | true => rw [cond_true, cond_true, h2 m (by omega) hb]
theorem sS_out : ∀ m : Nat, i < m → b i = true → b' i = false → (∀ j, j < m → ¬ j = i → b j = b' j ∧ (b j = true → f j = f' j)) → sS b f m = f i + sS b' f' m := by
  intro m
  induction m with
  | zero => intro h; omega
  | succ m ih =>
    intro hi h1 h2 h3
    unfold sS
    by_cases e : i = m
    · subst e
      rw [h1, h2, cond_true, cond_false, sS_congr i (fun j hj => (h3 j (by omega) (by omega)).1) (fun j hj => (h3 j (by omega) (by omega)).2)]
      omega
    · rw [ih (by omega) h1 h2 (fun j hj hne => h3 j (by omega) hne)]
      have := h3 m (by omega) (fun z => e z.symm)
      rw [← this.1]
      cases hb : b m with
      | false => rw [cond_false, cond_false]; omega
      | true => rw [cond_true, cond_true, this.2 hb]; omega
theorem bit_off : ∀ s : Nat, s < 16 → ∀ i : Nat, i < 4 → s.testBit i = true → (s - 2 ^ i < 16 ∧ 2 ^ i ≤ s ∧ ∀ j : Nat, j < 4 → (s - 2 ^ i).testBit j = (!decide (j = i) && s.testBit j)) := by decide +kernel
/-- kettles for the notes of a set -/
def AS (n B : Nat) (co : Nat → Nat → Nat) (s k : Nat) (f : Nat → Nat) : Prop := (∀ i, i < n → s.testBit i = true → f i < k ∧ co i (f i) < B) ∧ ∀ i j, i < n → j < n → s.testBit i = true → s.testBit j = true → ¬ i = j → ¬ f i = f j
theorem WS_iff (hn : n ≤ 4) : ∀ (k s x : Nat), s < 16 → (∀ j, n ≤ j → j < 4 → s.testBit j = false) → (WS n B co k s x ↔ ∃ f, AS n B co s k f ∧ sS s.testBit (fun i => co i (f i)) n = x) := by
  intro k
  induction k with
  | zero =>
    intro s x hs hh
    unfold WS
    constructor
    · intro ⟨h1, h2⟩
      refine ⟨fun _ => 0, ⟨fun i hi hb => ?_, fun i j hi hj hb => ?_⟩, ?_⟩
      · rw [h1, Nat.zero_testBit] at hb; cases hb
      · rw [h1, Nat.zero_testBit] at hb; cases hb
      · rw [h1, h2]
        have : ∀ m : Nat, sS (Nat.testBit 0) (fun i => co i 0) m = 0 := by
          intro m
          induction m with
          | zero => rfl
          | succ m ih => unfold sS; rw [ih, Nat.zero_testBit]; rfl
        exact this n
    · intro ⟨f, h1, h2⟩
      have h0 : ∀ j, j < 4 → s.testBit j = false := by
        intro j hj
        by_cases hjn : j < n
        · cases hb : s.testBit j with
          | false => rfl
          | true => exact absurd (h1.1 j hjn hb).1 (Nat.not_lt_zero _)
        · exact hh j (by omega) hj
      have hz : ∀ s : Nat, s < 16 → (∀ j : Nat, j < 4 → s.testBit j = false) → s = 0 := by decide +kernel
      have hs0 := hz s hs h0
      refine ⟨hs0, ?_⟩
      rw [← h2, hs0]
      have : ∀ m : Nat, sS (Nat.testBit 0) (fun i => co i (f i)) m = 0 := by
        intro m
        induction m with
        | zero => rfl
        | succ m ih => unfold sS; rw [ih, Nat.zero_testBit]; rfl
      exact this n
  | succ k ih =>
    intro s x hs hh
    unfold WS
    constructor
    · intro h
      rcases h with h | ⟨i, hi, hb, hc, y, hy, hx⟩
      · obtain ⟨f, h1, h2⟩ := (ih s x hs hh).mp h
        exact ⟨f, ⟨fun i hi hb => ⟨Nat.lt_succ_of_lt (h1.1 i hi hb).1, (h1.1 i hi hb).2⟩, h1.2⟩, h2⟩
      · obtain ⟨o1, o2, o3⟩ := bit_off s hs i (by omega) hb
        obtain ⟨f, h1, h2⟩ := (ih (s - 2 ^ i) y o1 (fun j h3 h4 => by rw [o3 j h4, hh j h3 h4, Bool.and_false])).mp hy
        have hj : ∀ j, j < n → s.testBit j = true → ¬ j = i → (s - 2 ^ i).testBit j = true := by
          intro j hj hb' hne
          rw [o3 j (by omega), decide_eq_false hne, hb']; rfl
        refine ⟨fun j => if j = i then k else f j, ⟨fun j hjn hb' => ?_, fun j j' hjn hjn' hb1 hb2 hne => ?_⟩, ?_⟩
        · by_cases e : j = i
          · simp only [if_pos e]; rw [e]; exact ⟨by omega, hc⟩
          · simp only [if_neg e]
            have := h1.1 j hjn (hj j hjn hb' e)
            exact ⟨by omega, this.2⟩
        · by_cases e : j = i
          · by_cases e' : j' = i
            · omega
            · simp only [if_pos e, if_neg e']
              have := (h1.1 j' hjn' (hj j' hjn' hb2 e')).1
              omega
          · by_cases e' : j' = i
            · simp only [if_neg e, if_pos e']
              have := (h1.1 j hjn (hj j hjn hb1 e)).1
              omega
            · simp only [if_neg e, if_neg e']
              exact h1.2 j j' hjn hjn' (hj j hjn hb1 e) (hj j' hjn' hb2 e') hne
        · rw [hx, ← h2]
          have := sS_out (b := s.testBit) (b' := (s - 2 ^ i).testBit) (f := fun j => co j (if j = i then k else f j)) (f' := fun j => co j (f j)) (i := i) n hi hb (by rw [o3 i (by omega), decide_eq_true rfl]; rfl) (fun j hjn hne => ⟨by rw [o3 j (by omega), decide_eq_false hne]; rfl, fun _ => by simp only [if_neg hne]⟩)
          rw [this]; simp only [if_true]
    · intro ⟨f, h1, h2⟩
      by_cases hk : ∃ i, i < n ∧ s.testBit i = true ∧ f i = k
      · right
        obtain ⟨i, hi, hb, he⟩ := hk
        obtain ⟨o1, o2, o3⟩ := bit_off s hs i (by omega) hb
        have ho : ∀ j, j < n → (s - 2 ^ i).testBit j = true → s.testBit j = true ∧ ¬ j = i := by
          intro j hj hb'
          rw [o3 j (by omega), Bool.and_eq_true, Bool.not_eq_true', decide_eq_false_iff_not] at hb'
          exact ⟨hb'.2, hb'.1⟩
        have hA : AS n B co (s - 2 ^ i) k f := by
          refine ⟨fun j hj hb' => ?_, fun j j' hj hj' hb1 hb2 hne => h1.2 j j' hj hj' (ho j hj hb1).1 (ho j' hj' hb2).1 hne⟩
          have q := ho j hj hb'
          have q1 := h1.1 j hj q.1
          have q2 := h1.2 j i hj hi q.1 hb q.2
          exact ⟨by omega, q1.2⟩
        refine ⟨i, hi, hb, by rw [← he]; exact (h1.1 i hi hb).2, sS (s - 2 ^ i).testBit (fun i => co i (f i)) n, (ih (s - 2 ^ i) _ o1 (fun j h3 h4 => by rw [o3 j h4, hh j h3 h4, Bool.and_false])).mpr ⟨f, hA, rfl⟩, ?_⟩
        rw [← h2, ← he]
        exact sS_out (b := s.testBit) (b' := (s - 2 ^ i).testBit) (f := fun j => co j (f j)) (f' := fun j => co j (f j)) (i := i) n hi hb (by rw [o3 i (by omega), decide_eq_true rfl]; rfl) (fun j hjn hne => ⟨by rw [o3 j (by omega), decide_eq_false hne]; rfl, fun _ => rfl⟩)
      · left
        refine (ih s x hs hh).mpr ⟨f, ⟨fun i hi hb => ?_, h1.2⟩, h2⟩
        have q := h1.1 i hi hb
        have : ¬ f i = k := fun z => hk ⟨i, hi, hb, z⟩
        exact ⟨by omega, q.2⟩
theorem RS_iff : ∀ (m u x : Nat), m ≤ n → (RS n N B co m u x ↔ ∃ f : Nat → Nat, ((∀ i, n - m ≤ i → i < n → f i < N ∧ u.testBit (f i) = false ∧ co i (f i) < B) ∧ ∀ i j, n - m ≤ i → i < n → n - m ≤ j → j < n → ¬ i = j → ¬ f i = f j) ∧ sS (fun i => decide (n - m ≤ i)) (fun i => co i (f i)) n = x) := by
  intro m
  induction m with
  | zero =>
    intro u x hm
    unfold RS
    have hz : ∀ (f : Nat → Nat) (m : Nat), m ≤ n → sS (fun i => decide (n - 0 ≤ i)) (fun i => co i (f i)) m = 0 := by
      intro f m
      induction m with
      | zero => intro _; rfl
      | succ m ih => intro hm; unfold sS; rw [ih (by omega), decide_eq_false (by omega)]; rfl
    constructor
    · intro h; exact ⟨fun _ => 0, ⟨fun i h1 h2 => by omega, fun i j h1 h2 => by omega⟩, by rw [h]; exact hz _ n (Nat.le_refl n)⟩
    · intro ⟨f, _, h⟩; rw [← h]; exact hz f n (Nat.le_refl n)
  | succ m ih =>
    intro u x hm
    unfold RS
    have e1 : n - m = n - (m + 1) + 1 := by omega
    have eb : ∀ i, i < n → ¬ i = n - (m + 1) → decide (n - (m + 1) ≤ i) = decide (n - m ≤ i) := by
      intro i hi hne
      by_cases h : n - m ≤ i
      · rw [decide_eq_true h, decide_eq_true (by omega)]
      · rw [decide_eq_false h, decide_eq_false (by omega)]
    constructor
    · intro ⟨k, hk, hu, hc, y, hy, hx⟩
      obtain ⟨f, ⟨h1, h2⟩, h3⟩ := (ih (u ||| 2 ^ k) y (by omega)).mp hy
      have ho : ∀ i, n - m ≤ i → i < n → u.testBit (f i) = false ∧ ¬ f i = k := by
        intro i hi hin
        have q := (h1 i hi hin).2.1
        rw [Nat.testBit_or, Bool.or_eq_false_iff, Nat.testBit_two_pow] at q
        exact ⟨q.1, fun z => by rw [decide_eq_false_iff_not] at q; exact q.2 z.symm⟩
      refine ⟨fun i => if i = n - (m + 1) then k else f i, ⟨fun i hi hin => ?_, fun i j hi hin hj hjn hne => ?_⟩, ?_⟩
      · by_cases e : i = n - (m + 1)
        · simp only [if_pos e]; rw [e]; exact ⟨hk, hu, hc⟩
        · simp only [if_neg e]
          exact ⟨(h1 i (by omega) hin).1, (ho i (by omega) hin).1, (h1 i (by omega) hin).2.2⟩
      · by_cases e : i = n - (m + 1)
        · by_cases e' : j = n - (m + 1)
          · omega
          · simp only [if_pos e, if_neg e']
            exact fun z => (ho j (by omega) hjn).2 z.symm
        · by_cases e' : j = n - (m + 1)
          · simp only [if_neg e, if_pos e']
            exact (ho i (by omega) hin).2
          · simp only [if_neg e, if_neg e']
            exact h2 i j (by omega) hin (by omega) hjn hne
      · rw [hx, ← h3]
        have := sS_out (b := fun i => decide (n - (m + 1) ≤ i)) (b' := fun i => decide (n - m ≤ i)) (f := fun i => co i (if i = n - (m + 1) then k else f i)) (f' := fun i => co i (f i)) (i := n - (m + 1)) n (by omega) (decide_eq_true (Nat.le_refl _)) (decide_eq_false (by omega)) (fun j hj hne => ⟨eb j hj hne, fun _ => by simp only [if_neg hne]⟩)
        rw [this]; simp only [if_true]
    · intro ⟨f, ⟨h1, h2⟩, h3⟩
      have q := h1 (n - (m + 1)) (Nat.le_refl _) (by omega)
      refine ⟨f (n - (m + 1)), q.1, q.2.1, q.2.2, sS (fun i => decide (n - m ≤ i)) (fun i => co i (f i)) n, (ih _ _ (by omega)).mpr ⟨f, ⟨fun i hi hin => ?_, fun i j hi hin hj hjn hne => h2 i j (by omega) hin (by omega) hjn hne⟩, rfl⟩, ?_⟩
      · have q1 := h1 i (by omega) hin
        have q2 := h2 i (n - (m + 1)) (by omega) hin (Nat.le_refl _) (by omega) (by omega)
        refine ⟨q1.1, ?_, q1.2.2⟩
        rw [Nat.testBit_or, q1.2.1, Nat.testBit_two_pow, Bool.false_or, decide_eq_false_iff_not]
        exact fun z => q2 z.symm
      · rw [← h3]
        exact sS_out (b := fun i => decide (n - (m + 1) ≤ i)) (b' := fun i => decide (n - m ≤ i)) (f := fun i => co i (f i)) (f' := fun i => co i (f i)) (i := n - (m + 1)) n (by omega) (decide_eq_true (Nat.le_refl _)) (decide_eq_false (by omega)) (fun j hj hne => ⟨eb j hj hne, fun _ => rfl⟩)
theorem bit_all : ∀ n : Nat, n ≤ 4 → (2 ^ n - 1 < 16 ∧ ∀ j : Nat, j < 4 → (2 ^ n - 1).testBit j = decide (j < n)) := by decide +kernel
theorem WS_RS (hn : n ≤ 4) : WS n B co N (2 ^ n - 1) x ↔ RS n N B co n 0 x := by
  obtain ⟨a1, a2⟩ := bit_all n hn
  have hb : ∀ j, j < n → (2 ^ n - 1).testBit j = true := fun j hj => by rw [a2 j (by omega)]; exact decide_eq_true hj
  rw [WS_iff hn N _ x a1 (fun j h1 h2 => by rw [a2 j h2]; exact decide_eq_false (by omega)), RS_iff n 0 x (Nat.le_refl n)]
  constructor
  · intro ⟨f, ⟨h1, h2⟩, h3⟩
    refine ⟨f, ⟨fun i _ hi => ⟨(h1 i hi (hb i hi)).1, Nat.zero_testBit _, (h1 i hi (hb i hi)).2⟩, fun i j _ hi _ hj hne => h2 i j hi hj (hb i hi) (hb j hj) hne⟩, ?_⟩
    rw [← h3]
    exact sS_congr n (fun j hj => by rw [hb j hj]; exact decide_eq_true (by omega)) (fun j _ _ => rfl)
  · intro ⟨f, ⟨h1, h2⟩, h3⟩
    refine ⟨f, ⟨fun i hi _ => ⟨(h1 i (by omega) hi).1, (h1 i (by omega) hi).2.2⟩, fun i j hi hj _ _ hne => h2 i j (by omega) hi (by omega) hj hne⟩, ?_⟩
    rw [← h3]
    exact sS_congr n (fun j hj => by rw [hb j hj]; exact (decide_eq_true (by omega)).symm) (fun j _ _ => rfl)
theorem RS_leN (hc : ∀ i k, k < N → co i k < B → co i k ≤ 40) : ∀ (m u x : Nat), RS n N B co m u x → x ≤ 40 * m := by
  intro m
  induction m with
  | zero => intro u x h; unfold RS at h; omega
  | succ m ih =>
    intro u x h
    unfold RS at h
    obtain ⟨k, hk, _, h1, y, hy, hx⟩ := h
    have := ih _ _ hy
    have := hc _ _ hk h1
    omega
end ASG
