/-! ===== bits of a long ===== -/
def tb (n : Int64) (i : Nat) : Bool := n.toBitVec.getLsbD i
theorem tb_and {a b : Int64} {i : Nat} : tb (a &&& b) i = (tb a i && tb b i) := by
  unfold tb; rw [Int64.toBitVec_and, BitVec.getLsbD_and]
theorem tb_or {a b : Int64} {i : Nat} : tb (a ||| b) i = (tb a i || tb b i) := by
  unfold tb; rw [Int64.toBitVec_or, BitVec.getLsbD_or]
theorem tb_zero {i : Nat} : tb 0 i = false := by
  unfold tb; exact BitVec.getLsbD_zero
theorem tb_ge {n : Int64} {i : Nat} (h : 64 ≤ i) : tb n i = false := by
  unfold tb; exact BitVec.getLsbD_of_ge _ _ h
theorem tb_ext {a b : Int64} (h : ∀ i, i < 64 → tb a i = tb b i) : a = b := by
  apply Int64.toBitVec_inj.mp
  exact BitVec.eq_of_getLsbD_eq h
theorem tb_ne0 {a : Int64} : (¬ a = 0) ↔ ∃ i, i < 64 ∧ tb a i = true := by
  constructor
  · intro h
    apply Classical.byContradiction
    intro q
    apply h
    apply tb_ext
    intro i hi
    rw [tb_zero]
    cases z : tb a i with
    | false => rfl
    | true => exact absurd ⟨i, hi, z⟩ q
  · intro ⟨i, hi, e⟩ h
    rw [h, tb_zero] at e
    cases e
def bit1 (x : Int32) : Int64 := (1 : Int64) <<< (x.toInt64 &&& 63)
theorem tb_bit1 : ∀ x : Nat, x < 61 → ∀ i : Nat, i < 64 → tb (bit1 (Int32.ofNat x)) i = decide (i = x) := by
  unfold tb bit1
  decide +kernel
def shr (n : Int64) (x : Int32) : Int64 := (n.toUInt64 >>> (x.toInt64.toUInt64 &&& Int64.toUInt64 63)).toInt64
theorem shr_n : ∀ s : Nat, s < 64 → ((Int32.ofNat s).toInt64.toUInt64 &&& Int64.toUInt64 63) = UInt64.ofNat s := by decide +kernel
theorem shr_m : ∀ s : Nat, s < 64 → ((UInt64.ofNat s).toBitVec % 64#64).toNat = s := by decide +kernel
theorem tb_shr {n : Int64} {s i : Nat} (hs : s < 64) : tb (shr n (Int32.ofNat s)) i = tb n (s + i) := by
  unfold shr
  rw [shr_n s hs]
  show (n.toUInt64 >>> UInt64.ofNat s).toBitVec.getLsbD i = n.toBitVec.getLsbD (s + i)
  rw [UInt64.toBitVec_shiftRight]
  show (n.toBitVec >>> ((UInt64.ofNat s).toBitVec % 64#64)).getLsbD i = _
  rw [BitVec.ushiftRight_eq', shr_m s hs, BitVec.getLsbD_ushiftRight]
/-- the notes of the first m kettles of a row, as bits -/
def notesN (w : Rw) : Nat → Int64
  | 0 => 0
  | m + 1 => if w (40 + m) = -1 then notesN w m else notesN w m ||| bit1 (w (40 + m))
theorem tb_notes {w : Rw} : ∀ (m : Nat), (∀ j, j < m → -1 ≤ (w (40 + j)).toInt ∧ (w (40 + j)).toInt ≤ 60) → ∀ i : Nat, i < 1000 → (tb (notesN w m) i = true ↔ ∃ j, j < m ∧ w (40 + j) = Int32.ofNat i) := by
  intro m
  induction m with
  | zero =>
    intro _ i _
    unfold notesN
    rw [tb_zero]
    constructor
    · intro h; cases h
    · intro ⟨j, hj, _⟩; exact absurd hj (Nat.not_lt_zero _)
  | succ m ih =>
    intro hn i hi
    have ihm := ih (fun j hj => hn j (by omega)) i hi
    have hm := hn m (by omega)
    unfold notesN
    by_cases h1 : w (40 + m) = -1
    · rw [if_pos h1, ihm]
      constructor
      · intro ⟨j, hj, e⟩; exact ⟨j, by omega, e⟩
      · intro ⟨j, hj, e⟩
        by_cases hjm : j = m
        · rw [hjm, h1] at e
          have := congrArg Int32.toInt e
          rw [ti_m1, ii_ofNat (by omega)] at this
          omega
        · exact ⟨j, by omega, e⟩
    · rw [if_neg h1, tb_or, Bool.or_eq_true, ihm]
      have h0 : 0 ≤ (w (40 + m)).toInt := by
        rw [ii_eq, ti_m1] at h1; omega
      have e0 : w (40 + m) = Int32.ofNat (w (40 + m)).toNatClampNeg := (ii_nat h0).symm
      have e1 := ii_clamp (a := w (40 + m))
      have hx : (w (40 + m)).toNatClampNeg < 61 := by omega
      constructor
      · rintro (⟨j, hj, e⟩ | h)
        · exact ⟨j, by omega, e⟩
        · by_cases hi64 : i < 64
          · rw [e0, tb_bit1 _ hx i hi64, decide_eq_true_eq] at h
            exact ⟨m, by omega, by rw [h]; exact e0⟩
          · rw [tb_ge (by omega)] at h; cases h
      · intro ⟨j, hj, e⟩
        by_cases hjm : j = m
        · right
          rw [hjm] at e
          have h2 : i = (w (40 + m)).toNatClampNeg := by rw [e, nn_clamp (by omega)]
          rw [e0, tb_bit1 _ hx i (by omega), decide_eq_true_eq]
          exact h2
        · left; exact ⟨j, by omega, e⟩
theorem sungR_iff {w : Rw} {v : Int32} : ∀ m j : Nat, sungR w v m j = 1 ↔ ∃ i, j ≤ i ∧ i < j + m ∧ ¬ w (40 + i) = -1 ∧ w (40 + i) = v := by
  intro m
  induction m with
  | zero =>
    intro j
    unfold sungR
    constructor
    · intro h; exact absurd h (by decide)
    · intro ⟨i, h1, h2, _⟩; omega
  | succ m ih =>
    intro j
    unfold sungR
    have ihj := ih (j + 1)
    by_cases h1 : w (40 + j) = -1
    · rw [if_pos h1, ihj]
      constructor
      · intro ⟨i, a, b, c⟩; exact ⟨i, by omega, by omega, c⟩
      · intro ⟨i, a, b, c⟩
        by_cases hij : i = j
        · rw [hij] at c; exact absurd h1 c.1
        · exact ⟨i, by omega, by omega, c⟩
    · rw [if_neg h1]
      by_cases h2 : w (40 + j) = v
      · rw [if_pos h2]
        exact ⟨fun _ => ⟨j, by omega, by omega, h1, h2⟩, fun _ => rfl⟩
      · rw [if_neg h2, ihj]
        constructor
        · intro ⟨i, a, b, c⟩; exact ⟨i, by omega, by omega, c⟩
        · intro ⟨i, a, b, c⟩
          by_cases hij : i = j
          · rw [hij] at c; exact absurd c.2 h2
          · exact ⟨i, by omega, by omega, c⟩
/-- a note is sung just where its bit stands -/
theorem sung_tb {w : Rw} {m i : Nat} (hn : ∀ j, j < m → -1 ≤ (w (40 + j)).toInt ∧ (w (40 + j)).toInt ≤ 60) (hi : i < 1000) : sungR w (Int32.ofNat i) m 0 = (if tb (notesN w m) i = true then 1 else 0) := by
  have h1 := tb_notes m hn i hi
  have h2 := sungR_iff (w := w) (v := Int32.ofNat i) m 0
  by_cases h : tb (notesN w m) i = true
  · rw [if_pos h]
    obtain ⟨j, hj, e⟩ := h1.mp h
    refine h2.mpr ⟨j, by omega, by omega, ?_, e⟩
    rw [e, nn_nneg (by omega)]; exact fun z => z
  · rw [if_neg h]
    rcases sungR_01 (w := w) (Int32.ofNat i) m 0 with q | q
    · exact q
    · obtain ⟨j, _, hj, _, e⟩ := h2.mp q
      exact absurd (h1.mpr ⟨j, by omega, e⟩) h
