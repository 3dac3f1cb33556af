/-! ===== the reference: tokens ===== -/
/-- the byte at i, or -1 behind the text -/
def btR (f : Rw) (n i : Nat) : Int32 := if i < n then f i else -1
def nmR (b : Rw) (n : Nat) : Nat → Nat → Nat → Nat
  | 0, _, v => v
  | m + 1, a, v => if sor b n a = 2 then nmR b n m (a + 1) (min 100000 (10 * v + ((b a).toNatClampNeg - 48))) else v
section MTOK
variable {d : Nat} {t : List px_E} {g : hG} {n cn sn : Nat} {b f r : Rw} {x : Int32} {h : px_H}
theorem byte_srt {y z : Int32} (hr : byteRel y z) : srt y = srt z ∧ (∀ c : Int32, 0 ≤ c.toInt → c.toInt < 128 → (z = c ↔ y = c)) ∧ (srt y = 2 → z = y) := by
  obtain ⟨⟨h0, h255⟩, h1, h2⟩ := hr
  by_cases h : z.toInt < 128
  · have := h1 h
    subst this
    exact ⟨rfl, fun c _ _ => Iff.rfl, fun _ => rfl⟩
  · have hy := h2 (by omega)
    have n5 : ∀ w : Int32, (w.toInt < 0 ∨ 128 ≤ w.toInt) → srt w = 5 := by
      intro w hw
      have ne : ∀ c : Int32, 0 ≤ c.toInt → c.toInt < 128 → ¬ w = c := by
        intro c c0 c1 z
        rw [z] at hw
        omega
      unfold srt
      rw [if_neg (by omega), if_neg (by omega), if_neg, if_neg]
      · intro q
        rcases q with q | q | q | q | q | q | q | q | q <;> exact ne _ (by decide) (by decide) q
      · intro q
        rcases q with q | q <;> exact ne _ (by decide) (by decide) q
    refine ⟨by rw [n5 y (Or.inl hy), n5 z (Or.inr (by omega))], fun c c0 c1 => ?_, fun q => ?_⟩
    · constructor
      · intro q; rw [q] at h; omega
      · intro q; rw [q] at hy; omega
    · rw [n5 y (Or.inl hy)] at q; omega
theorem bt_let (hT : tapeR n b f) {i : Nat} : (97 ≤ (btR f n i).toInt ∧ (btR f n i).toInt ≤ 122) ↔ sor b n i = 1 := by
  unfold btR sor
  by_cases hi : i < n
  · rw [if_pos hi, if_pos hi, (byte_srt (hT i hi)).1]
    unfold srt
    constructor
    · intro q; rw [if_pos q]
    · intro q
      apply Classical.byContradiction
      intro z
      rw [if_neg z] at q
      repeat' split at q
      all_goals omega
  · rw [if_neg hi, if_neg hi, ti_m1]; omega
theorem bt_dig (hT : tapeR n b f) {i : Nat} : (48 ≤ (btR f n i).toInt ∧ (btR f n i).toInt ≤ 57) ↔ sor b n i = 2 := by
  unfold btR sor
  by_cases hi : i < n
  · rw [if_pos hi, if_pos hi, (byte_srt (hT i hi)).1]
    unfold srt
    constructor
    · intro q; rw [if_neg (by omega), if_pos q]
    · intro q
      apply Classical.byContradiction
      intro z
      rw [if_neg z] at q
      repeat' split at q
      all_goals omega
  · rw [if_neg hi, if_neg hi, ti_m1]; omega
theorem bt_bl (hT : tapeR n b f) {i : Nat} : (btR f n i = 32 ∨ btR f n i = 10) ↔ sor b n i = 4 := by
  unfold btR sor
  by_cases hi : i < n
  · rw [if_pos hi, if_pos hi, (byte_srt (hT i hi)).1]
    constructor
    · intro q
      rcases q with q | q <;> rw [q] <;> decide
    · intro q
      apply Classical.byContradiction
      intro z
      unfold srt at q
      rw [if_neg (c := f i = 10 ∨ f i = 32) (fun y => z y.symm)] at q
      repeat' split at q
      all_goals omega
  · rw [if_neg hi, if_neg hi]
    constructor
    · intro q
      rcases q with q | q <;> exact absurd q (by decide)
    · intro q; omega
def isMk (x : Int32) : Prop := x = 59 ∨ x = 40 ∨ x = 41 ∨ x = 43 ∨ x = 45 ∨ x = 42 ∨ x = 47 ∨ x = 60 ∨ x = 61
theorem bt_mk (hT : tapeR n b f) {i : Nat} : isMk (btR f n i) ↔ sor b n i = 3 := by
  unfold btR sor
  by_cases hi : i < n
  · rw [if_pos hi, if_pos hi, (byte_srt (hT i hi)).1]
    unfold isMk
    constructor
    · intro q
      rcases q with q | q | q | q | q | q | q | q | q <;> rw [q] <;> decide
    · intro q
      apply Classical.byContradiction
      intro z
      unfold srt at q
      rw [if_neg (c := f i = 40 ∨ f i = 41 ∨ f i = 42 ∨ f i = 43 ∨ f i = 45 ∨ f i = 47 ∨ f i = 59 ∨ f i = 60 ∨ f i = 61) (fun y => z (by
        rcases y with y | y | y | y | y | y | y | y | y <;> simp [y]))] at q
      repeat' split at q
      all_goals omega
  · rw [if_neg hi, if_neg hi]
    constructor
    · intro q
      unfold isMk at q
      rcases q with q | q | q | q | q | q | q | q | q <;> exact absurd q (by decide)
    · intro q; omega
theorem bt_no (hT : tapeR n b f) {i : Nat} : btR f n i = -1 ↔ sor b n i = 0 := by
  rw [sor_0]
  unfold btR
  by_cases hi : i < n
  · rw [if_pos hi]
    have := (hT i hi).1.1
    constructor
    · intro q; rw [q, ti_m1] at this; omega
    · intro q; omega
  · rw [if_neg hi]; exact ⟨fun _ => by omega, fun _ => rfl⟩
theorem m49_1 : (hR g 49 r).1 49 = r := rfl
theorem m49_63 : (hR g 49 r).1 63 = g.1 63 := rfl
theorem m49_i {i : Nat} : hI (hR g 49 r) 49 i x = hR g 49 (upd r i x) := by rw [hI_R, hR_same, hR_hR]
theorem m_byteAt {i : Nat} (hn : n ≤ 600) (hi : i ≤ 600) (h17 : r 17 = Int32.ofNat n) : bc d M_X10_byteAt none 0 [some (.ref 49), some (.int (Int32.ofNat i))] [] (hp t (hR g 49 r)) cn sn = some (.inl (some (.int (btR (g.1 63) n i))), hp t (hR g 49 r), cn, sn) := by
  unfold btR
  by_cases hin : i < n
  · rw [if_pos hin]
    simp (disch := omega) only [st_X10_byteAt_0, st_X10_byteAt_1, st_X10_byteAt_2, st_X10_byteAt_5, st_X10_byteAt_8, st_X10_byteAt_9, st_X10_byteAt_12, st_X10_byteAt_13, st_X10_byteAt_14, st_X10_byteAt_18, bM_some, hg_49_17, hg_49_14, ha_63, m49_1, m49_63, h17, nn_lt, hin, if_true, nn_out, nn_clamp, cond_false, Nat.reduceAdd]
  · rw [if_neg hin]
    simp (disch := omega) only [st_X10_byteAt_0, st_X10_byteAt_1, st_X10_byteAt_2, st_X10_byteAt_5, st_X10_byteAt_17, st_X10_byteAt_18, bM_some, hg_49_17, m49_1, h17, nn_lt, hin, if_false, Nat.reduceAdd]
theorem m_isLetter {q : Prop} [Decidable q] (hq : (97 ≤ x.toInt ∧ x.toInt ≤ 122) ↔ q) : bc d M_X10_isLetter none 0 [some (.int x)] [] h cn sn = some (.inl (some (.int (b01 (decide q)))), h, cn, sn) := by
  by_cases e1 : x < 97
  · have : ¬ q := fun z => by have := hq.mpr z; rw [ii_lt, ti_97] at e1; omega
    rw [decide_eq_false this]
    simp only [st_X10_isLetter_0, st_X10_isLetter_1, st_X10_isLetter_3, st_X10_isLetter_16, st_X10_isLetter_17, e1, if_true, b01, cond_false, Nat.reduceAdd]
  · by_cases e2 : 122 < x
    · have : ¬ q := fun z => by have := hq.mpr z; rw [ii_lt, ti_122] at e2; omega
      rw [decide_eq_false this]
      simp only [st_X10_isLetter_0, st_X10_isLetter_1, st_X10_isLetter_3, st_X10_isLetter_6, st_X10_isLetter_7, st_X10_isLetter_9, st_X10_isLetter_16, st_X10_isLetter_17, e1, e2, if_true, if_false, b01, cond_false, Nat.reduceAdd]
    · have : q := hq.mp (by rw [ii_lt, ti_97] at e1; rw [ii_lt, ti_122] at e2; omega)
      rw [decide_eq_true this]
      simp only [st_X10_isLetter_0, st_X10_isLetter_1, st_X10_isLetter_3, st_X10_isLetter_6, st_X10_isLetter_7, st_X10_isLetter_9, st_X10_isLetter_12, st_X10_isLetter_13, st_X10_isLetter_17b, e1, e2, if_false, b01, cond_true, Nat.reduceAdd]
theorem m_isDigit {q : Prop} [Decidable q] (hq : (48 ≤ x.toInt ∧ x.toInt ≤ 57) ↔ q) : bc d M_X10_isDigit none 0 [some (.int x)] [] h cn sn = some (.inl (some (.int (b01 (decide q)))), h, cn, sn) := by
  by_cases e1 : x < 48
  · have : ¬ q := fun z => by have := hq.mpr z; rw [ii_lt, ti_48] at e1; omega
    rw [decide_eq_false this]
    simp only [st_X10_isDigit_0, st_X10_isDigit_1, st_X10_isDigit_3, st_X10_isDigit_16, st_X10_isDigit_17, e1, if_true, b01, cond_false, Nat.reduceAdd]
  · by_cases e2 : 57 < x
    · have : ¬ q := fun z => by have := hq.mpr z; rw [ii_lt, ti_57] at e2; omega
      rw [decide_eq_false this]
      simp only [st_X10_isDigit_0, st_X10_isDigit_1, st_X10_isDigit_3, st_X10_isDigit_6, st_X10_isDigit_7, st_X10_isDigit_9, st_X10_isDigit_16, st_X10_isDigit_17, e1, e2, if_true, if_false, b01, cond_false, Nat.reduceAdd]
    · have : q := hq.mp (by rw [ii_lt, ti_48] at e1; rw [ii_lt, ti_57] at e2; omega)
      rw [decide_eq_true this]
      simp only [st_X10_isDigit_0, st_X10_isDigit_1, st_X10_isDigit_3, st_X10_isDigit_6, st_X10_isDigit_7, st_X10_isDigit_9, st_X10_isDigit_12, st_X10_isDigit_13, st_X10_isDigit_17b, e1, e2, if_false, b01, cond_true, Nat.reduceAdd]
set_option maxHeartbeats 4000000 in
theorem m_isMark {q : Prop} [Decidable q] (hq : isMk x ↔ q) : bc d M_X10_isMark none 0 [some (.int x)] [] h cn sn = some (.inl (some (.int (b01 (decide q)))), h, cn, sn) := by
  by_cases hz : isMk x
  · rw [decide_eq_true (hq.mp hz)]
    unfold isMk at hz
    by_cases c1 : x = 59
    · simp only [st_X10_isMark_0, st_X10_isMark_1, st_X10_isMark_3, st_X10_isMark_54, st_X10_isMark_55, st_X10_isMark_59b, eq_true c1, if_true, if_false, b01, cond_true, Nat.reduceAdd]
    by_cases c2 : x = 40
    · simp only [st_X10_isMark_0, st_X10_isMark_1, st_X10_isMark_3, st_X10_isMark_6, st_X10_isMark_7, st_X10_isMark_9, st_X10_isMark_54, st_X10_isMark_55, st_X10_isMark_59b, c1, eq_true c2, if_true, if_false, b01, cond_true, Nat.reduceAdd]
    by_cases c3 : x = 41
    · simp only [st_X10_isMark_0, st_X10_isMark_1, st_X10_isMark_3, st_X10_isMark_6, st_X10_isMark_7, st_X10_isMark_9, st_X10_isMark_12, st_X10_isMark_13, st_X10_isMark_15, st_X10_isMark_54, st_X10_isMark_55, st_X10_isMark_59b, c1, c2, eq_true c3, if_true, if_false, b01, cond_true, Nat.reduceAdd]
    by_cases c4 : x = 43
    · simp only [st_X10_isMark_0, st_X10_isMark_1, st_X10_isMark_3, st_X10_isMark_6, st_X10_isMark_7, st_X10_isMark_9, st_X10_isMark_12, st_X10_isMark_13, st_X10_isMark_15, st_X10_isMark_18, st_X10_isMark_19, st_X10_isMark_21, st_X10_isMark_54, st_X10_isMark_55, st_X10_isMark_59b, c1, c2, c3, eq_true c4, if_true, if_false, b01, cond_true, Nat.reduceAdd]
    by_cases c5 : x = 45
    · simp only [st_X10_isMark_0, st_X10_isMark_1, st_X10_isMark_3, st_X10_isMark_6, st_X10_isMark_7, st_X10_isMark_9, st_X10_isMark_12, st_X10_isMark_13, st_X10_isMark_15, st_X10_isMark_18, st_X10_isMark_19, st_X10_isMark_21, st_X10_isMark_24, st_X10_isMark_25, st_X10_isMark_27, st_X10_isMark_54, st_X10_isMark_55, st_X10_isMark_59b, c1, c2, c3, c4, eq_true c5, if_true, if_false, b01, cond_true, Nat.reduceAdd]
    by_cases c6 : x = 42
    · simp only [st_X10_isMark_0, st_X10_isMark_1, st_X10_isMark_3, st_X10_isMark_6, st_X10_isMark_7, st_X10_isMark_9, st_X10_isMark_12, st_X10_isMark_13, st_X10_isMark_15, st_X10_isMark_18, st_X10_isMark_19, st_X10_isMark_21, st_X10_isMark_24, st_X10_isMark_25, st_X10_isMark_27, st_X10_isMark_30, st_X10_isMark_31, st_X10_isMark_33, st_X10_isMark_54, st_X10_isMark_55, st_X10_isMark_59b, c1, c2, c3, c4, c5, eq_true c6, if_true, if_false, b01, cond_true, Nat.reduceAdd]
    by_cases c7 : x = 47
    · simp only [st_X10_isMark_0, st_X10_isMark_1, st_X10_isMark_3, st_X10_isMark_6, st_X10_isMark_7, st_X10_isMark_9, st_X10_isMark_12, st_X10_isMark_13, st_X10_isMark_15, st_X10_isMark_18, st_X10_isMark_19, st_X10_isMark_21, st_X10_isMark_24, st_X10_isMark_25, st_X10_isMark_27, st_X10_isMark_30, st_X10_isMark_31, st_X10_isMark_33, st_X10_isMark_36, st_X10_isMark_37, st_X10_isMark_39, st_X10_isMark_54, st_X10_isMark_55, st_X10_isMark_59b, c1, c2, c3, c4, c5, c6, eq_true c7, if_true, if_false, b01, cond_true, Nat.reduceAdd]
    by_cases c8 : x = 60
    · simp only [st_X10_isMark_0, st_X10_isMark_1, st_X10_isMark_3, st_X10_isMark_6, st_X10_isMark_7, st_X10_isMark_9, st_X10_isMark_12, st_X10_isMark_13, st_X10_isMark_15, st_X10_isMark_18, st_X10_isMark_19, st_X10_isMark_21, st_X10_isMark_24, st_X10_isMark_25, st_X10_isMark_27, st_X10_isMark_30, st_X10_isMark_31, st_X10_isMark_33, st_X10_isMark_36, st_X10_isMark_37, st_X10_isMark_39, st_X10_isMark_42, st_X10_isMark_43, st_X10_isMark_45, st_X10_isMark_54, st_X10_isMark_55, st_X10_isMark_59b, c1, c2, c3, c4, c5, c6, c7, eq_true c8, if_true, if_false, b01, cond_true, Nat.reduceAdd]
    by_cases c9 : x = 61
    · simp only [st_X10_isMark_0, st_X10_isMark_1, st_X10_isMark_3, st_X10_isMark_6, st_X10_isMark_7, st_X10_isMark_9, st_X10_isMark_12, st_X10_isMark_13, st_X10_isMark_15, st_X10_isMark_18, st_X10_isMark_19, st_X10_isMark_21, st_X10_isMark_24, st_X10_isMark_25, st_X10_isMark_27, st_X10_isMark_30, st_X10_isMark_31, st_X10_isMark_33, st_X10_isMark_36, st_X10_isMark_37, st_X10_isMark_39, st_X10_isMark_42, st_X10_isMark_43, st_X10_isMark_45, st_X10_isMark_48, st_X10_isMark_49, st_X10_isMark_51, st_X10_isMark_54, st_X10_isMark_55, st_X10_isMark_59b, c1, c2, c3, c4, c5, c6, c7, c8, eq_true c9, if_true, if_false, b01, cond_true, Nat.reduceAdd]
    exact absurd hz (by simp [c1, c2, c3, c4, c5, c6, c7, c8, c9])
  · rw [decide_eq_false (fun z => hz (hq.mpr z))]
    unfold isMk at hz
    have c1 : ¬ x = 59 := fun z => hz (by simp [z])
    have c2 : ¬ x = 40 := fun z => hz (by simp [z])
    have c3 : ¬ x = 41 := fun z => hz (by simp [z])
    have c4 : ¬ x = 43 := fun z => hz (by simp [z])
    have c5 : ¬ x = 45 := fun z => hz (by simp [z])
    have c6 : ¬ x = 42 := fun z => hz (by simp [z])
    have c7 : ¬ x = 47 := fun z => hz (by simp [z])
    have c8 : ¬ x = 60 := fun z => hz (by simp [z])
    have c9 : ¬ x = 61 := fun z => hz (by simp [z])
    simp only [st_X10_isMark_0, st_X10_isMark_1, st_X10_isMark_3, st_X10_isMark_6, st_X10_isMark_7, st_X10_isMark_9, st_X10_isMark_12, st_X10_isMark_13, st_X10_isMark_15, st_X10_isMark_18, st_X10_isMark_19, st_X10_isMark_21, st_X10_isMark_24, st_X10_isMark_25, st_X10_isMark_27, st_X10_isMark_30, st_X10_isMark_31, st_X10_isMark_33, st_X10_isMark_36, st_X10_isMark_37, st_X10_isMark_39, st_X10_isMark_42, st_X10_isMark_43, st_X10_isMark_45, st_X10_isMark_48, st_X10_isMark_49, st_X10_isMark_51, st_X10_isMark_58, st_X10_isMark_59, c1, c2, c3, c4, c5, c6, c7, c8, c9, if_false, b01, cond_false, Nat.reduceAdd]
set_option maxHeartbeats 4000000 in
theorem ms_1 (hT : tapeR n b (g.1 63)) (hn : n ≤ 600) (h17 : r 17 = Int32.ofNat n) : ∀ m a : Nat, a + m = n →
    bc (d + 1) M_X10_stepOn none 0 [some (.ref 49), none] [] (hp t (hR g 49 (upd r 16 (Int32.ofNat a)))) cn sn = bc (d + 1) M_X10_stepOn none 39 [some (.ref 49), none] [] (hp t (hR g 49 (upd r 16 (Int32.ofNat (runQ b n 4 m a))))) cn sn := by
  have h17' : ∀ y : Int32, upd r 16 y 17 = Int32.ofNat n := fun y => by rw [upd_oth (by decide)]; exact h17
  intro m
  induction m with
  | zero =>
    intro a ha
    have es := m_byteAt (d := d) (t := t) (g := g) (r := upd r 16 (Int32.ofNat a)) (cn := 0) (sn := 0) (i := a) hn (by omega) (h17' _)
    rw [show btR (g.1 63) n a = -1 from if_neg (by omega)] at es
    rw [st_X10_stepOn_0]
    simp (disch := omega) only [st_X10_stepOn_1, st_X10_stepOn_2, st_X10_stepOn_8, st_X10_stepOn_10, st_X10_stepOn_13, st_X10_stepOn_14, st_X10_stepOn_15, st_X10_stepOn_21, st_X10_stepOn_23, st_X10_stepOn_5 (p := 49) hq_49 ps_, st_X10_stepOn_18 (p := 49) hq_49 ps_, bM_some, hg_49_16, m49_1, upd_same, es, show ((-1 : Int32) = 32) = False by decide, show ((-1 : Int32) = 10) = False by decide, if_false, bC_inl, Option.toList, List.cons_append, List.nil_append, Nat.add_zero, runQ, Nat.reduceAdd]
  | succ m ih =>
    intro a ha
    have es := m_byteAt (d := d) (t := t) (g := g) (r := upd r 16 (Int32.ofNat a)) (cn := 0) (sn := 0) (i := a) hn (by omega) (h17' _)
    have bl := bt_bl hT (i := a)
    unfold runQ
    rw [st_X10_stepOn_0]
    by_cases q : sor b n a = 4
    · rw [if_pos q, ← ih (a + 1) (by omega)]
      by_cases q1 : btR (g.1 63) n a = 32
      · simp (disch := omega) only [st_X10_stepOn_1, st_X10_stepOn_2, st_X10_stepOn_8, st_X10_stepOn_10, st_X10_stepOn_26, st_X10_stepOn_28, st_X10_stepOn_31, st_X10_stepOn_32, st_X10_stepOn_33, st_X10_stepOn_36, st_X10_stepOn_27r, st_X10_stepOn_5 (p := 49) hq_49 ps_, bM_some, hg_49_16, hs_49_16, m49_1, m49_i, upd_same, upd_upd, es, q1, if_true, bC_inl, Option.toList, List.cons_append, List.nil_append, Nat.add_zero, nn_r1, Nat.reduceAdd]
      · have q2 : btR (g.1 63) n a = 10 := (bl.mpr q).resolve_left q1
        simp (disch := omega) only [st_X10_stepOn_1, st_X10_stepOn_2, st_X10_stepOn_8, st_X10_stepOn_10, st_X10_stepOn_13, st_X10_stepOn_14, st_X10_stepOn_15, st_X10_stepOn_21, st_X10_stepOn_23, st_X10_stepOn_26, st_X10_stepOn_28, st_X10_stepOn_31, st_X10_stepOn_32, st_X10_stepOn_33, st_X10_stepOn_36, st_X10_stepOn_27r, st_X10_stepOn_5 (p := 49) hq_49 ps_, st_X10_stepOn_18 (p := 49) hq_49 ps_, bM_some, hg_49_16, hs_49_16, m49_1, m49_i, upd_same, upd_upd, es, q2, show ((10 : Int32) = 32) = False by decide, if_true, if_false, bC_inl, Option.toList, List.cons_append, List.nil_append, Nat.add_zero, nn_r1, Nat.reduceAdd]
    · rw [if_neg q]
      have q1 : ¬ btR (g.1 63) n a = 32 := fun z => q (bl.mp (Or.inl z))
      have q2 : ¬ btR (g.1 63) n a = 10 := fun z => q (bl.mp (Or.inr z))
      simp (disch := omega) only [st_X10_stepOn_1, st_X10_stepOn_2, st_X10_stepOn_8, st_X10_stepOn_10, st_X10_stepOn_13, st_X10_stepOn_14, st_X10_stepOn_15, st_X10_stepOn_21, st_X10_stepOn_23, st_X10_stepOn_5 (p := 49) hq_49 ps_, st_X10_stepOn_18 (p := 49) hq_49 ps_, bM_some, hg_49_16, m49_1, upd_same, es, q1, q2, if_false, bC_inl, Option.toList, List.cons_append, List.nil_append, Nat.add_zero, Nat.reduceAdd]
set_option maxHeartbeats 4000000 in
theorem ms_2 (hT : tapeR n b (g.1 63)) (hn : n ≤ 600) (h17 : r 17 = Int32.ofNat n) (a1 : Option Value) : ∀ m a : Nat, a + m = n →
    bc (d + 1) M_X10_stepOn none 76 [some (.ref 49), a1] [] (hp t (hR g 49 (upd r 16 (Int32.ofNat a)))) cn sn = bc (d + 1) M_X10_stepOn none 103 [some (.ref 49), a1] [] (hp t (hR g 49 (upd r 16 (Int32.ofNat (runQ b n 1 m a))))) cn sn := by
  have h17' : ∀ y : Int32, upd r 16 y 17 = Int32.ofNat n := fun y => by rw [upd_oth (by decide)]; exact h17
  intro m
  induction m with
  | zero =>
    intro a ha
    have es := m_byteAt (d := d) (t := t) (g := g) (r := upd r 16 (Int32.ofNat a)) (cn := 0) (sn := 0) (i := a) hn (by omega) (h17' _)
    have el : bc d M_X10_isLetter none 0 [some (.int (btR (g.1 63) n a))] [] (hp t (hR g 49 (upd r 16 (Int32.ofNat a)))) 0 0 = _ := m_isLetter (bt_let hT (i := a))
    have e0 : decide (sor b n a = 1) = false := decide_eq_false (by rw [sor_0.mpr (by omega)]; omega)
    rw [e0] at el
    rw [st_X10_stepOn_76]
    simp (disch := omega) only [st_X10_stepOn_77, st_X10_stepOn_78, st_X10_stepOn_87, st_X10_stepOn_81 (p := 49) hq_49 ps_, st_X10_stepOn_84 ps_, bM_some, hg_49_16, m49_1, upd_same, es, el, b01, cond_false, if_true, bC_inl, Option.toList, List.cons_append, List.nil_append, Nat.add_zero, runQ, Nat.reduceAdd]
  | succ m ih =>
    intro a ha
    have es := m_byteAt (d := d) (t := t) (g := g) (r := upd r 16 (Int32.ofNat a)) (cn := 0) (sn := 0) (i := a) hn (by omega) (h17' _)
    have el : bc d M_X10_isLetter none 0 [some (.int (btR (g.1 63) n a))] [] (hp t (hR g 49 (upd r 16 (Int32.ofNat a)))) 0 0 = _ := m_isLetter (bt_let hT (i := a))
    unfold runQ
    rw [st_X10_stepOn_76]
    by_cases q : sor b n a = 1
    · rw [decide_eq_true q] at el
      rw [if_pos q, ← ih (a + 1) (by omega)]
      simp (disch := omega) only [st_X10_stepOn_77, st_X10_stepOn_78, st_X10_stepOn_87, st_X10_stepOn_90, st_X10_stepOn_92, st_X10_stepOn_95, st_X10_stepOn_96, st_X10_stepOn_97, st_X10_stepOn_100, st_X10_stepOn_91r, st_X10_stepOn_81 (p := 49) hq_49 ps_, st_X10_stepOn_84 ps_, bM_some, hg_49_16, hs_49_16, m49_1, m49_i, upd_same, upd_upd, es, el, b01, cond_true, nn_one0, if_false, bC_inl, Option.toList, List.cons_append, List.nil_append, Nat.add_zero, nn_r1, Nat.reduceAdd]
    · rw [decide_eq_false q] at el
      rw [if_neg q]
      simp (disch := omega) only [st_X10_stepOn_77, st_X10_stepOn_78, st_X10_stepOn_87, st_X10_stepOn_81 (p := 49) hq_49 ps_, st_X10_stepOn_84 ps_, bM_some, hg_49_16, m49_1, upd_same, es, el, b01, cond_false, if_true, bC_inl, Option.toList, List.cons_append, List.nil_append, Nat.add_zero, Nat.reduceAdd]
theorem upd_1619 {f : Rw} {y z w : Int32} : upd (upd (upd f 16 y) 19 z) 16 w = upd (upd f 16 w) 19 z := by
  funext j; simp only [upd_at]; (repeat' split) <;> first | rfl | (exfalso; omega)
set_option maxHeartbeats 4000000 in
theorem ms_3 (hT : tapeR n b (g.1 63)) (hn : n ≤ 600) (h17 : r 17 = Int32.ofNat n) (a1 : Option Value) : ∀ m a v : Nat, a + m = n → v ≤ 100000 →
    bc (d + 1) M_X10_stepOn none 123 [some (.ref 49), a1] [] (hp t (hR g 49 (upd (upd r 16 (Int32.ofNat a)) 19 (Int32.ofNat v)))) cn sn = bc (d + 1) M_X10_stepOn none 178 [some (.ref 49), a1] [] (hp t (hR g 49 (upd (upd r 16 (Int32.ofNat (runQ b n 2 m a))) 19 (Int32.ofNat (nmR b n m a v))))) cn sn := by
  have h17' : ∀ y z : Int32, upd (upd r 16 y) 19 z 17 = Int32.ofNat n := fun y z => by rw [upd_oth (by decide), upd_oth (by decide)]; exact h17
  have h16' : ∀ y z : Int32, upd (upd r 16 y) 19 z 16 = y := fun y z => by rw [upd_oth (by decide), upd_same]
  intro m
  induction m with
  | zero =>
    intro a v ha hv
    have es := m_byteAt (d := d) (t := t) (g := g) (r := upd (upd r 16 (Int32.ofNat a)) 19 (Int32.ofNat v)) (cn := 0) (sn := 0) (i := a) hn (by omega) (h17' _ _)
    have el : bc d M_X10_isDigit none 0 [some (.int (btR (g.1 63) n a))] [] (hp t (hR g 49 (upd (upd r 16 (Int32.ofNat a)) 19 (Int32.ofNat v)))) 0 0 = _ := m_isDigit (bt_dig hT (i := a))
    have e0 : decide (sor b n a = 2) = false := decide_eq_false (by rw [sor_0.mpr (by omega)]; omega)
    rw [e0] at el
    rw [st_X10_stepOn_123]
    simp (disch := omega) only [st_X10_stepOn_124, st_X10_stepOn_125, st_X10_stepOn_134, st_X10_stepOn_128 (p := 49) hq_49 ps_, st_X10_stepOn_131 ps_, bM_some, hg_49_16, m49_1, h16', es, el, b01, cond_false, if_true, bC_inl, Option.toList, List.cons_append, List.nil_append, Nat.add_zero, runQ, nmR, Nat.reduceAdd]
  | succ m ih =>
    intro a v ha hv
    have es := m_byteAt (d := d) (t := t) (g := g) (r := upd (upd r 16 (Int32.ofNat a)) 19 (Int32.ofNat v)) (cn := 0) (sn := 0) (i := a) hn (by omega) (h17' _ _)
    have el : bc d M_X10_isDigit none 0 [some (.int (btR (g.1 63) n a))] [] (hp t (hR g 49 (upd (upd r 16 (Int32.ofNat a)) 19 (Int32.ofNat v)))) 0 0 = _ := m_isDigit (bt_dig hT (i := a))
    unfold runQ nmR
    rw [st_X10_stepOn_123]
    by_cases q : sor b n a = 2
    · rw [decide_eq_true q] at el
      obtain ⟨b1, b2⟩ := dig_b q
      have hin : a < n := by omega
      have eb : btR (g.1 63) n a = b a := by
        unfold btR
        rw [if_pos hin]
        exact (byte_srt (hT a hin)).2.2 (by rw [← sort_s hin]; exact q)
      have bc' := ii_clamp (a := b a)
      have en : Int32.ofNat (10 * v) + b a - 48 = Int32.ofNat (10 * v + ((b a).toNatClampNeg - 48)) := by
        have e1 : b a = Int32.ofNat (b a).toNatClampNeg := (ii_nat (by omega)).symm
        rw [e1, nn_add, nn_clamp (by omega), show (48 : Int32) = Int32.ofNat 48 from rfl, nn_sub (by omega)]
        congr 1; omega
      have em : px_min 100000 (Int32.ofNat (10 * v + ((b a).toNatClampNeg - 48))) = Int32.ofNat (min 100000 (10 * v + ((b a).toNatClampNeg - 48))) := by
        rw [show (100000 : Int32) = Int32.ofNat 100000 from rfl, nn_min (by omega) (by omega)]
      rw [eb] at es el
      rw [if_pos q, if_pos q, ← ih (a + 1) _ (by omega) (by omega)]
      simp (disch := omega) only [st_X10_stepOn_124, st_X10_stepOn_125, st_X10_stepOn_134, st_X10_stepOn_137, st_X10_stepOn_138, st_X10_stepOn_140, st_X10_stepOn_142, st_X10_stepOn_143, st_X10_stepOn_146, st_X10_stepOn_147, st_X10_stepOn_148, st_X10_stepOn_149, st_X10_stepOn_155, st_X10_stepOn_156, st_X10_stepOn_158, st_X10_stepOn_159, st_X10_stepOn_162, st_X10_stepOn_165, st_X10_stepOn_167, st_X10_stepOn_170, st_X10_stepOn_171, st_X10_stepOn_172, st_X10_stepOn_175, st_X10_stepOn_166r, st_X10_stepOn_128 (p := 49) hq_49 ps_, st_X10_stepOn_131 ps_, st_X10_stepOn_152 (p := 49) hq_49 ps_iir, bM_some, bP_some, m2_r, hg_49_16, hg_49_19, hs_49_16, hs_49_19, m49_1, m49_i, h16', upd_same, upd_upd, upd_1619, es, el, nn_m10, en, em, b01, cond_true, nn_one0, if_false, bC_inl, Option.toList, List.cons_append, List.nil_append, Nat.add_zero, nn_r1, Nat.reduceAdd]
    · rw [decide_eq_false q] at el
      rw [if_neg q, if_neg q]
      simp (disch := omega) only [st_X10_stepOn_124, st_X10_stepOn_125, st_X10_stepOn_134, st_X10_stepOn_128 (p := 49) hq_49 ps_, st_X10_stepOn_131 ps_, bM_some, hg_49_16, m49_1, h16', es, el, b01, cond_false, if_true, bC_inl, Option.toList, List.cons_append, List.nil_append, Nat.add_zero, Nat.reduceAdd]
theorem nmR_nmb {s : Nat} : ∀ m a v : Nat, s ≤ a → runQ b n 2 m a - s ≤ 4 → v < 10 ^ (a - s) → nmR b n m a v = nmb b n s m a v := by
  intro m
  induction m with
  | zero => intro a v _ _ _; rfl
  | succ m ih =>
    intro a v hs hr hv
    unfold nmR nmb
    unfold runQ at hr
    by_cases q : sor b n a = 2
    · rw [if_pos q] at hr
      rw [if_pos q, if_pos q]
      have hq := (runQ_b (b := b) (n := n) (q := 2) m (a + 1)).1
      obtain ⟨b1, b2⟩ := dig_b q
      have bc' := ii_clamp (a := b a)
      have hp3 : 10 ^ (a - s) ≤ 10 ^ 3 := Nat.pow_le_pow_right (by omega) (by omega)
      have hp4 : (10 : Nat) ^ 3 = 1000 := by decide
      rw [if_pos (show a - s < 4 by omega), Nat.min_eq_right (by omega)]
      refine ih _ _ (by omega) hr ?_
      rw [show a + 1 - s = (a - s) + 1 by omega, Nat.pow_succ]
      omega
    · rw [if_neg q, if_neg q]
end MTOK
