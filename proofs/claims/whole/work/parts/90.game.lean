/-! ===== a game ===== -/
def tb32 (s : Int32) (q : Nat) : Bool := s.toBitVec.getLsbD q
theorem tb32_and {a b : Int32} {i : Nat} : tb32 (a &&& b) i = (tb32 a i && tb32 b i) := by
  unfold tb32; rw [Int32.toBitVec_and, BitVec.getLsbD_and]
theorem tb32_or {a b : Int32} {i : Nat} : tb32 (a ||| b) i = (tb32 a i || tb32 b i) := by
  unfold tb32; rw [Int32.toBitVec_or, BitVec.getLsbD_or]
theorem tb32_xor {a b : Int32} {i : Nat} : tb32 (a ^^^ b) i = (tb32 a i ^^ tb32 b i) := by
  unfold tb32; rw [Int32.toBitVec_xor, BitVec.getLsbD_xor]
theorem tb32_1 : ∀ j : Nat, j < 8 → ∀ i : Nat, i < 8 → tb32 ((1 : Int32) <<< (Int32.ofNat j &&& 31)) i = decide (i = j) := by
  unfold tb32; decide +kernel
theorem tb32_m1 : ∀ i : Nat, i < 8 → tb32 (-1) i = true := by unfold tb32; decide +kernel
theorem tb32_0 : ∀ i : Nat, i < 8 → tb32 0 i = false := by unfold tb32; decide +kernel
theorem dec_lt {q m : Nat} (e : ¬ q = m) : decide (q < m) = decide (q < m + 1) := by
  by_cases h : q < m
  · rw [decide_eq_true h, decide_eq_true (by omega)]
  · rw [decide_eq_false h, decide_eq_false (by omega)]
theorem tb32_set {b : Nat → Bool} : ∀ m : Nat, m ≤ 8 → ∀ q, q < 8 → tb32 (Int32.ofNat (setN b m)) q = (decide (q < m) && b q) := by
  intro m
  induction m with
  | zero => intro _ q hq; exact tb32_0 q hq
  | succ m ih =>
    intro hm q hq
    rw [setN_suc]
    cases hb : b m with
    | false =>
      rw [cond_false, Nat.add_zero, ih (by omega) q hq]
      by_cases e : q = m
      · subst e; rw [hb, Bool.and_false, Bool.and_false]
      · rw [dec_lt e]
    | true =>
      rw [cond_true, ← bit_add m (by omega) _ (setN_lt b m), tb32_or, ih (by omega) q hq, tb32_1 m (by omega) q hq]
      by_cases e : q = m
      · subst e; rw [hb, decide_eq_true rfl, Bool.or_true, decide_eq_true (by omega)]; rfl
      · rw [decide_eq_false e, Bool.or_false, dec_lt e]
theorem shr_1 {s : Int32} {q : Nat} (hq : q < 8) : ((s >>> (Int32.ofNat q &&& 31)) &&& 1 = 1) ↔ tb32 s q = true := by
  have h31 : ∀ q : Nat, q < 8 → (Int32.ofNat q &&& 31) = Int32.ofNat q := by decide +kernel
  have hm : ∀ q : Nat, q < 8 → ((Int32.ofNat q).toBitVec.smod 32).toNat = q := by decide +kernel
  rw [h31 q hq]
  have e : ∀ i, i < 32 → tb32 ((s >>> Int32.ofNat q) &&& 1) i = (decide (i = 0) && tb32 s q) := by
    intro i hi
    rw [tb32_and]
    have h1 : ∀ i : Nat, i < 32 → tb32 1 i = decide (i = 0) := by unfold tb32; decide
    rw [h1 i hi]
    by_cases h0 : i = 0
    · subst h0
      rw [decide_eq_true rfl, Bool.and_true, Bool.true_and]
      unfold tb32
      rw [Int32.toBitVec_shiftRight, BitVec.sshiftRight_eq', hm q hq, BitVec.getLsbD_sshiftRight]
      simp [show q < 32 by omega]
    · rw [decide_eq_false h0, Bool.and_false, Bool.false_and]
  constructor
  · intro h
    have := e 0 (by omega)
    rw [h, show tb32 1 0 = true by unfold tb32; decide] at this
    rw [decide_eq_true rfl, Bool.true_and] at this
    exact this.symm
  · intro h
    apply bits32
    intro i hi
    have := e i hi
    rw [h, Bool.and_true] at this
    have h1 : ∀ i : Nat, i < 32 → tb32 1 i = decide (i = 0) := by unfold tb32; decide
    exact this.trans (h1 i hi).symm
/-- one of m kettles from j on, but not b where that is lifted off, sings 1 or 2 from kettle i -/
def nearB (w : Rw) (i b cb : Nat) : Nat → Nat → Bool
  | 0, _ => false
  | m + 1, j => if ¬ (j = b ∧ cb = 0) ∧ (apartR w i j = 1 ∨ apartR w i j = 2) then true else nearB w i b cb m (j + 1)
def gainV (w : Rw) (N i ci b cb : Nat) : Int32 := if ci = 0 then 0 else if nearB w i b cb N 0 then -4 else 6
def restB (w : Rw) (N i b c : Nat) : Bool := !decide (gainV w N i (c / 2) b (c % 2) < gainV w N i (1 - c / 2) b (c % 2)) && !decide (gainV w N b (c % 2) i (c / 2) < gainV w N b (1 - c % 2) i (c / 2))
def gameR (w : Rw) (N i b : Nat) : Nat → Nat → Nat × Int32 → Nat × Int32
  | 0, _, q => q
  | m + 1, c, q => gameR w N i b m (c + 1) (if restB w N i b c then (q.1 + 1, if q.1 = 0 then Int32.ofNat (10 * (c / 2) + c % 2) else q.2) else q)
def gameA (w : Rw) (N i b : Nat) (x : Int32) : Int32 := if w (40 + i) = -1 ∨ w (40 + b) = -1 then (if x = 0 then 0 else -1) else (if x = 0 then Int32.ofNat (gameR w N i b 4 0 (0, -1)).1 else (gameR w N i b 4 0 (0, -1)).2)
section GAME
variable {d : Nat} {t : List px_E} {g : hG} {h : px_H} {i b ci cb j q N S D L T cn sn c : Nat} {w a k v : Rw} {x y p s : Int32} {K : Kt}
set_option maxHeartbeats 4000000 in
theorem c_gain_l (hK : KN (kC g) N S D L) (hi : i < N) (hb : b < N) (hc : cb < 2) : ∀ m j : Nat, j + m = N → ∀ (a6 a7 : Option Value),
    bc (d + 2) M_X9_gain none 9 [some (.ref 0), some (.int (Int32.ofNat i)), some (.int (Int32.ofNat ci)), some (.int (Int32.ofNat b)), some (.int (Int32.ofNat cb)), some (.int (Int32.ofNat j)), a6, a7] [] (hp t g) cn sn = some (.inl (some (.int (if nearB (g.1 29) i b cb m j then -4 else 6))), hp t g, cn, sn) := by
  have hN : g.1 16 10 = Int32.ofNat N := hK.1
  have h8 := hK.2.1
  intro m
  induction m with
  | zero =>
    intro j hj a6 a7
    rw [st_X9_gain_9]
    simp (disch := omega) only [st_X9_gain_11, st_X9_gain_12, st_X9_gain_15, st_X9_gain_18, st_X9_gain_74, st_X9_gain_76, bM_some, hg_0_1, hg_16_10, hN, nn_lt, show ¬ j < N by omega, if_false, Nat.reduceAdd, nearB]
    rfl
  | succ m ih =>
    intro j hj a6 a7
    have hap := c_apart (d := d) (t := t) (g := g) (cn := 0) (sn := 0) (j := i) (j' := j) (by omega) (by omega)
    rw [st_X9_gain_9]
    by_cases hl : j = b ∧ cb = 0
    · have hnear : nearB (g.1 29) i b cb (m + 1) j = nearB (g.1 29) i b cb m (j + 1) := by
        rw [nearB, if_neg (fun z => z.1 hl)]
      rw [hnear, ← ih (j + 1) (by omega) (some (.int 1)) (some (.int (apartR (g.1 29) i j)))]
      obtain ⟨rfl, rfl⟩ := hl
      simp (disch := omega) only [st_X9_gain_0, st_X9_gain_1, st_X9_gain_4, st_X9_gain_5, st_X9_gain_6, lc_i, lc_r, lc_n, lc_j, lc_f, st_X9_gain_7, st_X9_gain_11, bM_some, hg_0_1, st_X9_gain_12, hg_16_10, st_X9_gain_15, st_X9_gain_18, st_X9_gain_21, st_X9_gain_23, st_X9_gain_24, st_X9_gain_27, st_X9_gain_29, st_X9_gain_32, st_X9_gain_33, st_X9_gain_37, st_X9_gain_39, st_X9_gain_40, st_X9_gain_41, st_X9_gain_43 (p := 0) hq_0 ps_, bC_inl, Option.toList, List.cons_append, List.nil_append, Nat.add_zero, st_X9_gain_46, st_X9_gain_48, st_X9_gain_50, st_X9_gain_53, st_X9_gain_55, st_X9_gain_56, st_X9_gain_59, st_X9_gain_61, st_X9_gain_62, st_X9_gain_65, st_X9_gain_67, st_X9_gain_68, st_X9_gain_71, st_X9_gain_36, st_X9_gain_74, st_X9_gain_76, Nat.reduceAdd, hN, nn_lt, show j < N by omega, nn_e0, if_true, if_false, nn_one0, hap, nn_r1]
    · have run : ∀ z : Option (px_Res × px_H × Nat × Nat), bc (d + 2) M_X9_gain none 39 [some (.ref 0), some (.int (Int32.ofNat i)), some (.int (Int32.ofNat ci)), some (.int (Int32.ofNat b)), some (.int (Int32.ofNat cb)), some (.int (Int32.ofNat j)), some (.int 0), a7] [] (hp t g) cn sn = z → bc (d + 2) M_X9_gain none 11 [some (.ref 0), some (.int (Int32.ofNat i)), some (.int (Int32.ofNat ci)), some (.int (Int32.ofNat b)), some (.int (Int32.ofNat cb)), some (.int (Int32.ofNat j)), a6, a7] [.int (Int32.ofNat j)] (hp t g) cn sn = z := by
        intro z hz
        rw [← hz]
        by_cases hj' : j = b
        · have hc0 : ¬ cb = 0 := fun z => hl ⟨hj', z⟩
          subst hj'
          simp (disch := omega) only [st_X9_gain_11, st_X9_gain_12, st_X9_gain_15, st_X9_gain_18, st_X9_gain_21, st_X9_gain_23, st_X9_gain_24, st_X9_gain_27, st_X9_gain_29, st_X9_gain_36, st_X9_gain_37, bM_some, hg_0_1, hg_16_10, hN, nn_lt, show j < N by omega, nn_e0, hc0, if_true, if_false, lc_i, Nat.reduceAdd]
        · simp (disch := omega) only [st_X9_gain_11, st_X9_gain_12, st_X9_gain_15, st_X9_gain_18, st_X9_gain_21, st_X9_gain_23, st_X9_gain_24, st_X9_gain_36, st_X9_gain_37, bM_some, hg_0_1, hg_16_10, hN, nn_lt, show j < N by omega, nn_inj, hj', if_true, if_false, lc_i, Nat.reduceAdd]
      apply run
      by_cases q1 : apartR (g.1 29) i j = 1
      · rw [show nearB (g.1 29) i b cb (m + 1) j = true by rw [nearB, if_pos ⟨hl, Or.inl q1⟩]]
        rw [q1] at hap
        simp (disch := omega) only [st_X9_gain_39, st_X9_gain_40, st_X9_gain_41, st_X9_gain_46, st_X9_gain_48, st_X9_gain_50, st_X9_gain_53, st_X9_gain_55, st_X9_gain_56, st_X9_gain_65, st_X9_gain_67, st_X9_gain_43 (p := 0) hq_0 ps_, hap, bC_inl, Option.toList, List.cons_append, List.nil_append, Nat.add_zero, lc_i, Nat.reduceAdd, if_true]
      · by_cases q2 : apartR (g.1 29) i j = 2
        · rw [show nearB (g.1 29) i b cb (m + 1) j = true by rw [nearB, if_pos ⟨hl, Or.inr q2⟩]]
          rw [q2] at hap
          simp (disch := omega) only [st_X9_gain_39, st_X9_gain_40, st_X9_gain_41, st_X9_gain_46, st_X9_gain_48, st_X9_gain_50, st_X9_gain_53, st_X9_gain_55, st_X9_gain_56, st_X9_gain_59, st_X9_gain_61, st_X9_gain_62, st_X9_gain_65, st_X9_gain_67, st_X9_gain_43 (p := 0) hq_0 ps_, hap, bC_inl, Option.toList, List.cons_append, List.nil_append, Nat.add_zero, lc_i, Nat.reduceAdd, if_true, if_false, show ((2 : Int32) = 1) = False by decide]
        · rw [show nearB (g.1 29) i b cb (m + 1) j = nearB (g.1 29) i b cb m (j + 1) by rw [nearB, if_neg (fun z => by rcases z.2 with r | r; exact q1 r; exact q2 r)]]
          rw [← ih (j + 1) (by omega) (some (.int 0)) (some (.int (apartR (g.1 29) i j)))]
          simp (disch := omega) only [st_X9_gain_39, st_X9_gain_40, st_X9_gain_41, st_X9_gain_46, st_X9_gain_48, st_X9_gain_50, st_X9_gain_53, st_X9_gain_55, st_X9_gain_56, st_X9_gain_59, st_X9_gain_61, st_X9_gain_62, st_X9_gain_68, st_X9_gain_71, st_X9_gain_43 (p := 0) hq_0 ps_, hap, bC_inl, Option.toList, List.cons_append, List.nil_append, Nat.add_zero, lc_i, Nat.reduceAdd, if_true, if_false, q1, q2, nn_r1]
theorem c_gain (hK : KN (kC g) N S D L) (hi : i < N) (hb : b < N) (hci : ci < 2) (hc : cb < 2) : bc (d + 2) M_X9_gain none 0 [some (.ref 0), some (.int (Int32.ofNat i)), some (.int (Int32.ofNat ci)), some (.int (Int32.ofNat b)), some (.int (Int32.ofNat cb)), none, none, none] [] (hp t g) cn sn = some (.inl (some (.int (gainV (g.1 29) N i ci b cb))), hp t g, cn, sn) := by
  have h8 := hK.2.1
  unfold gainV
  by_cases h0 : ci = 0
  · rw [if_pos h0]
    simp (disch := omega) only [st_X9_gain_0, st_X9_gain_1, st_X9_gain_4, st_X9_gain_5, nn_e0, h0, if_true, Nat.reduceAdd]
  · rw [if_neg h0, ← c_gain_l (d := d) (t := t) (cn := cn) (sn := sn) (ci := ci) hK hi hb hc N 0 (by omega) none none]
    simp (disch := omega) only [st_X9_gain_0, st_X9_gain_1, st_X9_gain_6, st_X9_gain_7, nn_e0, h0, if_false, lc_i, Nat.reduceAdd]
    rfl
end GAME
