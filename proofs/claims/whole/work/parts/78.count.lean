/-! ===== what is told: fault, count, kettle, stove, dish ===== -/
def sumN (f : Nat → Nat) : Nat → Nat
  | 0 => 0
  | m + 1 => sumN f m + f m
def U3 (w : Rw) (i j : Nat) : Bool := !decide (w (40 + i) = -1) && (!decide (w (40 + j) = -1) && (decide (3 ≤ (w (40 + i) - w (40 + j)).toInt) && decide ((w (40 + i) - w (40 + j)).toInt ≤ 4)))
def T3 (w : Rw) (i j : Nat) : Bool := decide (apartR w i j = 3) || decide (apartR w i j = 4)
theorem sumN_congr {f f' : Nat → Nat} : ∀ m : Nat, (∀ i, i < m → f i = f' i) → sumN f m = sumN f' m := by
  intro m
  induction m with
  | zero => intro _; rfl
  | succ m ih => intro h; unfold sumN; rw [ih (fun i hi => h i (by omega)), h m (by omega)]
theorem sumN_add {f f' : Nat → Nat} : ∀ m : Nat, sumN (fun i => f i + f' i) m = sumN f m + sumN f' m := by
  intro m
  induction m with
  | zero => rfl
  | succ m ih => unfold sumN; rw [ih]; omega
theorem sumN_cnt {b : Nat → Bool} : ∀ m : Nat, sumN (fun i => bif b i then 1 else 0) m = cntN b m := by
  intro m
  induction m with
  | zero => rfl
  | succ m ih => unfold sumN cntN; rw [ih]
theorem px_abs_i {a : Int32} (h : -1000 ≤ a.toInt) (h2 : a.toInt ≤ 1000) : (px_abs a).toInt = if 0 ≤ a.toInt then a.toInt else - a.toInt := by
  unfold px_abs
  by_cases h0 : 0 ≤ a
  · rw [if_pos h0]; rw [ii_le, ti_0] at h0; rw [if_pos h0]
  · rw [if_neg h0]; rw [ii_le, ti_0] at h0; rw [if_neg h0, ii_sub] <;> rw [ti_0] <;> omega
theorem T3_U3 {w : Rw} {i j : Nat} (hi : -1 ≤ (w (40 + i)).toInt ∧ (w (40 + i)).toInt ≤ 60) (hj : -1 ≤ (w (40 + j)).toInt ∧ (w (40 + j)).toInt ≤ 60) : (bif T3 w i j then 1 else 0) = (bif U3 w i j then 1 else 0) + (bif U3 w j i then 1 else 0) := by
  unfold T3 U3 apartR
  have e1 : (w (40 + i) - w (40 + j)).toInt = (w (40 + i)).toInt - (w (40 + j)).toInt := by rw [ii_sub] <;> omega
  have e2 : (w (40 + j) - w (40 + i)).toInt = (w (40 + j)).toInt - (w (40 + i)).toInt := by rw [ii_sub] <;> omega
  by_cases h1 : w (40 + i) = -1
  · rw [if_pos h1, decide_eq_true h1]; simp only [Bool.not_true, Bool.false_and, Bool.and_false]; rfl
  by_cases h2 : w (40 + j) = -1
  · rw [if_neg h1, if_pos h2, decide_eq_true h2]; simp only [Bool.not_true, Bool.false_and, Bool.and_false]; rfl
  rw [if_neg h1, if_neg h2, decide_eq_false h1, decide_eq_false h2]
  have e3 := px_abs_i (a := w (40 + i) - w (40 + j)) (by omega) (by omega)
  rw [e1] at e3
  simp only [ii_eq, ti_3, ti_4, e1, e2, e3, Bool.not_false, Bool.true_and]
  have key : ∀ u v : Int, v = -u → (bif (decide ((if 0 ≤ u then u else -u) = 3) || decide ((if 0 ≤ u then u else -u) = 4)) then 1 else 0) = (bif (decide (3 ≤ u) && decide (u ≤ 4)) then 1 else 0) + (bif (decide (3 ≤ v) && decide (v ≤ 4)) then 1 else 0) := by
    intro u v hv
    subst hv
    by_cases c1 : u = 3
    · subst c1; decide
    by_cases c2 : u = 4
    · subst c2; decide
    by_cases c3 : u = -3
    · subst c3; decide
    by_cases c4 : u = -4
    · subst c4; decide
    have d1 : ¬ (if 0 ≤ u then u else -u) = 3 := by split <;> omega
    have d2 : ¬ (if 0 ≤ u then u else -u) = 4 := by split <;> omega
    rw [decide_eq_false d1, decide_eq_false d2]
    have d3 : (decide (3 ≤ u) && decide (u ≤ 4)) = false := by
      rw [← Bool.not_eq_true, Bool.and_eq_true, decide_eq_true_eq, decide_eq_true_eq]; omega
    have d4 : (decide (3 ≤ -u) && decide (-u ≤ 4)) = false := by
      rw [← Bool.not_eq_true, Bool.and_eq_true, decide_eq_true_eq, decide_eq_true_eq]; omega
    rw [d3, d4]; rfl
  exact key _ _ (by omega)
theorem U3_self {w : Rw} {i : Nat} : U3 w i i = false := by
  unfold U3
  rw [Int32.sub_self, ti_0]
  simp only [show decide ((3 : Int) ≤ 0) = false from rfl, Bool.false_and, Bool.and_false]
theorem thirds_eq {w : Rw} : ∀ N : Nat, (∀ j, j < N → -1 ≤ (w (40 + j)).toInt ∧ (w (40 + j)).toInt ≤ 60) → sumN (fun k => cntN (T3 w k) k) N = sumN (fun a => cntN (U3 w a) N) N := by
  intro N
  induction N with
  | zero => intro _; rfl
  | succ N ih =>
    intro hn
    have e1 : sumN (fun a => cntN (U3 w a) (N + 1)) (N + 1) = sumN (fun a => cntN (U3 w a) N) N + cntN (fun a => U3 w a N) N + cntN (U3 w N) N := by
      show sumN (fun a => cntN (U3 w a) N + (bif U3 w a N then 1 else 0)) N + (cntN (U3 w N) N + (bif U3 w N N then 1 else 0)) = _
      rw [sumN_add, sumN_cnt (b := fun a => U3 w a N), U3_self]
      show _ + (_ + 0) = _
      omega
    have e2 : cntN (T3 w N) N = cntN (U3 w N) N + cntN (fun a => U3 w a N) N := by
      rw [← sumN_cnt, ← sumN_cnt, ← sumN_cnt, ← sumN_add]
      exact sumN_congr N (fun i hi => T3_U3 (hn N (by omega)) (hn i (by omega)))
    rw [e1]
    show sumN (fun k => cntN (T3 w k) k) N + cntN (T3 w N) N = _
    rw [ih (fun j hj => hn j (by omega)), e2]
    omega
theorem sumN_le {f : Nat → Nat} {B : Nat} (hf : ∀ i, f i ≤ B) : ∀ m : Nat, sumN f m ≤ m * B := by
  intro m
  induction m with
  | zero => exact Nat.zero_le _
  | succ m ih => unfold sumN; have := hf m; rw [Nat.succ_mul]; omega
section COUNT
variable {d : Nat} {t : List px_E} {g : hG} {j q N S D L T cn sn : Nat} {w a k : Rw} {x y : Int32} {K : Kt}
set_option maxHeartbeats 2000000 in
theorem c_thirds_i (hi : j < 8) : ∀ m o : Nat, o + m = j → ∀ (c : Nat) (a4 : Option Value), ∃ b3 b4 : Option Value,
    bc (d + 2) M_X9_thirds none 17 [some (.ref 0), some (.int (Int32.ofNat (c + cntN (T3 (g.1 29) j) o))), some (.int (Int32.ofNat j)), some (.int (Int32.ofNat o)), a4] [] (hp t g) cn sn =
    bc (d + 2) M_X9_thirds none 56 [some (.ref 0), some (.int (Int32.ofNat (c + cntN (T3 (g.1 29) j) j))), some (.int (Int32.ofNat j)), b3, b4] [] (hp t g) cn sn := by
  intro m
  induction m with
  | zero =>
    intro o ho c a4
    obtain rfl : o = j := by omega
    refine ⟨some (.int (Int32.ofNat o)), a4, ?_⟩
    rw [st_X9_thirds_17]
    simp (disch := omega) only [st_X9_thirds_18, st_X9_thirds_19, nn_lt, Nat.lt_irrefl, if_false, Nat.reduceAdd]
  | succ m ih =>
    intro o ho c a4
    obtain ⟨b3, b4, e⟩ := ih (o + 1) (by omega) c (some (.int (apartR (g.1 29) j o)))
    refine ⟨b3, b4, ?_⟩
    rw [← e, st_X9_thirds_17]
    rw [show cntN (T3 (g.1 29) j) (o + 1) = cntN (T3 (g.1 29) j) o + (bif T3 (g.1 29) j o then 1 else 0) from rfl]
    have hap := c_apart (d := d) (t := t) (g := g) (cn := 0) (sn := 0) hi (show o < 8 by omega)
    unfold T3
    by_cases h3 : apartR (g.1 29) j o = 3
    · rw [h3]
      rw [h3] at hap
      simp (disch := omega) only [st_X9_thirds_18, st_X9_thirds_19, st_X9_thirds_22, st_X9_thirds_23, st_X9_thirds_24, st_X9_thirds_28, st_X9_thirds_30, st_X9_thirds_31, st_X9_thirds_33, st_X9_thirds_34, st_X9_thirds_37, st_X9_thirds_39, st_X9_thirds_40, st_X9_thirds_43, st_X9_thirds_44, st_X9_thirds_47, st_X9_thirds_48, st_X9_thirds_49, st_X9_thirds_50, st_X9_thirds_53, st_X9_thirds_25 (p := 0) hq_0 ps_, hap, bC_inl, Option.toList, List.cons_append, List.nil_append, Nat.add_zero, lc_i, lc_r, nn_lt, show o < j by omega, if_true, nn_r1, decide_true, Bool.true_or, cond_true, Nat.reduceAdd, Nat.add_assoc]
    · by_cases h4 : apartR (g.1 29) j o = 4
      · rw [h4]
        rw [h4] at hap
        simp (disch := omega) only [st_X9_thirds_18, st_X9_thirds_19, st_X9_thirds_22, st_X9_thirds_23, st_X9_thirds_24, st_X9_thirds_28, st_X9_thirds_30, st_X9_thirds_31, st_X9_thirds_33, st_X9_thirds_34, st_X9_thirds_37, st_X9_thirds_39, st_X9_thirds_40, st_X9_thirds_43, st_X9_thirds_44, st_X9_thirds_47, st_X9_thirds_48, st_X9_thirds_49, st_X9_thirds_50, st_X9_thirds_53, st_X9_thirds_25 (p := 0) hq_0 ps_, hap, bC_inl, Option.toList, List.cons_append, List.nil_append, Nat.add_zero, lc_i, lc_r, nn_lt, show o < j by omega, if_true, nn_r1, decide_true, show ((4 : Int32) = 3) = False by decide, if_false, decide_false, Bool.false_or, cond_true, Nat.reduceAdd, Nat.add_assoc]
      · simp (disch := omega) only [st_X9_thirds_18, st_X9_thirds_19, st_X9_thirds_22, st_X9_thirds_23, st_X9_thirds_24, st_X9_thirds_28, st_X9_thirds_30, st_X9_thirds_31, st_X9_thirds_33, st_X9_thirds_34, st_X9_thirds_37, st_X9_thirds_39, st_X9_thirds_40, st_X9_thirds_43, st_X9_thirds_44, st_X9_thirds_47, st_X9_thirds_48, st_X9_thirds_49, st_X9_thirds_50, st_X9_thirds_53, st_X9_thirds_25 (p := 0) hq_0 ps_, hap, bC_inl, Option.toList, List.cons_append, List.nil_append, Nat.add_zero, lc_i, lc_r, nn_lt, show o < j by omega, if_true, nn_r1, h3, h4, if_false, decide_false, Bool.false_or, cond_false, Int32.add_zero, Nat.reduceAdd]
set_option maxHeartbeats 2000000 in
theorem c_thirds_o (hK : KN (kC g) N S D L) : ∀ m i : Nat, i + m = N → ∀ (a3 a4 : Option Value),
    bc (d + 2) M_X9_thirds none 4 [some (.ref 0), some (.int (Int32.ofNat (sumN (fun k => cntN (T3 (g.1 29) k) k) i))), some (.int (Int32.ofNat i)), a3, a4] [] (hp t g) cn sn = some (.inl (some (.int (Int32.ofNat (sumN (fun k => cntN (T3 (g.1 29) k) k) N)))), hp t g, cn, sn) := by
  have hN : g.1 16 10 = Int32.ofNat N := hK.1
  have h8 := hK.2.1
  intro m
  induction m with
  | zero =>
    intro i hi a3 a4
    obtain rfl : i = N := by omega
    rw [st_X9_thirds_4]
    simp (disch := omega) only [st_X9_thirds_5, st_X9_thirds_6, st_X9_thirds_9, st_X9_thirds_12, st_X9_thirds_62, st_X9_thirds_63, bM_some, hg_0_1, hg_16_10, hN, nn_lt, Nat.lt_irrefl, if_false, Nat.reduceAdd]
  | succ m ih =>
    intro i hi a3 a4
    obtain ⟨b3, b4, e⟩ := c_thirds_i (d := d) (t := t) (g := g) (cn := cn) (sn := sn) (j := i) (by omega) i 0 (by omega) (sumN (fun k => cntN (T3 (g.1 29) k) k) i) a4
    rw [show cntN (T3 (g.1 29) i) 0 = 0 from rfl, show Int32.ofNat 0 = (0 : Int32) from rfl] at e
    simp only [Nat.add_zero] at e
    rw [st_X9_thirds_4]
    simp (disch := omega) only [st_X9_thirds_5, st_X9_thirds_6, st_X9_thirds_9, st_X9_thirds_12, st_X9_thirds_15, st_X9_thirds_16, bM_some, hg_0_1, hg_16_10, hN, nn_lt, show i < N by omega, if_true, lc_i, Nat.reduceAdd]
    rw [e]
    simp (disch := omega) only [st_X9_thirds_56, st_X9_thirds_59, nn_r1, lc_i, Nat.reduceAdd]
    exact ih (i + 1) (by omega) _ _
theorem c_thirds (hK : KN (kC g) N S D L) : bc (d + 2) M_X9_thirds none 0 [some (.ref 0), none, none, none, none] [] (hp t g) cn sn = some (.inl (some (.int (Int32.ofNat (sumN (fun k => cntN (T3 (g.1 29) k) k) N)))), hp t g, cn, sn) := by
  simp only [st_X9_thirds_0, st_X9_thirds_1, st_X9_thirds_2, st_X9_thirds_3, lc_i, lc_r, lc_n, Nat.reduceAdd]
  exact c_thirds_o hK N 0 (by omega) _ _
end COUNT
