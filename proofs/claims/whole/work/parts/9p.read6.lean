/-! ===== the Reader: expressions, whole ===== -/
def kP (b : Rw) (n D : Nat) (M : px_Mt) (vs : List (Option Value)) (p : Sg → Sg) : Prop := ∀ (σ : Sg) (g : hG) (t : List px_E) (cn sn : Nat), CR b n σ g → ∃ g' : hG, CR b n (p σ) g' ∧ Sm g g' ∧ bc D M none 0 vs [] (hp t g) cn sn = some (.inl none, hp t g', cn, sn)
def cal_product (dep : Nat) : List (Option Value) := [some (.ref 1), some (.int (Int32.ofNat dep)), none]
def cal_sum (dep : Nat) : List (Option Value) := [some (.ref 1), some (.int (Int32.ofNat dep)), none, none]
section READ6
variable {d D : Nat} {t : List px_E} {g : hG} {n cn sn dep : Nat} {b : Rw} {σ : Sg} {p rc : Sg → Sg}
theorem nn_l600' {a : Nat} (ha : a < 2147483648) : (Int32.ofNat a < 600) = (a < 600) := nn_l600 ha
set_option maxHeartbeats 8000000 in
theorem k_product_l (hp1 : kP b n (D + 13) M_X6_part (cal_product dep) p) : ∀ f i : Nat, i + f = 600 → ∀ (σ : Sg) (g : hG) (a3 : Option Value), CR b n σ g → ∃ g' : hG, CR b n (loopW (fun s => pIsS b 42 s || pIsS b 47 s) (fun s => pAdd (if pIsS b 42 s = true then 10014 else 10015) (p (pAdv b n s))) f σ) g' ∧ Sm g g' ∧
    bc (D + 14) M_X6_product none 7 [some (.ref 1), some (.int (Int32.ofNat dep)), some (.int (Int32.ofNat i)), a3] [] (hp t g) cn sn = some (.inl none, hp t g', cn, sn) := by
  intro f
  induction f with
  | zero =>
    intro i hi σ g a3 h
    refine ⟨g, h, Sm.refl, ?_⟩
    rw [st_X6_product_7]
    simp (disch := omega) only [st_X6_product_8, st_X6_product_11, st_X6_product_77, nn_l600, show ¬ i < 600 by omega, if_false, Nat.reduceAdd]
  | succ f ih =>
    intro i hi σ g a3 h
    have s1 := k_isSign (d := D + 13) (t := t) (x := 42) (cn := 0) (sn := 0) h
    have s2 := k_isSign (d := D + 13) (t := t) (x := 47) (cn := 0) (sn := 0) h
    obtain ⟨g1, c1, m1, e1⟩ := k_adv (d := D + 12) (t := t) (cn := 0) (sn := 0) h
    obtain ⟨g2, c2, m2, e2⟩ := hp1 (pAdv b n σ) g1 t 0 0 c1
    unfold cal_product at e2
    unfold loopW
    cases q1 : pIsS b 42 σ with
    | true =>
      rw [q1] at s1
      obtain ⟨g3, c3, m3, e3⟩ := k_add (d := D + 13) (t := t) (x := 10014) (cn := 0) (sn := 0) c2
      obtain ⟨g4, c4, m4, e4⟩ := ih (i + 1) (by omega) _ g3 (some (.int 10014)) c3
      refine ⟨g4, by rw [Bool.true_or, if_pos rfl, if_pos rfl]; exact c4, m1.trans (m2.trans (m3.trans m4)), ?_⟩
      rw [← e4, st_X6_product_7]
      simp (disch := omega) only [st_X6_product_8, st_X6_product_11, st_X6_product_14, st_X6_product_15, st_X6_product_20, st_X6_product_32, st_X6_product_33, st_X6_product_38, st_X6_product_41, st_X6_product_44, st_X6_product_50, st_X6_product_51, st_X6_product_55, st_X6_product_56, st_X6_product_60, st_X6_product_61, st_X6_product_64, st_X6_product_67, st_X6_product_71, st_X6_product_74, st_X6_product_17 (p := 1) hq_1 ps_, st_X6_product_35 (p := 1) hq_1 ps_, st_X6_product_52 (p := 1) hq_1 ps_, st_X6_product_57 (p := 1) hq_1 ps_, st_X6_product_68 (p := 12) hq_12 ps_, bM_some, hg_1_1, hg_3_8, nn_l600, show i < 600 by omega, if_true, s1, e1, e2, e3, b01, cond_true, nn_one0, if_false, bC_inl, Option.toList, List.cons_append, List.nil_append, Nat.add_zero, lc_r, lc_i, nn_r1, Nat.reduceAdd]
    | false =>
      rw [q1] at s1
      cases q2 : pIsS b 47 σ with
      | true =>
        rw [q2] at s2
        obtain ⟨g3, c3, m3, e3⟩ := k_add (d := D + 13) (t := t) (x := 10015) (cn := 0) (sn := 0) c2
        obtain ⟨g4, c4, m4, e4⟩ := ih (i + 1) (by omega) _ g3 (some (.int 10015)) c3
        refine ⟨g4, by rw [Bool.false_or, if_pos rfl, if_neg (by simp)]; exact c4, m1.trans (m2.trans (m3.trans m4)), ?_⟩
        rw [← e4, st_X6_product_7]
        simp (disch := omega) only [st_X6_product_8, st_X6_product_11, st_X6_product_14, st_X6_product_15, st_X6_product_20, st_X6_product_23, st_X6_product_24, st_X6_product_29, st_X6_product_32, st_X6_product_33, st_X6_product_38, st_X6_product_47, st_X6_product_50, st_X6_product_51, st_X6_product_55, st_X6_product_56, st_X6_product_60, st_X6_product_61, st_X6_product_64, st_X6_product_67, st_X6_product_71, st_X6_product_74, st_X6_product_17 (p := 1) hq_1 ps_, st_X6_product_26 (p := 1) hq_1 ps_, st_X6_product_35 (p := 1) hq_1 ps_, st_X6_product_52 (p := 1) hq_1 ps_, st_X6_product_57 (p := 1) hq_1 ps_, st_X6_product_68 (p := 12) hq_12 ps_, bM_some, hg_1_1, hg_3_8, nn_l600, show i < 600 by omega, if_true, s1, s2, e1, e2, e3, b01, cond_true, cond_false, nn_one0, if_false, bC_inl, Option.toList, List.cons_append, List.nil_append, Nat.add_zero, lc_r, lc_i, nn_r1, Nat.reduceAdd]
      | false =>
        rw [q2] at s2
        refine ⟨g, by rw [Bool.false_or, if_neg (by simp)]; exact h, Sm.refl, ?_⟩
        rw [st_X6_product_7]
        simp (disch := omega) only [st_X6_product_8, st_X6_product_11, st_X6_product_14, st_X6_product_15, st_X6_product_20, st_X6_product_23, st_X6_product_24, st_X6_product_29, st_X6_product_77, st_X6_product_17 (p := 1) hq_1 ps_, st_X6_product_26 (p := 1) hq_1 ps_, nn_l600, show i < 600 by omega, if_true, s1, s2, b01, cond_false, if_false, bC_inl, Option.toList, List.cons_append, List.nil_append, Nat.add_zero, Nat.reduceAdd]
theorem k_product (hp1 : kP b n (D + 13) M_X6_part (cal_product dep) p) : kP b n (D + 14) M_X6_product [some (.ref 1), some (.int (Int32.ofNat dep)), none, none] (fun σ => loopW (fun s => pIsS b 42 s || pIsS b 47 s) (fun s => pAdd (if pIsS b 42 s = true then 10014 else 10015) (p (pAdv b n s))) 600 (p σ)) := by
  intro σ g t cn sn h
  obtain ⟨g1, c1, m1, e1⟩ := hp1 σ g t 0 0 h
  unfold cal_product at e1
  obtain ⟨g2, c2, m2, e2⟩ := k_product_l (t := t) (cn := cn) (sn := sn) (dep := dep) hp1 600 0 (by omega) (p σ) g1 none c1
  rw [show Int32.ofNat 0 = (0 : Int32) from rfl] at e2
  refine ⟨g2, c2, m1.trans m2, Eq.trans ?_ e2⟩
  simp (disch := omega) only [st_X6_product_0, st_X6_product_1, st_X6_product_5, st_X6_product_6, st_X6_product_2 (p := 1) hq_1 ps_, e1, bC_inl, Option.toList, List.nil_append, Nat.add_zero, lc_r, lc_i, lc_n, Nat.reduceAdd]
set_option maxHeartbeats 8000000 in
theorem k_sum_l (hp1 : kP b n (D + 13) M_X6_product (cal_sum dep) p) : ∀ f i : Nat, i + f = 600 → ∀ (σ : Sg) (g : hG) (a3 : Option Value), CR b n σ g → ∃ g' : hG, CR b n (loopW (fun s => pIsS b 43 s || pIsS b 45 s) (fun s => pAdd (if pIsS b 43 s = true then 10012 else 10013) (p (pAdv b n s))) f σ) g' ∧ Sm g g' ∧
    bc (D + 14) M_X6_sum none 7 [some (.ref 1), some (.int (Int32.ofNat dep)), some (.int (Int32.ofNat i)), a3] [] (hp t g) cn sn = some (.inl none, hp t g', cn, sn) := by
  intro f
  induction f with
  | zero =>
    intro i hi σ g a3 h
    refine ⟨g, h, Sm.refl, ?_⟩
    rw [st_X6_sum_7]
    simp (disch := omega) only [st_X6_sum_8, st_X6_sum_11, st_X6_sum_77, nn_l600, show ¬ i < 600 by omega, if_false, Nat.reduceAdd]
  | succ f ih =>
    intro i hi σ g a3 h
    have s1 := k_isSign (d := D + 13) (t := t) (x := 43) (cn := 0) (sn := 0) h
    have s2 := k_isSign (d := D + 13) (t := t) (x := 45) (cn := 0) (sn := 0) h
    obtain ⟨g1, c1, m1, e1⟩ := k_adv (d := D + 12) (t := t) (cn := 0) (sn := 0) h
    obtain ⟨g2, c2, m2, e2⟩ := hp1 (pAdv b n σ) g1 t 0 0 c1
    unfold cal_sum at e2
    unfold loopW
    cases q1 : pIsS b 43 σ with
    | true =>
      rw [q1] at s1
      obtain ⟨g3, c3, m3, e3⟩ := k_add (d := D + 13) (t := t) (x := 10012) (cn := 0) (sn := 0) c2
      obtain ⟨g4, c4, m4, e4⟩ := ih (i + 1) (by omega) _ g3 (some (.int 10012)) c3
      refine ⟨g4, by rw [Bool.true_or, if_pos rfl, if_pos rfl]; exact c4, m1.trans (m2.trans (m3.trans m4)), ?_⟩
      rw [← e4, st_X6_sum_7]
      simp (disch := omega) only [st_X6_sum_8, st_X6_sum_11, st_X6_sum_14, st_X6_sum_15, st_X6_sum_20, st_X6_sum_32, st_X6_sum_33, st_X6_sum_38, st_X6_sum_41, st_X6_sum_44, st_X6_sum_50, st_X6_sum_51, st_X6_sum_55, st_X6_sum_56, st_X6_sum_60, st_X6_sum_61, st_X6_sum_64, st_X6_sum_67, st_X6_sum_71, st_X6_sum_74, st_X6_sum_17 (p := 1) hq_1 ps_, st_X6_sum_35 (p := 1) hq_1 ps_, st_X6_sum_52 (p := 1) hq_1 ps_, st_X6_sum_57 (p := 1) hq_1 ps_, st_X6_sum_68 (p := 12) hq_12 ps_, bM_some, hg_1_1, hg_3_8, nn_l600, show i < 600 by omega, if_true, s1, e1, e2, e3, b01, cond_true, nn_one0, if_false, bC_inl, Option.toList, List.cons_append, List.nil_append, Nat.add_zero, lc_r, lc_i, nn_r1, Nat.reduceAdd]
    | false =>
      rw [q1] at s1
      cases q2 : pIsS b 45 σ with
      | true =>
        rw [q2] at s2
        obtain ⟨g3, c3, m3, e3⟩ := k_add (d := D + 13) (t := t) (x := 10013) (cn := 0) (sn := 0) c2
        obtain ⟨g4, c4, m4, e4⟩ := ih (i + 1) (by omega) _ g3 (some (.int 10013)) c3
        refine ⟨g4, by rw [Bool.false_or, if_pos rfl, if_neg (by simp)]; exact c4, m1.trans (m2.trans (m3.trans m4)), ?_⟩
        rw [← e4, st_X6_sum_7]
        simp (disch := omega) only [st_X6_sum_8, st_X6_sum_11, st_X6_sum_14, st_X6_sum_15, st_X6_sum_20, st_X6_sum_23, st_X6_sum_24, st_X6_sum_29, st_X6_sum_32, st_X6_sum_33, st_X6_sum_38, st_X6_sum_47, st_X6_sum_50, st_X6_sum_51, st_X6_sum_55, st_X6_sum_56, st_X6_sum_60, st_X6_sum_61, st_X6_sum_64, st_X6_sum_67, st_X6_sum_71, st_X6_sum_74, st_X6_sum_17 (p := 1) hq_1 ps_, st_X6_sum_26 (p := 1) hq_1 ps_, st_X6_sum_35 (p := 1) hq_1 ps_, st_X6_sum_52 (p := 1) hq_1 ps_, st_X6_sum_57 (p := 1) hq_1 ps_, st_X6_sum_68 (p := 12) hq_12 ps_, bM_some, hg_1_1, hg_3_8, nn_l600, show i < 600 by omega, if_true, s1, s2, e1, e2, e3, b01, cond_true, cond_false, nn_one0, if_false, bC_inl, Option.toList, List.cons_append, List.nil_append, Nat.add_zero, lc_r, lc_i, nn_r1, Nat.reduceAdd]
      | false =>
        rw [q2] at s2
        refine ⟨g, by rw [Bool.false_or, if_neg (by simp)]; exact h, Sm.refl, ?_⟩
        rw [st_X6_sum_7]
        simp (disch := omega) only [st_X6_sum_8, st_X6_sum_11, st_X6_sum_14, st_X6_sum_15, st_X6_sum_20, st_X6_sum_23, st_X6_sum_24, st_X6_sum_29, st_X6_sum_77, st_X6_sum_17 (p := 1) hq_1 ps_, st_X6_sum_26 (p := 1) hq_1 ps_, nn_l600, show i < 600 by omega, if_true, s1, s2, b01, cond_false, if_false, bC_inl, Option.toList, List.cons_append, List.nil_append, Nat.add_zero, Nat.reduceAdd]
theorem k_sum (hp1 : kP b n (D + 13) M_X6_product (cal_sum dep) p) : kP b n (D + 14) M_X6_sum [some (.ref 1), some (.int (Int32.ofNat dep)), none, none] (fun σ => loopW (fun s => pIsS b 43 s || pIsS b 45 s) (fun s => pAdd (if pIsS b 43 s = true then 10012 else 10013) (p (pAdv b n s))) 600 (p σ)) := by
  intro σ g t cn sn h
  obtain ⟨g1, c1, m1, e1⟩ := hp1 σ g t 0 0 h
  unfold cal_sum at e1
  obtain ⟨g2, c2, m2, e2⟩ := k_sum_l (t := t) (cn := cn) (sn := sn) (dep := dep) hp1 600 0 (by omega) (p σ) g1 none c1
  rw [show Int32.ofNat 0 = (0 : Int32) from rfl] at e2
  refine ⟨g2, c2, m1.trans m2, Eq.trans ?_ e2⟩
  simp (disch := omega) only [st_X6_sum_0, st_X6_sum_1, st_X6_sum_5, st_X6_sum_6, st_X6_sum_2 (p := 1) hq_1 ps_, e1, bC_inl, Option.toList, List.nil_append, Nat.add_zero, lc_r, lc_i, lc_n, Nat.reduceAdd]
theorem notN_b : ∀ (f k : Nat) (σ : Sg), k ≤ notN b n f k σ ∧ notN b n f k σ ≤ k + f := by
  intro f
  induction f with
  | zero => intro k σ; exact ⟨Nat.le_refl k, Nat.le_refl k⟩
  | succ f ih =>
    intro k σ
    unfold notN
    split
    · have := ih (k + 1) (pAdv b n σ); omega
    · omega
set_option maxHeartbeats 4000000 in
theorem te_1 (a3 : Option Value) : ∀ f k : Nat, k + f = 6 → ∀ (σ : Sg) (g : hG), CR b n σ g → ∃ g' : hG, CR b n (notS b n f σ) g' ∧ Sm g g' ∧
    bc (D + 13) M_X6_test none 2 [some (.ref 1), some (.int (Int32.ofNat dep)), some (.int (Int32.ofNat k)), a3] [] (hp t g) cn sn =
    bc (D + 13) M_X6_test none 27 [some (.ref 1), some (.int (Int32.ofNat dep)), some (.int (Int32.ofNat (notN b n f k σ))), a3] [] (hp t g') cn sn := by
  intro f
  induction f with
  | zero =>
    intro k hk σ g h
    have e6 : (Int32.ofNat k < (6 : Int32)) = False := by rw [show (6 : Int32) = Int32.ofNat 6 from rfl, nn_lt (by omega) (by omega)]; exact eq_false (by omega)
    refine ⟨g, h, Sm.refl, ?_⟩
    rw [st_X6_test_2]
    simp (disch := omega) only [st_X6_test_3, st_X6_test_5, e6, if_false, notN, Nat.reduceAdd]
  | succ f ih =>
    intro k hk σ g h
    have e6 : (Int32.ofNat k < (6 : Int32)) = True := by rw [show (6 : Int32) = Int32.ofNat 6 from rfl, nn_lt (by omega) (by omega)]; exact eq_true (by omega)
    have s1 := k_isWord (d := D) (t := t) (cn := 0) (sn := 0) tx_24 (by decide) h
    unfold notN notS
    cases q1 : pIsW b wNot σ with
    | true =>
      rw [q1] at s1
      obtain ⟨g1, c1, m1, e1⟩ := k_adv (d := D + 11) (t := t) (cn := 0) (sn := 0) h
      obtain ⟨g2, c2, m2, e2⟩ := ih (k + 1) (by omega) _ g1 c1
      refine ⟨g2, by rw [if_pos rfl]; exact c2, m1.trans m2, ?_⟩
      rw [if_pos rfl, ← e2, st_X6_test_2]
      simp (disch := omega) only [st_X6_test_3, st_X6_test_5, st_X6_test_8, st_X6_test_9, st_X6_test_14, st_X6_test_17, st_X6_test_21, st_X6_test_24, st_X6_test_11 (p := 1) hq_1 ps_, st_X6_test_18 (p := 1) hq_1 ps_, e6, if_true, s1, e1, b01, cond_true, nn_one0, if_false, bC_inl, Option.toList, List.cons_append, List.nil_append, Nat.add_zero, lc_r, lc_i, nn_r1, Nat.reduceAdd]
    | false =>
      rw [q1] at s1
      refine ⟨g, by rw [if_neg (by simp)]; exact h, Sm.refl, ?_⟩
      rw [if_neg (by simp), st_X6_test_2]
      simp (disch := omega) only [st_X6_test_3, st_X6_test_5, st_X6_test_8, st_X6_test_9, st_X6_test_14, st_X6_test_11 (p := 1) hq_1 ps_, e6, if_true, s1, b01, cond_false, bC_inl, Option.toList, List.cons_append, List.nil_append, Nat.add_zero, Nat.reduceAdd]
set_option maxHeartbeats 4000000 in
theorem te_2 {k : Nat} (hk : k < 100) : ∀ m i : Nat, i + m = k → ∀ (σ : Sg) (g : hG), CR b n σ g → ∃ g' : hG, CR b n (itN (pAdd 10007) m σ) g' ∧ Sm g g' ∧
    bc (D + 1) M_X6_test none 112 [some (.ref 1), some (.int (Int32.ofNat dep)), some (.int (Int32.ofNat k)), some (.int (Int32.ofNat i))] [] (hp t g) cn sn = some (.inl none, hp t g', cn, sn) := by
  intro m
  induction m with
  | zero =>
    intro i hi σ g h
    refine ⟨g, h, Sm.refl, ?_⟩
    rw [st_X6_test_112]
    simp (disch := omega) only [st_X6_test_113, st_X6_test_114, st_X6_test_136, nn_lt, show ¬ i < k by omega, if_false, Nat.reduceAdd]
  | succ m ih =>
    intro i hi σ g h
    obtain ⟨g1, c1, m1, e1⟩ := k_add (d := D) (t := t) (x := 10007) (cn := 0) (sn := 0) h
    obtain ⟨g2, c2, m2, e2⟩ := ih (i + 1) (by omega) _ g1 c1
    refine ⟨g2, c2, m1.trans m2, ?_⟩
    rw [← e2, st_X6_test_112]
    simp (disch := omega) only [st_X6_test_113, st_X6_test_114, st_X6_test_117, st_X6_test_118, st_X6_test_121, st_X6_test_124, st_X6_test_130, st_X6_test_133, st_X6_test_127 (p := 12) hq_12 ps_, bM_some, hg_1_1, hg_3_8, nn_lt, show i < k by omega, if_true, e1, bC_inl, Option.toList, List.nil_append, Nat.add_zero, lc_r, lc_i, nn_r1, Nat.reduceAdd]
set_option maxHeartbeats 8000000 in
theorem k_test (hp1 : kP b n (D + 12) M_X6_sum [some (.ref 1), some (.int (Int32.ofNat dep)), none, none] (pSum b n rc)) : kP b n (D + 13) M_X6_test [some (.ref 1), some (.int (Int32.ofNat dep)), none, none] (pTest b n rc) := by
  intro σ g t cn sn h
  obtain ⟨g1, c1, m1, e1⟩ := te_1 (D := D) (t := t) (dep := dep) (cn := cn) (sn := sn) none 6 0 (by omega) σ g h
  rw [show Int32.ofNat 0 = (0 : Int32) from rfl] at e1
  obtain ⟨nb1, nb2⟩ := notN_b (b := b) (n := n) 6 0 σ
  have s1 := k_isWord (d := D) (t := t) (cn := 0) (sn := 0) tx_24 (by decide) c1
  unfold pTest
  generalize notN b n 6 0 σ = k at *
  generalize notS b n 6 σ = σ1 at *
  have e6 : (Int32.ofNat k = (6 : Int32)) = (k = 6) := nn_inj (b := 6) (by omega) (by omega)
  have start : ∀ z, bc (D + 13) M_X6_test none 27 [some (.ref 1), some (.int (Int32.ofNat dep)), some (.int (Int32.ofNat k)), none] [] (hp t g1) cn sn = z → bc (D + 13) M_X6_test none 0 [some (.ref 1), some (.int (Int32.ofNat dep)), none, none] [] (hp t g) cn sn = z := by
    intro z hz
    simp (disch := omega) only [st_X6_test_0, st_X6_test_1, lc_r, lc_i, lc_n, Nat.reduceAdd]
    exact Eq.trans e1 hz
  by_cases hf : k = 6 ∧ pIsW b wNot σ1 = true
  · rw [if_pos hf]
    rw [hf.2] at s1
    obtain ⟨g2, c2, m2, e2⟩ := k_fail (d := D + 12) (t := t) (cn := 0) (sn := 0) (c := 2) c1 (by omega)
    rw [show Int32.ofNat 2 = (2 : Int32) from rfl] at e2
    refine ⟨g2, c2, m1.trans m2, start _ ?_⟩
    simp (disch := omega) only [st_X6_test_27, st_X6_test_28, st_X6_test_30, st_X6_test_33, st_X6_test_34, st_X6_test_39, st_X6_test_42, st_X6_test_43, st_X6_test_47, st_X6_test_36 (p := 1) hq_1 ps_, st_X6_test_44 (p := 1) hq_1 ps_, e6.trans (eq_true hf.1), if_true, s1, e2, b01, cond_true, nn_one0, if_false, bC_inl, Option.toList, List.cons_append, List.nil_append, Nat.add_zero, Nat.reduceAdd]
  · rw [if_neg hf]
    have go48 : ∀ z, bc (D + 13) M_X6_test none 48 [some (.ref 1), some (.int (Int32.ofNat dep)), some (.int (Int32.ofNat k)), none] [] (hp t g1) cn sn = z → bc (D + 13) M_X6_test none 27 [some (.ref 1), some (.int (Int32.ofNat dep)), some (.int (Int32.ofNat k)), none] [] (hp t g1) cn sn = z := by
      intro z hz
      by_cases hk : k = 6
      · cases hw : pIsW b wNot σ1 with
        | true => exact absurd ⟨hk, hw⟩ hf
        | false =>
          rw [hw] at s1
          simp (disch := omega) only [st_X6_test_27, st_X6_test_28, st_X6_test_30, st_X6_test_33, st_X6_test_34, st_X6_test_39, st_X6_test_36 (p := 1) hq_1 ps_, e6.trans (eq_true hk), if_true, s1, b01, cond_false, bC_inl, Option.toList, List.cons_append, List.nil_append, Nat.add_zero, Nat.reduceAdd]
          exact hz
      · simp (disch := omega) only [st_X6_test_27, st_X6_test_28, st_X6_test_30, e6.trans (eq_false hk), if_false, Nat.reduceAdd]
        exact hz
    obtain ⟨g2, c2, m2, e2⟩ := hp1 σ1 g1 t 0 0 c1
    have s60 := k_isSign (d := D + 12) (t := t) (x := 60) (cn := 0) (sn := 0) c2
    have s61 := k_isSign (d := D + 12) (t := t) (x := 61) (cn := 0) (sn := 0) c2
    unfold pCmp
    by_cases hc : (pIsS b 60 (pSum b n rc σ1) || pIsS b 61 (pSum b n rc σ1)) = true
    · rw [if_pos hc]
      obtain ⟨g3, c3, m3, e3⟩ := k_adv (d := D + 11) (t := t) (cn := 0) (sn := 0) c2
      obtain ⟨g4, c4, m4, e4⟩ := hp1 _ g3 t 0 0 c3
      obtain ⟨g5, c5, m5, e5⟩ := k_add (d := D + 12) (t := t) (x := if pIsS b 60 (pSum b n rc σ1) = true then 10010 else 10011) (cn := 0) (sn := 0) c4
      obtain ⟨g6, c6, m6, e7⟩ := te_2 (D := D + 12) (t := t) (dep := dep) (cn := cn) (sn := sn) (k := k) (by omega) k 0 (by omega) _ g5 c5
      rw [show Int32.ofNat 0 = (0 : Int32) from rfl] at e7
      refine ⟨g6, c6, m1.trans (m2.trans (m3.trans (m4.trans (m5.trans m6)))), start _ (go48 _ (Eq.trans ?_ e7))⟩
      cases q1 : pIsS b 60 (pSum b n rc σ1) with
      | true =>
        rw [q1] at s60 e5
        rw [if_pos rfl] at e5
        simp (disch := omega) only [st_X6_test_48, st_X6_test_49, st_X6_test_53, st_X6_test_54, st_X6_test_59, st_X6_test_71, st_X6_test_72, st_X6_test_77, st_X6_test_80, st_X6_test_83, st_X6_test_89, st_X6_test_90, st_X6_test_94, st_X6_test_95, st_X6_test_99, st_X6_test_100, st_X6_test_103, st_X6_test_106, st_X6_test_110, st_X6_test_111, st_X6_test_50 (p := 1) hq_1 ps_, st_X6_test_56 (p := 1) hq_1 ps_, st_X6_test_74 (p := 1) hq_1 ps_, st_X6_test_91 (p := 1) hq_1 ps_, st_X6_test_96 (p := 1) hq_1 ps_, st_X6_test_107 (p := 12) hq_12 ps_, bM_some, hg_1_1, hg_3_8, e2, s60, e3, e4, e5, b01, cond_true, nn_one0, if_false, bC_inl, Option.toList, List.cons_append, List.nil_append, Nat.add_zero, lc_r, lc_i, lc_n, Nat.reduceAdd]
      | false =>
        rw [q1, Bool.false_or] at hc
        rw [q1] at s60 e5
        rw [hc] at s61
        rw [if_neg (by simp)] at e5
        simp (disch := omega) only [st_X6_test_48, st_X6_test_49, st_X6_test_53, st_X6_test_54, st_X6_test_59, st_X6_test_62, st_X6_test_63, st_X6_test_68, st_X6_test_71, st_X6_test_72, st_X6_test_77, st_X6_test_86, st_X6_test_89, st_X6_test_90, st_X6_test_94, st_X6_test_95, st_X6_test_99, st_X6_test_100, st_X6_test_103, st_X6_test_106, st_X6_test_110, st_X6_test_111, st_X6_test_50 (p := 1) hq_1 ps_, st_X6_test_56 (p := 1) hq_1 ps_, st_X6_test_65 (p := 1) hq_1 ps_, st_X6_test_74 (p := 1) hq_1 ps_, st_X6_test_91 (p := 1) hq_1 ps_, st_X6_test_96 (p := 1) hq_1 ps_, st_X6_test_107 (p := 12) hq_12 ps_, bM_some, hg_1_1, hg_3_8, e2, s60, s61, e3, e4, e5, b01, cond_true, cond_false, nn_one0, if_false, if_true, bC_inl, Option.toList, List.cons_append, List.nil_append, Nat.add_zero, lc_r, lc_i, lc_n, Nat.reduceAdd]
    · rw [if_neg hc]
      obtain ⟨g6, c6, m6, e7⟩ := te_2 (D := D + 12) (t := t) (dep := dep) (cn := cn) (sn := sn) (k := k) (by omega) k 0 (by omega) _ g2 c2
      rw [show Int32.ofNat 0 = (0 : Int32) from rfl] at e7
      refine ⟨g6, c6, m1.trans (m2.trans m6), start _ (go48 _ (Eq.trans ?_ e7))⟩
      have hc' := Bool.eq_false_iff.mpr hc
      rw [Bool.or_eq_false_iff] at hc'
      rw [hc'.1] at s60
      rw [hc'.2] at s61
      simp (disch := omega) only [st_X6_test_48, st_X6_test_49, st_X6_test_53, st_X6_test_54, st_X6_test_59, st_X6_test_62, st_X6_test_63, st_X6_test_68, st_X6_test_110, st_X6_test_111, st_X6_test_50 (p := 1) hq_1 ps_, st_X6_test_56 (p := 1) hq_1 ps_, st_X6_test_65 (p := 1) hq_1 ps_, e2, s60, s61, b01, cond_false, if_true, bC_inl, Option.toList, List.cons_append, List.nil_append, Nat.add_zero, lc_r, lc_i, lc_n, Nat.reduceAdd]
set_option maxHeartbeats 4000000 in
theorem k_both_l (hp1 : kP b n (D + 12) M_X6_test [some (.ref 1), some (.int (Int32.ofNat dep)), none, none] p) : ∀ f i : Nat, i + f = 600 → ∀ (σ : Sg) (g : hG), CR b n σ g → ∃ g' : hG, CR b n (loopW (pIsW b wAnd) (fun s => pAdd 10009 (p (pAdv b n s))) f σ) g' ∧ Sm g g' ∧
    bc (D + 13) M_X6_both none 7 [some (.ref 1), some (.int (Int32.ofNat dep)), some (.int (Int32.ofNat i))] [] (hp t g) cn sn = some (.inl none, hp t g', cn, sn) := by
  intro f
  induction f with
  | zero =>
    intro i hi σ g h
    refine ⟨g, h, Sm.refl, ?_⟩
    rw [st_X6_both_7]
    simp (disch := omega) only [st_X6_both_8, st_X6_both_11, st_X6_both_51, nn_l600, show ¬ i < 600 by omega, if_false, Nat.reduceAdd]
  | succ f ih =>
    intro i hi σ g h
    have s1 := k_isWord (d := D) (t := t) (cn := 0) (sn := 0) tx_23 (by decide) h
    unfold loopW
    cases q1 : pIsW b wAnd σ with
    | true =>
      rw [q1] at s1
      obtain ⟨g1, c1, m1, e1⟩ := k_adv (d := D + 11) (t := t) (cn := 0) (sn := 0) h
      obtain ⟨g2, c2, m2, e2⟩ := hp1 (pAdv b n σ) g1 t 0 0 c1
      obtain ⟨g3, c3, m3, e3⟩ := k_add (d := D + 12) (t := t) (x := 10009) (cn := 0) (sn := 0) c2
      obtain ⟨g4, c4, m4, e4⟩ := ih (i + 1) (by omega) _ g3 c3
      refine ⟨g4, by rw [if_pos rfl]; exact c4, m1.trans (m2.trans (m3.trans m4)), ?_⟩
      rw [← e4, st_X6_both_7]
      simp (disch := omega) only [st_X6_both_8, st_X6_both_11, st_X6_both_14, st_X6_both_15, st_X6_both_20, st_X6_both_23, st_X6_both_27, st_X6_both_28, st_X6_both_32, st_X6_both_33, st_X6_both_36, st_X6_both_39, st_X6_both_45, st_X6_both_48, st_X6_both_17 (p := 1) hq_1 ps_, st_X6_both_24 (p := 1) hq_1 ps_, st_X6_both_29 (p := 1) hq_1 ps_, st_X6_both_42 (p := 12) hq_12 ps_, bM_some, hg_1_1, hg_3_8, nn_l600, show i < 600 by omega, if_true, s1, e1, e2, e3, b01, cond_true, nn_one0, if_false, bC_inl, Option.toList, List.cons_append, List.nil_append, Nat.add_zero, lc_r, lc_i, nn_r1, Nat.reduceAdd]
    | false =>
      rw [q1] at s1
      refine ⟨g, by rw [if_neg (by simp)]; exact h, Sm.refl, ?_⟩
      rw [st_X6_both_7]
      simp (disch := omega) only [st_X6_both_8, st_X6_both_11, st_X6_both_14, st_X6_both_15, st_X6_both_20, st_X6_both_51, st_X6_both_17 (p := 1) hq_1 ps_, nn_l600, show i < 600 by omega, if_true, s1, b01, cond_false, bC_inl, Option.toList, List.cons_append, List.nil_append, Nat.add_zero, Nat.reduceAdd]
theorem k_both (hp1 : kP b n (D + 12) M_X6_test [some (.ref 1), some (.int (Int32.ofNat dep)), none, none] (pTest b n rc)) : kP b n (D + 13) M_X6_both [some (.ref 1), some (.int (Int32.ofNat dep)), none] (pBoth b n rc) := by
  intro σ g t cn sn h
  obtain ⟨g1, c1, m1, e1⟩ := hp1 σ g t 0 0 h
  obtain ⟨g2, c2, m2, e2⟩ := k_both_l (t := t) (cn := cn) (sn := sn) (dep := dep) hp1 600 0 (by omega) (pTest b n rc σ) g1 c1
  rw [show Int32.ofNat 0 = (0 : Int32) from rfl] at e2
  refine ⟨g2, c2, m1.trans m2, Eq.trans ?_ e2⟩
  simp (disch := omega) only [st_X6_both_0, st_X6_both_1, st_X6_both_5, st_X6_both_6, st_X6_both_2 (p := 1) hq_1 ps_, e1, bC_inl, Option.toList, List.nil_append, Nat.add_zero, lc_r, lc_i, lc_n, Nat.reduceAdd]
set_option maxHeartbeats 4000000 in
theorem k_exb_l (hp1 : kP b n (D + 12) M_X6_both [some (.ref 1), some (.int (Int32.ofNat dep)), none] p) : ∀ f i : Nat, i + f = 600 → ∀ (σ : Sg) (g : hG), CR b n σ g → ∃ g' : hG, CR b n (loopW (pIsW b wOr) (fun s => pAdd 10008 (p (pAdv b n s))) f σ) g' ∧ Sm g g' ∧
    bc (D + 13) M_X6_expr none 48 [some (.ref 1), some (.int (Int32.ofNat dep)), some (.int (Int32.ofNat i))] [] (hp t g) cn sn = some (.inl none, hp t g', cn, sn) := by
  intro f
  induction f with
  | zero =>
    intro i hi σ g h
    refine ⟨g, h, Sm.refl, ?_⟩
    rw [st_X6_expr_48]
    simp (disch := omega) only [st_X6_expr_49, st_X6_expr_52, st_X6_expr_92, nn_l600, show ¬ i < 600 by omega, if_false, Nat.reduceAdd]
  | succ f ih =>
    intro i hi σ g h
    have s1 := k_isWord (d := D) (t := t) (cn := 0) (sn := 0) tx_22 (by decide) h
    unfold loopW
    cases q1 : pIsW b wOr σ with
    | true =>
      rw [q1] at s1
      obtain ⟨g1, c1, m1, e1⟩ := k_adv (d := D + 11) (t := t) (cn := 0) (sn := 0) h
      obtain ⟨g2, c2, m2, e2⟩ := hp1 (pAdv b n σ) g1 t 0 0 c1
      obtain ⟨g3, c3, m3, e3⟩ := k_add (d := D + 12) (t := t) (x := 10008) (cn := 0) (sn := 0) c2
      obtain ⟨g4, c4, m4, e4⟩ := ih (i + 1) (by omega) _ g3 c3
      refine ⟨g4, by rw [if_pos rfl]; exact c4, m1.trans (m2.trans (m3.trans m4)), ?_⟩
      rw [← e4, st_X6_expr_48]
      simp (disch := omega) only [st_X6_expr_49, st_X6_expr_52, st_X6_expr_55, st_X6_expr_56, st_X6_expr_61, st_X6_expr_64, st_X6_expr_68, st_X6_expr_69, st_X6_expr_73, st_X6_expr_74, st_X6_expr_77, st_X6_expr_80, st_X6_expr_86, st_X6_expr_89, st_X6_expr_58 (p := 1) hq_1 ps_, st_X6_expr_65 (p := 1) hq_1 ps_, st_X6_expr_70 (p := 1) hq_1 ps_, st_X6_expr_83 (p := 12) hq_12 ps_, bM_some, hg_1_1, hg_3_8, nn_l600, show i < 600 by omega, if_true, s1, e1, e2, e3, b01, cond_true, nn_one0, if_false, bC_inl, Option.toList, List.cons_append, List.nil_append, Nat.add_zero, lc_r, lc_i, nn_r1, Nat.reduceAdd]
    | false =>
      rw [q1] at s1
      refine ⟨g, by rw [if_neg (by simp)]; exact h, Sm.refl, ?_⟩
      rw [st_X6_expr_48]
      simp (disch := omega) only [st_X6_expr_49, st_X6_expr_52, st_X6_expr_55, st_X6_expr_56, st_X6_expr_61, st_X6_expr_92, st_X6_expr_58 (p := 1) hq_1 ps_, nn_l600, show i < 600 by omega, if_true, s1, b01, cond_false, bC_inl, Option.toList, List.cons_append, List.nil_append, Nat.add_zero, Nat.reduceAdd]
theorem k_exb (hdep : dep < 6) (hp1 : kP b n (D + 12) M_X6_both [some (.ref 1), some (.int (Int32.ofNat dep)), none] (pBoth b n rc)) : kP b n (D + 13) M_X6_expr [some (.ref 1), some (.int (Int32.ofNat dep)), none] (pExB b n rc) := by
  intro σ g t cn sn h
  obtain ⟨g1, c1, m1, e1⟩ := hp1 σ g t 0 0 h
  obtain ⟨g2, c2, m2, e2⟩ := k_exb_l (t := t) (cn := cn) (sn := sn) (dep := dep) hp1 600 0 (by omega) (pBoth b n rc σ) g1 c1
  have e6 : (Int32.ofNat dep < (6 : Int32)) = True := by rw [show (6 : Int32) = Int32.ofNat 6 from rfl, nn_lt (by omega) (by omega)]; exact eq_true hdep
  rw [show Int32.ofNat 0 = (0 : Int32) from rfl] at e2
  refine ⟨g2, c2, m1.trans m2, Eq.trans ?_ e2⟩
  simp (disch := omega) only [st_X6_expr_0, st_X6_expr_1, st_X6_expr_3, st_X6_expr_41, st_X6_expr_42, st_X6_expr_46, st_X6_expr_47, st_X6_expr_43 (p := 1) hq_1 ps_, e6, if_true, e1, bC_inl, Option.toList, List.nil_append, Nat.add_zero, lc_r, lc_i, lc_n, Nat.reduceAdd]
set_option maxHeartbeats 4000000 in
theorem k_ex0 : kP b n (d + 1) M_X6_expr [some (.ref 1), some (.int (Int32.ofNat 6)), none] (pExpr b n 0) := by
  intro σ g t cn sn h
  have t2 : (g.1 1 6 = 2) = (σ.1 0 = 0 ∧ σ.1 3 = 2) := tok_e (q := 2) (by omega) h (by omega)
  have t1 : (g.1 1 6 = 1) = (σ.1 0 = 0 ∧ σ.1 3 = 1) := tok_e (q := 1) (by omega) h (by omega)
  have s1 := k_isSign (d := d) (t := t) (x := 40) (cn := 0) (sn := 0) h
  obtain ⟨f1, a1, m1, b1⟩ := k_fail (d := d) (t := t) (cn := 0) (sn := 0) (c := 1) h (by omega)
  obtain ⟨f2, a2, m2, b2⟩ := k_fail (d := d) (t := t) (cn := 0) (sn := 0) (c := 2) h (by omega)
  rw [show Int32.ofNat 1 = (1 : Int32) from rfl] at b1
  rw [show Int32.ofNat 2 = (2 : Int32) from rfl] at b2
  have e6 : (Int32.ofNat 6 < (6 : Int32)) = False := eq_false (by decide)
  unfold pExpr mayB
  by_cases h0 : σ.1 0 = 0
  · by_cases h2 : σ.1 3 = 2
    · rw [decide_eq_true h2, Bool.true_or, if_pos rfl]
      refine ⟨f2, a2, m2, ?_⟩
      simp (disch := omega) only [st_X6_expr_0, st_X6_expr_1, st_X6_expr_3, st_X6_expr_6, st_X6_expr_7, st_X6_expr_8, st_X6_expr_11, st_X6_expr_12, st_X6_expr_32, st_X6_expr_33, st_X6_expr_40, st_X6_expr_37 (p := 1) hq_1 ps_, e6, if_false, bM_some, hg_1_6, t2.trans (eq_true ⟨h0, h2⟩), if_true, b2, bC_inl, Option.toList, List.nil_append, Nat.add_zero, Nat.reduceAdd]
    · rw [decide_eq_false h2, Bool.false_or]
      by_cases h1 : σ.1 3 = 1
      · rw [decide_eq_true h1, Bool.true_or, if_pos rfl]
        refine ⟨f2, a2, m2, ?_⟩
        simp (disch := omega) only [st_X6_expr_0, st_X6_expr_1, st_X6_expr_3, st_X6_expr_6, st_X6_expr_7, st_X6_expr_8, st_X6_expr_11, st_X6_expr_12, st_X6_expr_15, st_X6_expr_16, st_X6_expr_19, st_X6_expr_20, st_X6_expr_32, st_X6_expr_33, st_X6_expr_40, st_X6_expr_37 (p := 1) hq_1 ps_, e6, if_false, bM_some, hg_1_6, t2.trans (eq_false (fun z => h2 z.2)), t1.trans (eq_true ⟨h0, h1⟩), if_true, b2, bC_inl, Option.toList, List.nil_append, Nat.add_zero, Nat.reduceAdd]
      · rw [decide_eq_false h1, Bool.false_or]
        cases q1 : pIsS b 40 σ with
        | true =>
          rw [q1] at s1
          rw [if_pos rfl]
          refine ⟨f2, a2, m2, ?_⟩
          simp (disch := omega) only [st_X6_expr_0, st_X6_expr_1, st_X6_expr_3, st_X6_expr_6, st_X6_expr_7, st_X6_expr_8, st_X6_expr_11, st_X6_expr_12, st_X6_expr_15, st_X6_expr_16, st_X6_expr_19, st_X6_expr_20, st_X6_expr_23, st_X6_expr_24, st_X6_expr_29, st_X6_expr_32, st_X6_expr_33, st_X6_expr_40, st_X6_expr_26 (p := 1) hq_1 ps_r, st_X6_expr_37 (p := 1) hq_1 ps_, e6, if_false, bM_some, hg_1_6, t2.trans (eq_false (fun z => h2 z.2)), t1.trans (eq_false (fun z => h1 z.2)), s1, b01, cond_true, nn_one0, b2, bC_inl, Option.toList, List.cons_append, List.nil_append, Nat.add_zero, Nat.reduceAdd]
        | false =>
          rw [q1] at s1
          rw [if_neg (by simp)]
          refine ⟨f1, a1, m1, ?_⟩
          simp (disch := omega) only [st_X6_expr_0, st_X6_expr_1, st_X6_expr_3, st_X6_expr_6, st_X6_expr_7, st_X6_expr_8, st_X6_expr_11, st_X6_expr_12, st_X6_expr_15, st_X6_expr_16, st_X6_expr_19, st_X6_expr_20, st_X6_expr_23, st_X6_expr_24, st_X6_expr_29, st_X6_expr_36, st_X6_expr_40, st_X6_expr_26 (p := 1) hq_1 ps_r, st_X6_expr_37 (p := 1) hq_1 ps_, e6, if_false, bM_some, hg_1_6, t2.trans (eq_false (fun z => h2 z.2)), t1.trans (eq_false (fun z => h1 z.2)), s1, b01, cond_false, if_true, b1, bC_inl, Option.toList, List.cons_append, List.nil_append, Nat.add_zero, Nat.reduceAdd]
  · have q1 : pIsS b 40 σ = false := by unfold pIsS; rw [decide_eq_false h0, Bool.false_and]
    have z1 : ∀ c, pFl c σ = σ := fun c => by unfold pFl; rw [if_neg h0]
    rw [q1] at s1
    rw [z1] at a1 ⊢
    refine ⟨f1, a1, m1, ?_⟩
    simp (disch := omega) only [st_X6_expr_0, st_X6_expr_1, st_X6_expr_3, st_X6_expr_6, st_X6_expr_7, st_X6_expr_8, st_X6_expr_11, st_X6_expr_12, st_X6_expr_15, st_X6_expr_16, st_X6_expr_19, st_X6_expr_20, st_X6_expr_23, st_X6_expr_24, st_X6_expr_29, st_X6_expr_36, st_X6_expr_40, st_X6_expr_26 (p := 1) hq_1 ps_r, st_X6_expr_37 (p := 1) hq_1 ps_, e6, if_false, bM_some, hg_1_6, t2.trans (eq_false (fun z => h0 z.1)), t1.trans (eq_false (fun z => h0 z.1)), s1, b01, cond_false, if_true, b1, bC_inl, Option.toList, List.cons_append, List.nil_append, Nat.add_zero, Nat.reduceAdd]
theorem k_expr : ∀ m dep : Nat, dep + m = 6 → kP b n (d + 14 + 6 * m) M_X6_expr [some (.ref 1), some (.int (Int32.ofNat dep)), none] (pExpr b n m) := by
  intro m
  induction m with
  | zero =>
    intro dep hd
    obtain rfl : dep = 6 := by omega
    exact k_ex0 (d := d + 13)
  | succ m ih =>
    intro dep hd
    have h0 := ih (dep + 1) (by omega)
    have h1 : kP b n ((d + 2 + 6 * m) + 13) M_X6_part [some (.ref 1), some (.int (Int32.ofNat dep)), none] (pPart b n (pExpr b n m)) := by
      intro σ g t cn sn h
      have := k_part (d := d + 6 * m) (t := t) (cn := cn) (sn := sn) (dep := dep) (rc := pExpr b n m) (by
        intro σ g t cn sn h
        have := h0 σ g t cn sn h
        rw [show d + 14 + 6 * m = d + 6 * m + 14 by omega] at this
        exact this) h
      rw [show d + 2 + 6 * m + 13 = d + 6 * m + 15 by omega]
      exact this
    have h2 := k_product (D := d + 2 + 6 * m) (dep := dep) h1
    have h3 := k_sum (D := d + 3 + 6 * m) (dep := dep) (p := pProd b n (pExpr b n m)) (by rw [show d + 3 + 6 * m + 13 = d + 2 + 6 * m + 14 by omega]; exact h2)
    have h4 := k_test (D := d + 5 + 6 * m) (dep := dep) (rc := pExpr b n m) (by rw [show d + 5 + 6 * m + 12 = d + 3 + 6 * m + 14 by omega]; exact h3)
    have h5 := k_both (D := d + 6 + 6 * m) (dep := dep) (rc := pExpr b n m) (by rw [show d + 6 + 6 * m + 12 = d + 5 + 6 * m + 13 by omega]; exact h4)
    have h6 := k_exb (D := d + 7 + 6 * m) (dep := dep) (rc := pExpr b n m) (by omega) (by rw [show d + 7 + 6 * m + 12 = d + 6 + 6 * m + 13 by omega]; exact h5)
    rw [show d + 14 + 6 * (m + 1) = d + 7 + 6 * m + 13 by omega]
    exact h6
end READ6
