/-! ===== the reference: an expression within others; kettles and stoves ===== -/
section MLINE
variable {d D : Nat} {t : List px_E} {g : hG} {n cn sn dep : Nat} {b r q : Rw} {x y : Int32} {σ σ' : Sg} {p rc : Sg → Sg} {c : Nat}
theorem expr_err : ∀ (m : Nat) (σ : Sg), ¬ σ.1 0 = 0 → pExpr b n m σ = σ := by
  intro m
  cases m with
  | zero => intro σ h0; unfold pExpr pFl; rw [if_neg h0]
  | succ m => intro σ h0; exact exb_err h0
set_option maxHeartbeats 8000000 in
theorem j_expr : ∀ m dep : Nat, dep + m = 6 → jP b n q (d + 16 + 6 * m) M_X10_readExpression [some (.ref 49), some (.int (Int32.ofNat dep)), none] (pExpr b n m) := by
  intro m
  induction m with
  | zero =>
    intro dep hd σ g t cn sn h hGi
    obtain rfl : dep = 6 := by omega
    have f0 := bad_e h
    by_cases h0 : σ.1 0 = 0
    · have t2 : (g.1 49 18 = 2) = (σ.1 3 = 2) := tk_e (e := 2) (by omega) h h0
      have t1 : (g.1 49 18 = 1) = (σ.1 3 = 1) := tk_e (e := 1) (by omega) h h0
      have s1 := j_isMarked (d := d + 15) (t := t) (x := 40) (cn := 0) (sn := 0) (by decide) h
      obtain ⟨g1, c1, m1, e1⟩ := j_wrong (d := d + 15) (t := t) (cn := 0) (sn := 0) (c := 1) h (by omega)
      obtain ⟨g2, c2, m2, e2⟩ := j_wrong (d := d + 15) (t := t) (cn := 0) (sn := 0) (c := 2) h (by omega)
      rw [show Int32.ofNat 1 = (1 : Int32) from rfl] at e1
      rw [show Int32.ofNat 2 = (2 : Int32) from rfl] at e2
      have z1 : ¬ (pFl 1 σ).1 0 = 0 := by rw [pFl_0, if_pos h0]; omega
      have z2 : ¬ (pFl 2 σ).1 0 = 0 := by rw [pFl_0, if_pos h0]; omega
      have fin : ∀ (σ' : Sg) (g' : hG) (yy : Int32), MQr b n q σ' g' → ¬ σ'.1 0 = 0 → bc (d + 16) M_X10_readExpression none 62 [some (.ref 49), some (.int (Int32.ofNat 6)), some (.int yy)] [] (hp t g') cn sn = some (.inl none, hp t g', cn, sn) := by
        intro σ' g' yy hc hz
        have ea := e_And (d := d) (t := t) (y := Int32.ofNat 6) (cn := 0) (sn := 0) hc hz
        have eo := e_is (d := d + 3) (t := t) (cn := 0) (sn := 0) tx_49 (by decide) asc_or hc hz
        simp (disch := omega) only [st_X10_readExpression_62, st_X10_readExpression_63, st_X10_readExpression_64 (p := 49) hq_49 ps_, ea, bC_inl, Option.toList, List.nil_append, Nat.add_zero, Nat.reduceAdd]
        rw [st_X10_readExpression_67]
        simp (disch := omega) only [st_X10_readExpression_68, st_X10_readExpression_74, st_X10_readExpression_95, st_X10_readExpression_71 (p := 49) hq_49 ps_, eo, if_true, bC_inl, Option.toList, List.cons_append, List.nil_append, Nat.add_zero, Nat.reduceAdd]
      unfold pExpr mayB
      by_cases h2 : σ.1 3 = 2
      · rw [decide_eq_true h2, Bool.true_or, if_pos rfl]
        refine ⟨g2, c2, m2, Eq.trans ?_ (fin _ g2 1 c2 z2)⟩
        simp (disch := omega) only [st_X10_readExpression_0, st_X10_readExpression_1, st_X10_readExpression_4, st_X10_readExpression_8, st_X10_readExpression_9, st_X10_readExpression_12, st_X10_readExpression_13, st_X10_readExpression_33, st_X10_readExpression_34, st_X10_readExpression_38, st_X10_readExpression_39, st_X10_readExpression_40, st_X10_readExpression_51, st_X10_readExpression_52, st_X10_readExpression_54, st_X10_readExpression_57, st_X10_readExpression_58, st_X10_readExpression_59 (p := 49) hq_49 ps_, bM_some, hg_49_22, hg_49_18, f0.trans (eq_true h0), t2.trans (eq_true h2), show (Int32.ofNat 6 = 6) = True from eq_true rfl, nn_one0, if_true, if_false, e2, bC_inl, Option.toList, List.nil_append, Nat.add_zero, lc_r, lc_i, lc_n, Nat.reduceAdd]
      · rw [decide_eq_false h2, Bool.false_or]
        by_cases h1 : σ.1 3 = 1
        · rw [decide_eq_true h1, Bool.true_or, if_pos rfl]
          refine ⟨g2, c2, m2, Eq.trans ?_ (fin _ g2 1 c2 z2)⟩
          simp (disch := omega) only [st_X10_readExpression_0, st_X10_readExpression_1, st_X10_readExpression_4, st_X10_readExpression_8, st_X10_readExpression_9, st_X10_readExpression_12, st_X10_readExpression_13, st_X10_readExpression_16, st_X10_readExpression_17, st_X10_readExpression_20, st_X10_readExpression_21, st_X10_readExpression_33, st_X10_readExpression_34, st_X10_readExpression_38, st_X10_readExpression_39, st_X10_readExpression_40, st_X10_readExpression_51, st_X10_readExpression_52, st_X10_readExpression_54, st_X10_readExpression_57, st_X10_readExpression_58, st_X10_readExpression_59 (p := 49) hq_49 ps_, bM_some, hg_49_22, hg_49_18, f0.trans (eq_true h0), t2.trans (eq_false h2), t1.trans (eq_true h1), show (Int32.ofNat 6 = 6) = True from eq_true rfl, nn_one0, if_true, if_false, e2, bC_inl, Option.toList, List.nil_append, Nat.add_zero, lc_r, lc_i, lc_n, Nat.reduceAdd]
        · rw [decide_eq_false h1, Bool.false_or]
          cases q1 : pIsS b 40 σ with
          | true =>
            rw [q1] at s1
            rw [if_pos rfl]
            refine ⟨g2, c2, m2, Eq.trans ?_ (fin _ g2 1 c2 z2)⟩
            simp (disch := omega) only [st_X10_readExpression_0, st_X10_readExpression_1, st_X10_readExpression_4, st_X10_readExpression_8, st_X10_readExpression_9, st_X10_readExpression_12, st_X10_readExpression_13, st_X10_readExpression_16, st_X10_readExpression_17, st_X10_readExpression_20, st_X10_readExpression_21, st_X10_readExpression_24, st_X10_readExpression_25, st_X10_readExpression_30, st_X10_readExpression_33, st_X10_readExpression_34, st_X10_readExpression_38, st_X10_readExpression_39, st_X10_readExpression_40, st_X10_readExpression_51, st_X10_readExpression_52, st_X10_readExpression_54, st_X10_readExpression_57, st_X10_readExpression_58, st_X10_readExpression_27 (p := 49) hq_49 ps_, st_X10_readExpression_59 (p := 49) hq_49 ps_, bM_some, hg_49_22, hg_49_18, f0.trans (eq_true h0), t2.trans (eq_false h2), t1.trans (eq_false h1), s1, b01, cond_true, show (Int32.ofNat 6 = 6) = True from eq_true rfl, nn_one0, if_true, if_false, e2, bC_inl, Option.toList, List.cons_append, List.nil_append, Nat.add_zero, lc_r, lc_i, lc_n, Nat.reduceAdd]
          | false =>
            rw [q1] at s1
            rw [if_neg (by simp)]
            refine ⟨g1, c1, m1, Eq.trans ?_ (fin _ g1 0 c1 z1)⟩
            simp (disch := omega) only [st_X10_readExpression_0, st_X10_readExpression_1, st_X10_readExpression_4, st_X10_readExpression_8, st_X10_readExpression_9, st_X10_readExpression_12, st_X10_readExpression_13, st_X10_readExpression_16, st_X10_readExpression_17, st_X10_readExpression_20, st_X10_readExpression_21, st_X10_readExpression_24, st_X10_readExpression_25, st_X10_readExpression_30, st_X10_readExpression_37, st_X10_readExpression_38, st_X10_readExpression_39, st_X10_readExpression_40, st_X10_readExpression_43, st_X10_readExpression_44, st_X10_readExpression_48, st_X10_readExpression_27 (p := 49) hq_49 ps_, st_X10_readExpression_45 (p := 49) hq_49 ps_, bM_some, hg_49_22, hg_49_18, f0.trans (eq_true h0), t2.trans (eq_false h2), t1.trans (eq_false h1), s1, b01, cond_false, if_true, if_false, e1, bC_inl, Option.toList, List.cons_append, List.nil_append, Nat.add_zero, lc_r, lc_i, lc_n, Nat.reduceAdd]
    · rw [expr_err 0 σ h0]
      refine ⟨g, h, SmM.refl, ?_⟩
      simp (disch := omega) only [st_X10_readExpression_0, st_X10_readExpression_1, st_X10_readExpression_4, st_X10_readExpression_7, bM_some, hg_49_22, f0.trans (eq_false h0), if_false, Nat.reduceAdd]
  | succ m ih =>
    intro dep hd
    have h0' := ih (dep + 1) (by omega)
    have hpx : PX b n (pExpr b n m) 0 0 := PX_expr m
    have h1 : jP b n q ((d + 4 + 6 * m) + 13) M_X10_readPart [some (.ref 49), some (.int (Int32.ofNat dep)), none] (pPart b n (pExpr b n m)) := by
      have := j_part (d := d + 2 + 6 * m) (dep := dep) (rc := pExpr b n m) (q := q) (b := b) (n := n) (by rw [show d + 2 + 6 * m + 14 = d + 16 + 6 * m by omega]; exact h0') (expr_err m)
      rw [show d + 4 + 6 * m + 13 = d + 2 + 6 * m + 15 by omega]
      exact this
    have h2 := j_Product (D := d + 4 + 6 * m) (dep := dep) h1 (PX_part hpx)
    have h3 := j_Sum (D := d + 5 + 6 * m) (dep := dep) (p := pProd b n (pExpr b n m)) (by rw [show d + 5 + 6 * m + 13 = d + 4 + 6 * m + 14 by omega]; exact h2) (PX_prod hpx)
    have h4 := j_not (D := d + 7 + 6 * m) (dep := dep) (rc := pExpr b n m) (by rw [show d + 7 + 6 * m + 12 = d + 5 + 6 * m + 14 by omega]; exact h3) hpx
    have h5 := j_and (D := d + 8 + 6 * m) (dep := dep) (rc := pExpr b n m) (by rw [show d + 8 + 6 * m + 12 = d + 7 + 6 * m + 13 by omega]; exact h4) hpx
    intro σ g t cn sn h hGi
    have f0 := bad_e h
    rw [show d + 16 + 6 * (m + 1) = (d + 9 + 6 * m) + 13 by omega]
    have h6 : jP b n q ((d + 9 + 6 * m) + 12) M_X10_readAnd [some (.ref 49), some (.int (Int32.ofNat dep))] (pBoth b n (pExpr b n m)) := by rw [show d + 9 + 6 * m + 12 = d + 8 + 6 * m + 13 by omega]; exact h5
    have e6 : (Int32.ofNat dep = (6 : Int32)) = False := by rw [show (6 : Int32) = Int32.ofNat 6 from rfl, nn_inj (by omega) (by omega)]; exact eq_false (by omega)
    by_cases h0 : σ.1 0 = 0
    · have t2 : (g.1 49 18 = 2) = (σ.1 3 = 2) := tk_e (e := 2) (by omega) h h0
      have t1 : (g.1 49 18 = 1) = (σ.1 3 = 1) := tk_e (e := 1) (by omega) h h0
      have s1 := j_isMarked (d := d + 9 + 6 * m + 12) (t := t) (x := 40) (cn := 0) (sn := 0) (by decide) h
      show ∃ g' : hG, MQr b n q (pExB b n (pExpr b n m) σ) g' ∧ _
      by_cases hm : mayB b σ = true
      · obtain ⟨g1, c1, m1, e1⟩ := h6 σ g t 0 0 h hGi
        obtain ⟨pw, pg⟩ := PX_both hpx σ h.2.1
        obtain ⟨g2, c2, m2, e2⟩ := j_or_l (a2 := some (.int 1)) (t := t) (cn := cn) (sn := sn) (dep := dep) h6 (PX_both hpx) 600 _ g1 c1 (GI_gn pg hGi) (fun _ => by have := h.2.1.1; omega)
        refine ⟨g2, c2, m1.trans m2, Eq.trans ?_ e2⟩
        unfold mayB at hm
        by_cases h2 : σ.1 3 = 2
        · simp (disch := omega) only [st_X10_readExpression_0, st_X10_readExpression_1, st_X10_readExpression_4, st_X10_readExpression_8, st_X10_readExpression_9, st_X10_readExpression_12, st_X10_readExpression_13, st_X10_readExpression_33, st_X10_readExpression_34, st_X10_readExpression_38, st_X10_readExpression_39, st_X10_readExpression_40, st_X10_readExpression_51, st_X10_readExpression_52, st_X10_readExpression_54, st_X10_readExpression_62, st_X10_readExpression_63, st_X10_readExpression_64 (p := 49) hq_49 ps_, bM_some, hg_49_22, hg_49_18, f0.trans (eq_true h0), t2.trans (eq_true h2), e6, nn_one0, if_true, if_false, e1, bC_inl, Option.toList, List.nil_append, Nat.add_zero, lc_r, lc_i, lc_n, Nat.reduceAdd]
        · by_cases h1 : σ.1 3 = 1
          · simp (disch := omega) only [st_X10_readExpression_0, st_X10_readExpression_1, st_X10_readExpression_4, st_X10_readExpression_8, st_X10_readExpression_9, st_X10_readExpression_12, st_X10_readExpression_13, st_X10_readExpression_16, st_X10_readExpression_17, st_X10_readExpression_20, st_X10_readExpression_21, st_X10_readExpression_33, st_X10_readExpression_34, st_X10_readExpression_38, st_X10_readExpression_39, st_X10_readExpression_40, st_X10_readExpression_51, st_X10_readExpression_52, st_X10_readExpression_54, st_X10_readExpression_62, st_X10_readExpression_63, st_X10_readExpression_64 (p := 49) hq_49 ps_, bM_some, hg_49_22, hg_49_18, f0.trans (eq_true h0), t2.trans (eq_false h2), t1.trans (eq_true h1), e6, nn_one0, if_true, if_false, e1, bC_inl, Option.toList, List.nil_append, Nat.add_zero, lc_r, lc_i, lc_n, Nat.reduceAdd]
          · rw [decide_eq_false h2, decide_eq_false h1, Bool.false_or, Bool.false_or] at hm
            rw [hm] at s1
            simp (disch := omega) only [st_X10_readExpression_0, st_X10_readExpression_1, st_X10_readExpression_4, st_X10_readExpression_8, st_X10_readExpression_9, st_X10_readExpression_12, st_X10_readExpression_13, st_X10_readExpression_16, st_X10_readExpression_17, st_X10_readExpression_20, st_X10_readExpression_21, st_X10_readExpression_24, st_X10_readExpression_25, st_X10_readExpression_30, st_X10_readExpression_33, st_X10_readExpression_34, st_X10_readExpression_38, st_X10_readExpression_39, st_X10_readExpression_40, st_X10_readExpression_51, st_X10_readExpression_52, st_X10_readExpression_54, st_X10_readExpression_62, st_X10_readExpression_63, st_X10_readExpression_27 (p := 49) hq_49 ps_, st_X10_readExpression_64 (p := 49) hq_49 ps_, bM_some, hg_49_22, hg_49_18, f0.trans (eq_true h0), t2.trans (eq_false h2), t1.trans (eq_false h1), s1, b01, cond_true, e6, nn_one0, if_true, if_false, e1, bC_inl, Option.toList, List.cons_append, List.nil_append, Nat.add_zero, lc_r, lc_i, lc_n, Nat.reduceAdd]
      · have hm' := Bool.eq_false_iff.mpr hm
        rw [ex_no h0 hm']
        obtain ⟨g1, c1, m1, e1⟩ := j_wrong (d := d + 9 + 6 * m + 12) (t := t) (cn := 0) (sn := 0) (c := 1) h (by omega)
        rw [show Int32.ofNat 1 = (1 : Int32) from rfl] at e1
        have z1 : ¬ (pFl 1 σ).1 0 = 0 := by rw [pFl_0, if_pos h0]; omega
        have ea := e_And (d := d + 6 + 6 * m) (t := t) (y := Int32.ofNat dep) (cn := 0) (sn := 0) c1 z1
        rw [show d + 6 + 6 * m + 15 = d + 9 + 6 * m + 12 by omega] at ea
        have eo := e_is (d := d + 9 + 6 * m) (t := t) (cn := 0) (sn := 0) tx_49 (by decide) asc_or c1 z1
        unfold mayB at hm'
        rw [Bool.or_eq_false_iff, Bool.or_eq_false_iff, decide_eq_false_iff_not, decide_eq_false_iff_not] at hm'
        rw [hm'.2.2] at s1
        refine ⟨g1, c1, m1, ?_⟩
        simp (disch := omega) only [st_X10_readExpression_0, st_X10_readExpression_1, st_X10_readExpression_4, st_X10_readExpression_8, st_X10_readExpression_9, st_X10_readExpression_12, st_X10_readExpression_13, st_X10_readExpression_16, st_X10_readExpression_17, st_X10_readExpression_20, st_X10_readExpression_21, st_X10_readExpression_24, st_X10_readExpression_25, st_X10_readExpression_30, st_X10_readExpression_37, st_X10_readExpression_38, st_X10_readExpression_39, st_X10_readExpression_40, st_X10_readExpression_43, st_X10_readExpression_44, st_X10_readExpression_48, st_X10_readExpression_62, st_X10_readExpression_63, st_X10_readExpression_27 (p := 49) hq_49 ps_, st_X10_readExpression_45 (p := 49) hq_49 ps_, st_X10_readExpression_64 (p := 49) hq_49 ps_, bM_some, hg_49_22, hg_49_18, f0.trans (eq_true h0), t2.trans (eq_false hm'.1), t1.trans (eq_false hm'.2.1), s1, b01, cond_false, if_true, if_false, e1, ea, bC_inl, Option.toList, List.cons_append, List.nil_append, Nat.add_zero, lc_r, lc_i, lc_n, Nat.reduceAdd]
        rw [st_X10_readExpression_67]
        simp (disch := omega) only [st_X10_readExpression_68, st_X10_readExpression_74, st_X10_readExpression_95, st_X10_readExpression_71 (p := 49) hq_49 ps_, eo, if_true, bC_inl, Option.toList, List.cons_append, List.nil_append, Nat.add_zero, Nat.reduceAdd]
    · rw [expr_err (m + 1) σ h0]
      refine ⟨g, h, SmM.refl, ?_⟩
      simp (disch := omega) only [st_X10_readExpression_0, st_X10_readExpression_1, st_X10_readExpression_4, st_X10_readExpression_7, bM_some, hg_49_22, f0.trans (eq_false h0), if_false, Nat.reduceAdd]
theorem j_advF (h : MQr b n q σ g) (h0 : σ.1 0 = 0) : ∃ g' : hG, (∀ c, ¬ c = 49 → g'.1 c = g.1 c) ∧ MQr b n q (pAdv b n σ) g' ∧ SmM g g' ∧ bc (d + 1) M_X10_stepOn none 0 [some (.ref 49), none] [] (hp t g) cn sn = some (.inl none, hp t g', cn, sn) := by
  obtain ⟨r', q1, q2⟩ := m_step (d := d) (t := t) (g := g) (r := g.1 49) (cn := cn) (sn := sn) h.1 h.2.1 h0 h.2.2.1
  rw [hR_self] at q2
  exact ⟨hR g 49 r', fun c hc => by rw [hR_oth hc], MQr_tok h (WF_adv h.2.1) q1 pAdv_K (fun i h1 h2 => pAdv_o (by omega)) (fun z => by rw [pAdv_0] at z; exact z), SmM_r, q2⟩
theorem j_wrongF (h : MQr b n q σ g) (hc : 1 ≤ c ∧ c ≤ 5) : ∃ g' : hG, (∀ c, ¬ c = 49 → g'.1 c = g.1 c) ∧ MQr b n q (pFl c σ) g' ∧ SmM g g' ∧ bc d M_X10_wrong none 0 [some (.ref 49), some (.int (Int32.ofNat c))] [] (hp t g) cn sn = some (.inl none, hp t g', cn, sn) := by
  obtain ⟨r', q1, q2⟩ := m_wrong (d := d) (t := t) (g := g) (r := g.1 49) (cn := cn) (sn := sn) (c := c) h.2.1 h.2.2.1 hc
  rw [hR_self] at q2
  exact ⟨hR g 49 r', fun c hc => by rw [hR_oth hc], MQr_tok h (pFl_WF h.2.1 hc) q1 pFl_K (fun i h1 h2 => pFl_o (by omega)) (fun z => by rw [pFl_0] at z; split at z <;> omega), SmM_r, q2⟩
set_option maxHeartbeats 2000000 in
theorem j_another0 (h : MQr b n q σ g) (h0 : σ.1 0 = 0) : ∃ g' : hG, (∀ c, ¬ c = 49 → g'.1 c = g.1 c) ∧ SmM g g' ∧ ((σ.1 6 < 8 ∧ MQr b n q (pAdv b n σ) g' ∧ bc (d + 2) M_X10_another none 0 [some (.ref 49), some (.int 0), some (.int 8)] [] (hp t g) cn sn = some (.inl (some (.int 1)), hp t g', cn, sn)) ∨ (¬ σ.1 6 < 8 ∧ MQr b n q (pFl 2 σ) g' ∧ bc (d + 2) M_X10_another none 0 [some (.ref 49), some (.int 0), some (.int 8)] [] (hp t g) cn sn = some (.inl (some (.int 0)), hp t g', cn, sn))) := by
  have f0 := bad_e h
  have hd := h.2.2.2.2 h0
  have et : g.1 52 4 = Int32.ofNat (σ.1 6) := by
    obtain ⟨⟨a1, a2, a3, a4⟩, -⟩ := h.2.2.2.1 h0
    first | exact a1 | exact a2 | exact a3
  have en : (Int32.ofNat (σ.1 6) = (8 : Int32)) = (σ.1 6 = 8) := nn_inj (b := 8) (by omega) (by omega)
  have ei : (4 : Int32) + 0 = 4 := by decide
  have ec : (4 : Int32).toNatClampNeg = 4 := by decide
  have eo : px_out 4 8 = false := by decide
  by_cases hlt : σ.1 6 < 8
  · obtain ⟨g1, w1, c1, m1, e1⟩ := j_advF (d := d) (t := t) (cn := 0) (sn := 0) h h0
    refine ⟨g1, w1, m1, Or.inl ⟨hlt, c1, ?_⟩⟩
    simp (disch := omega) only [st_X10_another_0, st_X10_another_1, st_X10_another_4, st_X10_another_5, st_X10_another_6, st_X10_another_7, st_X10_another_8, st_X10_another_9, st_X10_another_17, st_X10_another_18, st_X10_another_21, st_X10_another_26, st_X10_another_30, st_X10_another_31b, st_X10_another_27 (p := 49) hq_49 ps_, bM_some, hg_49_3, hg_49_22, ha_52, ei, ec, eo, cond_false, et, en.trans (eq_false (by omega)), if_false, f0.trans (eq_true h0), if_true, e1, bC_inl, Option.toList, List.nil_append, Nat.add_zero, Nat.reduceAdd]
  · obtain ⟨g1, w1, c1, m1, e1⟩ := j_wrongF (d := d + 1) (t := t) (cn := 0) (sn := 0) (c := 2) h (by omega)
    rw [show Int32.ofNat 2 = (2 : Int32) from rfl] at e1
    have f1 := bad_e c1
    have z1 : ¬ (pFl 2 σ).1 0 = 0 := by rw [pFl_0, if_pos h0]; omega
    refine ⟨g1, w1, m1, Or.inr ⟨hlt, c1, ?_⟩⟩
    simp (disch := omega) only [st_X10_another_0, st_X10_another_1, st_X10_another_4, st_X10_another_5, st_X10_another_6, st_X10_another_7, st_X10_another_8, st_X10_another_9, st_X10_another_12, st_X10_another_13, st_X10_another_17, st_X10_another_18, st_X10_another_21, st_X10_another_24, st_X10_another_25, st_X10_another_14 (p := 49) hq_49 ps_, bM_some, hg_49_3, hg_49_22, ha_52, ei, ec, eo, cond_false, et, en.trans (eq_true (by omega)), if_true, f1.trans (eq_false z1), if_false, e1, bC_inl, Option.toList, List.nil_append, Nat.add_zero, Nat.reduceAdd]
set_option maxHeartbeats 2000000 in
theorem j_another1 (h : MQr b n q σ g) (h0 : σ.1 0 = 0) : ∃ g' : hG, (∀ c, ¬ c = 49 → g'.1 c = g.1 c) ∧ SmM g g' ∧ ((σ.1 7 < 4 ∧ MQr b n q (pAdv b n σ) g' ∧ bc (d + 2) M_X10_another none 0 [some (.ref 49), some (.int 1), some (.int 4)] [] (hp t g) cn sn = some (.inl (some (.int 1)), hp t g', cn, sn)) ∨ (¬ σ.1 7 < 4 ∧ MQr b n q (pFl 2 σ) g' ∧ bc (d + 2) M_X10_another none 0 [some (.ref 49), some (.int 1), some (.int 4)] [] (hp t g) cn sn = some (.inl (some (.int 0)), hp t g', cn, sn))) := by
  have f0 := bad_e h
  have hd := h.2.2.2.2 h0
  have et : g.1 52 5 = Int32.ofNat (σ.1 7) := by
    obtain ⟨⟨a1, a2, a3, a4⟩, -⟩ := h.2.2.2.1 h0
    first | exact a1 | exact a2 | exact a3
  have en : (Int32.ofNat (σ.1 7) = (4 : Int32)) = (σ.1 7 = 4) := nn_inj (b := 4) (by omega) (by omega)
  have ei : (4 : Int32) + 1 = 5 := by decide
  have ec : (5 : Int32).toNatClampNeg = 5 := by decide
  have eo : px_out 5 8 = false := by decide
  by_cases hlt : σ.1 7 < 4
  · obtain ⟨g1, w1, c1, m1, e1⟩ := j_advF (d := d) (t := t) (cn := 0) (sn := 0) h h0
    refine ⟨g1, w1, m1, Or.inl ⟨hlt, c1, ?_⟩⟩
    simp (disch := omega) only [st_X10_another_0, st_X10_another_1, st_X10_another_4, st_X10_another_5, st_X10_another_6, st_X10_another_7, st_X10_another_8, st_X10_another_9, st_X10_another_17, st_X10_another_18, st_X10_another_21, st_X10_another_26, st_X10_another_30, st_X10_another_31b, st_X10_another_27 (p := 49) hq_49 ps_, bM_some, hg_49_3, hg_49_22, ha_52, ei, ec, eo, cond_false, et, en.trans (eq_false (by omega)), if_false, f0.trans (eq_true h0), if_true, e1, bC_inl, Option.toList, List.nil_append, Nat.add_zero, Nat.reduceAdd]
  · obtain ⟨g1, w1, c1, m1, e1⟩ := j_wrongF (d := d + 1) (t := t) (cn := 0) (sn := 0) (c := 2) h (by omega)
    rw [show Int32.ofNat 2 = (2 : Int32) from rfl] at e1
    have f1 := bad_e c1
    have z1 : ¬ (pFl 2 σ).1 0 = 0 := by rw [pFl_0, if_pos h0]; omega
    refine ⟨g1, w1, m1, Or.inr ⟨hlt, c1, ?_⟩⟩
    simp (disch := omega) only [st_X10_another_0, st_X10_another_1, st_X10_another_4, st_X10_another_5, st_X10_another_6, st_X10_another_7, st_X10_another_8, st_X10_another_9, st_X10_another_12, st_X10_another_13, st_X10_another_17, st_X10_another_18, st_X10_another_21, st_X10_another_24, st_X10_another_25, st_X10_another_14 (p := 49) hq_49 ps_, bM_some, hg_49_3, hg_49_22, ha_52, ei, ec, eo, cond_false, et, en.trans (eq_true (by omega)), if_true, f1.trans (eq_false z1), if_false, e1, bC_inl, Option.toList, List.nil_append, Nat.add_zero, Nat.reduceAdd]
set_option maxHeartbeats 2000000 in
theorem j_another2 (h : MQr b n q σ g) (h0 : σ.1 0 = 0) : ∃ g' : hG, (∀ c, ¬ c = 49 → g'.1 c = g.1 c) ∧ SmM g g' ∧ ((σ.1 8 < 5 ∧ MQr b n q (pAdv b n σ) g' ∧ bc (d + 2) M_X10_another none 0 [some (.ref 49), some (.int 2), some (.int 5)] [] (hp t g) cn sn = some (.inl (some (.int 1)), hp t g', cn, sn)) ∨ (¬ σ.1 8 < 5 ∧ MQr b n q (pFl 2 σ) g' ∧ bc (d + 2) M_X10_another none 0 [some (.ref 49), some (.int 2), some (.int 5)] [] (hp t g) cn sn = some (.inl (some (.int 0)), hp t g', cn, sn))) := by
  have f0 := bad_e h
  have hd := h.2.2.2.2 h0
  have et : g.1 52 6 = Int32.ofNat (σ.1 8) := by
    obtain ⟨⟨a1, a2, a3, a4⟩, -⟩ := h.2.2.2.1 h0
    first | exact a1 | exact a2 | exact a3
  have en : (Int32.ofNat (σ.1 8) = (5 : Int32)) = (σ.1 8 = 5) := nn_inj (b := 5) (by omega) (by omega)
  have ei : (4 : Int32) + 2 = 6 := by decide
  have ec : (6 : Int32).toNatClampNeg = 6 := by decide
  have eo : px_out 6 8 = false := by decide
  by_cases hlt : σ.1 8 < 5
  · obtain ⟨g1, w1, c1, m1, e1⟩ := j_advF (d := d) (t := t) (cn := 0) (sn := 0) h h0
    refine ⟨g1, w1, m1, Or.inl ⟨hlt, c1, ?_⟩⟩
    simp (disch := omega) only [st_X10_another_0, st_X10_another_1, st_X10_another_4, st_X10_another_5, st_X10_another_6, st_X10_another_7, st_X10_another_8, st_X10_another_9, st_X10_another_17, st_X10_another_18, st_X10_another_21, st_X10_another_26, st_X10_another_30, st_X10_another_31b, st_X10_another_27 (p := 49) hq_49 ps_, bM_some, hg_49_3, hg_49_22, ha_52, ei, ec, eo, cond_false, et, en.trans (eq_false (by omega)), if_false, f0.trans (eq_true h0), if_true, e1, bC_inl, Option.toList, List.nil_append, Nat.add_zero, Nat.reduceAdd]
  · obtain ⟨g1, w1, c1, m1, e1⟩ := j_wrongF (d := d + 1) (t := t) (cn := 0) (sn := 0) (c := 2) h (by omega)
    rw [show Int32.ofNat 2 = (2 : Int32) from rfl] at e1
    have f1 := bad_e c1
    have z1 : ¬ (pFl 2 σ).1 0 = 0 := by rw [pFl_0, if_pos h0]; omega
    refine ⟨g1, w1, m1, Or.inr ⟨hlt, c1, ?_⟩⟩
    simp (disch := omega) only [st_X10_another_0, st_X10_another_1, st_X10_another_4, st_X10_another_5, st_X10_another_6, st_X10_another_7, st_X10_another_8, st_X10_another_9, st_X10_another_12, st_X10_another_13, st_X10_another_17, st_X10_another_18, st_X10_another_21, st_X10_another_24, st_X10_another_25, st_X10_another_14 (p := 49) hq_49 ps_, bM_some, hg_49_3, hg_49_22, ha_52, ei, ec, eo, cond_false, et, en.trans (eq_true (by omega)), if_true, f1.trans (eq_false z1), if_false, e1, bC_inl, Option.toList, List.nil_append, Nat.add_zero, Nat.reduceAdd]
/-- a value of the kettle, stove or dish that is being read -/
theorem MQr_w {cc i ii m : Nat} (hcc : (cc = 59 ∧ i = 5 + σ.1 8 ∧ ii = σ.1 8 ∧ c = 6) ∨ (cc = 60 ∧ c = 7 ∧ m < 3 ∧ i = 3 * (5 + σ.1 8) + m ∧ ii = σ.1 8 * 3 + m) ∨ (53 ≤ cc ∧ cc ≤ 57 ∧ i = 8 + σ.1 6 ∧ ii = σ.1 6 ∧ c + 53 = cc) ∨ (cc = 58 ∧ i = 4 + σ.1 7 ∧ ii = σ.1 7 ∧ c = 5)) (h : MQr b n q σ g) : MQr b n q (sK σ c ii x) (hI g cc i x) := by
  obtain ⟨h1, h2, h3, h4, h5⟩ := h
  have o : ∀ c' j, ¬ (c' = cc ∧ j = i) → (hI g cc i x).1 c' j = g.1 c' j := fun c' j hh => by rw [hI_at, if_neg hh]
  have k : ∀ c' j, ¬ (c' = c ∧ j = ii) → (sK σ c ii x).2 c' j = σ.2 c' j := fun c' j hh => if_neg hh
  refine ⟨by rw [show (hI g cc i x).1 63 = g.1 63 from funext fun j => o 63 j (by omega)]; exact h1, h2, by rw [show (hI g cc i x).1 49 = g.1 49 from funext fun j => o 49 j (by omega)]; exact h3, fun z => ?_, h5⟩
  obtain ⟨⟨a1, a2, a3, a4⟩, b1, b2, b3, b4⟩ := h4 z
  refine ⟨⟨by rw [o _ _ (by omega)]; exact a1, by rw [o _ _ (by omega)]; exact a2, by rw [o _ _ (by omega)]; exact a3, by rw [o _ _ (by omega)]; exact a4⟩, fun j hj => ?_, fun j hj => ?_, fun j hj => ?_, fun j hj => ?_⟩
  · have hj' : j < σ.1 6 := hj
    obtain ⟨p1, p2, p3, p4, p5⟩ := b1 j hj'
    rw [o _ _ (by omega), o _ _ (by omega), o _ _ (by omega), o _ _ (by omega), o _ _ (by omega), k _ _ (by omega), k _ _ (by omega), k _ _ (by omega), k _ _ (by omega), k _ _ (by omega)]
    exact ⟨p1, p2, p3, p4, p5⟩
  · have hj' : j < σ.1 7 := hj
    rw [o _ _ (by omega), k _ _ (by omega)]
    exact b2 j hj'
  · have hj' : j < σ.1 8 := hj
    obtain ⟨p1, p2⟩ := b3 j hj'
    unfold stpN
    rw [o _ _ (by omega), k _ _ (by omega)]
    refine ⟨p1, fun i' h3' hi' => ?_⟩
    rw [o _ _ (by omega), k _ _ (by omega)]
    exact p2 i' h3' hi'
  · have hj' : j < σ.1 9 := hj
    rw [o _ _ (by omega), k _ _ (by omega)]
    exact b4 j hj'
end MLINE
