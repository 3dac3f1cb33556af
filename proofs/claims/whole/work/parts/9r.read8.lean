/-! ===== the Reader: a whole text ===== -/
section READ8
variable {d D : Nat} {t : List px_E} {g : hG} {n cn sn dd : Nat} {b : Rw} {σ : Sg} {x : Int32}
theorem pStp_o {i : Nat} (hi : 6 ≤ i) : (pStp b n dd σ).1 i = σ.1 i := by
  unfold pStp
  repeat' split
  · exact pFl_o (by omega)
  · exact pFl_o (by omega)
  · rw [pAdv_o (by omega)]; rfl
  · exact pNeed_o (by omega)
  · rfl
theorem loopW_o {T : Sg → Bool} {B : Sg → Sg} {i : Nat} (hB : ∀ σ, (B σ).1 i = σ.1 i) : ∀ (f : Nat) (σ : Sg), (loopW T B f σ).1 i = σ.1 i := by
  intro f
  induction f with
  | zero => intro σ; rfl
  | succ f ih =>
    intro σ
    unfold loopW
    split
    · rw [ih, hB]
    · rfl
def SI (dd : Nat) (σ : Sg) : Prop := σ.1 0 = 0 → ∃ M : Nat, σ.2 6 dd = Int32.ofNat M ∧ M ≤ 3
theorem pStp_SI (h : SI dd σ) : SI dd (pStp b n dd σ) := by
  intro z
  unfold pStp at z ⊢
  split at z
  · next h0 =>
    rw [if_pos h0]
    obtain ⟨M, hM, hM3⟩ := h h0
    have eS : stpN dd σ = M := by unfold stpN; rw [hM, nn_clamp (by omega)]
    rw [eS] at z ⊢
    split at z
    · rw [pFl_0, if_pos h0] at z; omega
    · next hc =>
      rw [if_neg hc]
      split at z
      · next hn =>
        rw [if_pos hn]
        have h32 : σ.1 3 = 2 := by
          apply Classical.byContradiction
          intro y
          unfold pNeed at hn
          rw [if_pos h0, if_neg y, pFl_0, if_pos h0] at hn
          omega
        split at z
        · rw [pFl_0, if_pos h0] at z; omega
        · next hb =>
          rw [if_neg hb, pAdv_K]
          refine ⟨M + 1, ?_, by omega⟩
          show (if (6 : Nat) = 6 ∧ dd = dd then Int32.ofNat (M + 1) else _) = _
          rw [if_pos ⟨rfl, rfl⟩]
      · next hn => exact absurd z hn
  · next h0 => exact absurd z h0
set_option maxHeartbeats 4000000 in
theorem dl_l (hd : dd < 5) : ∀ f i : Nat, i + f = 600 → ∀ (σ : Sg) (g : hG), CR b n σ g → SI dd σ → ∃ (g' : hG) (b2 : Option Value), CR b n (loopW isNm (pStp b n dd) f σ) g' ∧ Sm g g' ∧
    bc (d + 3) M_X6_dishLine none 40 [some (.ref 1), some (.int (Int32.ofNat dd)), some (.int (Int32.ofNat i))] [] (hp t g) cn sn =
    bc (d + 3) M_X6_dishLine none 73 [some (.ref 1), some (.int (Int32.ofNat dd)), b2] [] (hp t g') cn sn := by
  intro f
  induction f with
  | zero =>
    intro i hi σ g h hs
    refine ⟨g, some (.int (Int32.ofNat i)), h, Sm.refl, ?_⟩
    rw [st_X6_dishLine_40]
    simp (disch := omega) only [st_X6_dishLine_41, st_X6_dishLine_44, nn_l600, show ¬ i < 600 by omega, if_false, Nat.reduceAdd]
  | succ f ih =>
    intro i hi σ g h hs
    have t2 : (g.1 1 6 = 2) = (σ.1 0 = 0 ∧ σ.1 3 = 2) := tok_e (q := 2) (by omega) h (by omega)
    have f0 := flt_e h
    unfold loopW
    unfold isNm
    by_cases h0 : σ.1 0 = 0
    · by_cases h2 : σ.1 3 = 2
      · rw [decide_eq_true h0, decide_eq_true h2, Bool.and_self, if_pos rfl]
        obtain ⟨M, hM, hM3⟩ := hs h0
        obtain ⟨g1, c1, m1, e1⟩ := k_step (d := d) (t := t) (cn := 0) (sn := 0) h h0 hd hM hM3
        obtain ⟨g2, b2, c2, m2, e2⟩ := ih (i + 1) (by omega) _ g1 c1 (pStp_SI hs)
        refine ⟨g2, b2, c2, m1.trans m2, ?_⟩
        rw [← e2, st_X6_dishLine_40]
        simp (disch := omega) only [st_X6_dishLine_41, st_X6_dishLine_44, st_X6_dishLine_47, st_X6_dishLine_48, st_X6_dishLine_51, st_X6_dishLine_54, st_X6_dishLine_55, st_X6_dishLine_58, st_X6_dishLine_59, st_X6_dishLine_62, st_X6_dishLine_63, st_X6_dishLine_67, st_X6_dishLine_70, st_X6_dishLine_64 (p := 1) hq_1 ps_, nn_l600, show i < 600 by omega, if_true, bM_some, hg_1_10, hg_1_6, f0.trans (eq_true h0), t2.trans (eq_true ⟨h0, h2⟩), e1, bC_inl, Option.toList, List.nil_append, Nat.add_zero, lc_r, lc_i, nn_r1, Nat.reduceAdd]
      · rw [decide_eq_false h2, Bool.and_false, if_neg (by simp)]
        refine ⟨g, some (.int (Int32.ofNat i)), h, Sm.refl, ?_⟩
        rw [st_X6_dishLine_40]
        simp (disch := omega) only [st_X6_dishLine_41, st_X6_dishLine_44, st_X6_dishLine_47, st_X6_dishLine_48, st_X6_dishLine_51, st_X6_dishLine_54, st_X6_dishLine_55, st_X6_dishLine_58, st_X6_dishLine_59, nn_l600, show i < 600 by omega, if_true, if_false, bM_some, hg_1_10, hg_1_6, f0.trans (eq_true h0), t2.trans (eq_false (fun z => h2 z.2)), Nat.reduceAdd]
    · rw [decide_eq_false h0, Bool.false_and, if_neg (by simp)]
      refine ⟨g, some (.int (Int32.ofNat i)), h, Sm.refl, ?_⟩
      rw [st_X6_dishLine_40]
      simp (disch := omega) only [st_X6_dishLine_41, st_X6_dishLine_44, st_X6_dishLine_47, st_X6_dishLine_48, st_X6_dishLine_51, nn_l600, show i < 600 by omega, if_true, if_false, bM_some, hg_1_10, f0.trans (eq_false h0), Nat.reduceAdd]
set_option maxHeartbeats 4000000 in
theorem k_dishLine (h : CR b n σ g) (h0 : σ.1 0 = 0) : ∃ g' : hG, CR b n (pDsh b n σ) g' ∧ Sm g g' ∧ bc (d + 3) M_X6_dishLine none 0 [some (.ref 1), none, none] [] (hp t g) cn sn = some (.inl none, hp t g', cn, sn) := by
  have eN : g.1 3 12 = Int32.ofNat (σ.1 8) := (h.2.2.2.1.2 h0).1.2.2.1
  have dN := (h.2.2.2.2 h0).2.2.1
  unfold pDsh
  by_cases h8 : σ.1 8 < 5
  · rw [if_pos h8]
    dsimp only
    obtain ⟨g1, c1, m1, e1⟩ := k_adv (d := d + 1) (t := t) (cn := 0) (sn := 0) h
    have c2 := CR_k10 (i := σ.1 8) (x := 0) c1
    have h0' : (sK (pAdv b n σ) 6 (σ.1 8) 0).1 0 = 0 := by rw [sK_1, pAdv_0]; exact h0
    have hK0 : (sK (pAdv b n σ) 6 (σ.1 8) 0).2 6 (σ.1 8) = Int32.ofNat 0 := by
      show (if (6 : Nat) = 6 ∧ σ.1 8 = σ.1 8 then (0 : Int32) else _) = _
      rw [if_pos ⟨rfl, rfl⟩]; rfl
    obtain ⟨g3, c3, m3, e3⟩ := k_step (d := d) (t := t) (cn := 0) (sn := 0) c2 h0' h8 hK0 (by omega)
    have hSI : SI (σ.1 8) (pStp b n (σ.1 8) (sK (pAdv b n σ) 6 (σ.1 8) 0)) := pStp_SI (fun _ => ⟨0, hK0, by omega⟩)
    obtain ⟨g4, b2, c4, m4, e4⟩ := dl_l (d := d) (t := t) (cn := cn) (sn := sn) h8 600 0 (by omega) _ g3 c3 hSI
    rw [show Int32.ofNat 0 = (0 : Int32) from rfl] at e4
    have e6 : (loopW isNm (pStp b n (σ.1 8)) 600 (pStp b n (σ.1 8) (sK (pAdv b n σ) 6 (σ.1 8) 0))).1 8 = σ.1 8 := by
      rw [loopW_o (fun s => pStp_o (by omega)), pStp_o (by omega), sK_1]
      exact pAdv_o (by omega)
    have c5 := CR_D c4 (fun _ => by rw [e6]; omega)
    rw [e6] at c5
    refine ⟨_, c5, m1.trans ((Sm_i (by omega)).trans (m3.trans (m4.trans (Sm_i (by omega))))), ?_⟩
    simp (disch := omega) only [st_X6_dishLine_0, st_X6_dishLine_1, st_X6_dishLine_4, st_X6_dishLine_7, st_X6_dishLine_8, st_X6_dishLine_9, st_X6_dishLine_10, st_X6_dishLine_19, st_X6_dishLine_23, st_X6_dishLine_24, st_X6_dishLine_27, st_X6_dishLine_30, st_X6_dishLine_31, st_X6_dishLine_32, st_X6_dishLine_33, st_X6_dishLine_34, st_X6_dishLine_38, st_X6_dishLine_39, st_X6_dishLine_20 (p := 1) hq_1 ps_, st_X6_dishLine_35 (p := 1) hq_1 ps_, bM_some, hg_1_1, hg_3_6, hg_3_12, hw_10, eN, nn_l5, h8, if_true, e1, e3, nn_out, nn_clamp, cond_false, bC_inl, Option.toList, List.nil_append, Nat.add_zero, lc_r, lc_i, lc_n, Nat.reduceAdd]
    refine Eq.trans e4 ?_
    simp (disch := omega) only [st_X6_dishLine_73, st_X6_dishLine_74, st_X6_dishLine_78, st_X6_dishLine_81, st_X6_dishLine_82, st_X6_dishLine_83, st_X6_dishLine_86, st_X6_dishLine_77r, bM_some, hg_1_1, hg_3_12, hs_3_12, Nat.reduceAdd]
  · rw [if_neg h8]
    obtain ⟨g1, c1, m1, e1⟩ := k_fail (d := d + 2) (t := t) (cn := 0) (sn := 0) (c := 2) h (by omega)
    rw [show Int32.ofNat 2 = (2 : Int32) from rfl] at e1
    refine ⟨g1, c1, m1, ?_⟩
    simp (disch := omega) only [st_X6_dishLine_0, st_X6_dishLine_1, st_X6_dishLine_4, st_X6_dishLine_7, st_X6_dishLine_8, st_X6_dishLine_9, st_X6_dishLine_10, st_X6_dishLine_13, st_X6_dishLine_14, st_X6_dishLine_18, st_X6_dishLine_15 (p := 1) hq_1 ps_, bM_some, hg_1_1, hg_3_12, eN, nn_l5, h8, if_false, e1, bC_inl, Option.toList, List.nil_append, Nat.add_zero, lc_r, lc_i, lc_n, Nat.reduceAdd]
theorem CR_rule (h : CR b n σ g) : CR b n (sN σ 10 1) (hI g 1 9 1) := by
  obtain ⟨h1, h2, h3, h4, h5⟩ := h
  refine ⟨h1, ⟨h2.1, h2.2.1, fun z => ?_⟩, ⟨h3.1, h3.2.1, h3.2.2.1, h3.2.2.2.1, fun z => ?_⟩, h4, h5⟩
  · obtain ⟨w1, w2, w3, w4, w5, w6⟩ := h2.2.2 z
    exact ⟨w1, w2, w3, w4, w5, Nat.le_refl 1⟩
  · obtain ⟨o3, o5, o6, o7, o8, o9⟩ := h3.2.2.2.2 z
    exact ⟨o3, o5, o6, o7, o8, rfl⟩
set_option maxHeartbeats 4000000 in
theorem k_liftsLine (h : CR b n σ g) (h0 : σ.1 0 = 0) : ∃ g' : hG, CR b n (pLif b n σ) g' ∧ Sm g g' ∧ bc (d + 51) M_X6_liftsLine none 0 [some (.ref 1)] [] (hp t g) cn sn = some (.inl none, hp t g', cn, sn) := by
  have e9 : g.1 1 9 = Int32.ofNat (σ.1 10) := (h.2.2.1.2.2.2.2 h0).2.2.2.2.2
  have w10 := (h.2.1.2.2 h0).2.2.2.2.2
  unfold pLif
  rw [if_pos h0]
  by_cases h10 : σ.1 10 = 0
  · rw [if_pos h10]
    have c1 := CR_rule h
    obtain ⟨g2, c2, m2, e2⟩ := k_adv (d := d + 49) (t := t) (cn := 0) (sn := 0) c1
    obtain ⟨g3, c3, m3, e3⟩ := k_expr (b := b) (n := n) (d := d) 6 0 (by omega) _ g2 t 0 0 c2
    rw [show d + 14 + 6 * 6 = d + 50 by omega, show Int32.ofNat 0 = (0 : Int32) from rfl] at e3
    refine ⟨g3, c3, (Sm_i (by omega)).trans (m2.trans m3), ?_⟩
    simp (disch := omega) only [st_X6_liftsLine_0, st_X6_liftsLine_1, st_X6_liftsLine_4, st_X6_liftsLine_13, st_X6_liftsLine_14, st_X6_liftsLine_15, st_X6_liftsLine_18, st_X6_liftsLine_22, st_X6_liftsLine_23, st_X6_liftsLine_27, st_X6_liftsLine_19 (p := 1) hq_1 ps_, st_X6_liftsLine_24 (p := 1) hq_1 ps_, bM_some, hg_1_9, hs_1_9_1, e9, h10, show (Int32.ofNat 0 = 0) = True from eq_true rfl, if_true, e2, e3, bC_inl, Option.toList, List.nil_append, Nat.add_zero, Nat.reduceAdd]
  · rw [if_neg h10]
    obtain ⟨g1, c1, m1, e1⟩ := k_fail (d := d + 50) (t := t) (cn := 0) (sn := 0) (c := 5) h (by omega)
    rw [show Int32.ofNat 5 = (5 : Int32) from rfl] at e1
    have ez : (Int32.ofNat (σ.1 10) = 0) = False := by rw [nn_e0 (by omega)]; exact eq_false h10
    refine ⟨g1, c1, m1, ?_⟩
    simp (disch := omega) only [st_X6_liftsLine_0, st_X6_liftsLine_1, st_X6_liftsLine_4, st_X6_liftsLine_7, st_X6_liftsLine_8, st_X6_liftsLine_12, st_X6_liftsLine_9 (p := 1) hq_1 ps_, bM_some, hg_1_9, e9, ez, if_false, e1, bC_inl, Option.toList, List.nil_append, Nat.add_zero, Nat.reduceAdd]
set_option maxHeartbeats 4000000 in
theorem k_line (h : CR b n σ g) (h0 : σ.1 0 = 0) : ∃ g' : hG, CR b n (pLin b n σ) g' ∧ Sm g g' ∧ bc (d + 52) M_X6_line none 0 [some (.ref 1), none] [] (hp t g) cn sn = some (.inl none, hp t g', cn, sn) := by
  have ek := k_kettleWord (d := d + 38) (t := t) (cn := 0) (sn := 0) h
  have s1 := k_isWord (d := d + 39) (t := t) (cn := 0) (sn := 0) tx_19 (by decide) h
  have s2 := k_isWord (d := d + 39) (t := t) (cn := 0) (sn := 0) tx_20 (by decide) h
  have s3 := k_isWord (d := d + 39) (t := t) (cn := 0) (sn := 0) tx_21 (by decide) h
  unfold pLin
  cases hk : whW b σ wKin 0 with
  | some kd =>
    rw [hk] at ek
    have hk4 : kd < 4 := by have := whW_lt wKin 0 hk; exact (by simpa [wKin] using this)
    obtain ⟨g1, c1, m1, e1⟩ := k_kettleLine (d := d + 48) (t := t) (cn := 0) (sn := 0) (kd := kd) h h0
    refine ⟨g1, c1, m1, ?_⟩
    simp (disch := omega) only [st_X6_line_0, st_X6_line_4, st_X6_line_5, st_X6_line_6, st_X6_line_7, st_X6_line_10, st_X6_line_11, st_X6_line_15, st_X6_line_71, st_X6_line_1 (p := 1) hq_1 ps_, st_X6_line_12 (p := 1) hq_1 ps_, ek, wI, nn_nneg, if_false, e1, bC_inl, Option.toList, List.cons_append, List.nil_append, Nat.add_zero, lc_r, lc_i, lc_n, Nat.reduceAdd]
  | none =>
    rw [hk] at ek
    dsimp only
    cases q1 : pIsW b wSto σ with
    | true =>
      rw [q1] at s1
      obtain ⟨g1, c1, m1, e1⟩ := k_stoveLine (d := d + 48) (t := t) (cn := 0) (sn := 0) h h0
      refine ⟨g1, by rw [if_pos rfl]; exact c1, m1, ?_⟩
      simp (disch := omega) only [st_X6_line_0, st_X6_line_4, st_X6_line_5, st_X6_line_6, st_X6_line_7, st_X6_line_18, st_X6_line_19, st_X6_line_24, st_X6_line_27, st_X6_line_31, st_X6_line_71, st_X6_line_1 (p := 1) hq_1 ps_, st_X6_line_21 (p := 1) hq_1 ps_, st_X6_line_28 (p := 1) hq_1 ps_, ek, wI, if_true, s1, b01, cond_true, nn_one0, if_false, e1, bC_inl, Option.toList, List.cons_append, List.nil_append, Nat.add_zero, lc_r, lc_i, lc_n, Nat.reduceAdd]
    | false =>
      rw [q1] at s1
      rw [if_neg (by simp)]
      cases q2 : pIsW b wDis σ with
      | true =>
        rw [q2] at s2
        obtain ⟨g1, c1, m1, e1⟩ := k_dishLine (d := d + 48) (t := t) (cn := 0) (sn := 0) h h0
        refine ⟨g1, by rw [if_pos rfl]; exact c1, m1, ?_⟩
        simp (disch := omega) only [st_X6_line_0, st_X6_line_4, st_X6_line_5, st_X6_line_6, st_X6_line_7, st_X6_line_18, st_X6_line_19, st_X6_line_24, st_X6_line_34, st_X6_line_35, st_X6_line_40, st_X6_line_43, st_X6_line_47, st_X6_line_71, st_X6_line_1 (p := 1) hq_1 ps_, st_X6_line_21 (p := 1) hq_1 ps_, st_X6_line_37 (p := 1) hq_1 ps_, st_X6_line_44 (p := 1) hq_1 ps_, ek, wI, if_true, s1, s2, b01, cond_true, cond_false, nn_one0, if_false, e1, bC_inl, Option.toList, List.cons_append, List.nil_append, Nat.add_zero, lc_r, lc_i, lc_n, Nat.reduceAdd]
      | false =>
        rw [q2] at s2
        rw [if_neg (by simp)]
        cases q3 : pIsW b wLif σ with
        | true =>
          rw [q3] at s3
          obtain ⟨g1, c1, m1, e1⟩ := k_liftsLine (d := d) (t := t) (cn := 0) (sn := 0) h h0
          refine ⟨g1, by rw [if_pos rfl]; exact c1, m1, ?_⟩
          simp (disch := omega) only [st_X6_line_0, st_X6_line_4, st_X6_line_5, st_X6_line_6, st_X6_line_7, st_X6_line_18, st_X6_line_19, st_X6_line_24, st_X6_line_34, st_X6_line_35, st_X6_line_40, st_X6_line_50, st_X6_line_51, st_X6_line_56, st_X6_line_59, st_X6_line_63, st_X6_line_71, st_X6_line_1 (p := 1) hq_1 ps_, st_X6_line_21 (p := 1) hq_1 ps_, st_X6_line_37 (p := 1) hq_1 ps_, st_X6_line_53 (p := 1) hq_1 ps_, st_X6_line_60 (p := 1) hq_1 ps_, ek, wI, if_true, s1, s2, s3, b01, cond_true, cond_false, nn_one0, if_false, e1, bC_inl, Option.toList, List.cons_append, List.nil_append, Nat.add_zero, lc_r, lc_i, lc_n, Nat.reduceAdd]
        | false =>
          rw [q3] at s3
          obtain ⟨g1, c1, m1, e1⟩ := k_fail (d := d + 51) (t := t) (cn := 0) (sn := 0) (c := 1) h (by omega)
          rw [show Int32.ofNat 1 = (1 : Int32) from rfl] at e1
          refine ⟨g1, by rw [if_neg (by simp)]; exact c1, m1, ?_⟩
          simp (disch := omega) only [st_X6_line_0, st_X6_line_4, st_X6_line_5, st_X6_line_6, st_X6_line_7, st_X6_line_18, st_X6_line_19, st_X6_line_24, st_X6_line_34, st_X6_line_35, st_X6_line_40, st_X6_line_50, st_X6_line_51, st_X6_line_56, st_X6_line_66, st_X6_line_67, st_X6_line_71, st_X6_line_1 (p := 1) hq_1 ps_, st_X6_line_21 (p := 1) hq_1 ps_, st_X6_line_37 (p := 1) hq_1 ps_, st_X6_line_53 (p := 1) hq_1 ps_, st_X6_line_68 (p := 1) hq_1 ps_, ek, wI, if_true, s1, s2, s3, b01, cond_false, e1, bC_inl, Option.toList, List.cons_append, List.nil_append, Nat.add_zero, lc_r, lc_i, lc_n, Nat.reduceAdd]
set_option maxHeartbeats 4000000 in
theorem rd_l : ∀ f i : Nat, i + f = 600 → ∀ (σ : Sg) (g : hG), CR b n σ g → ∃ g' : hG, CR b n (loopW isMo (pBod b n) f σ) g' ∧ Sm g g' ∧
    bc (d + 53) M_X6_read none 50 [some (.ref 1), some (.int x), some (.int (Int32.ofNat i))] [] (hp t g) cn sn = some (.inl (some (.int (Int32.ofNat ((loopW isMo (pBod b n) f σ).1 0)))), hp t g', cn, sn) := by
  intro f
  induction f with
  | zero =>
    intro i hi σ g h
    have f0 : g.1 1 10 = Int32.ofNat (σ.1 0) := h.2.2.1.2.2.1
    refine ⟨g, h, Sm.refl, ?_⟩
    rw [st_X6_read_50]
    simp (disch := omega) only [st_X6_read_51, st_X6_read_54, st_X6_read_87, st_X6_read_88, st_X6_read_91, nn_l600, show ¬ i < 600 by omega, if_false, bM_some, hg_1_10, f0, loopW, Nat.reduceAdd]
  | succ f ih =>
    intro i hi σ g h
    have f0 : g.1 1 10 = Int32.ofNat (σ.1 0) := h.2.2.1.2.2.1
    have fe := flt_e h
    unfold loopW
    unfold isMo
    by_cases h0 : σ.1 0 = 0
    · have t0 : (g.1 1 6 = 0) = (σ.1 3 = 0) := by
        rw [(h.2.2.1.2.2.2.2 h0).2.2.1, nn_e0]
        rw [(h.2.1.2.2 h0).2.2.1]
        have := sor_le (b := b) (n := n) (i := σ.1 2)
        omega
      by_cases h3 : σ.1 3 = 0
      · rw [decide_eq_true h0, decide_eq_true h3, Bool.not_true, Bool.and_false, if_neg (by simp)]
        refine ⟨g, h, Sm.refl, ?_⟩
        rw [st_X6_read_50]
        simp (disch := omega) only [st_X6_read_51, st_X6_read_54, st_X6_read_57, st_X6_read_58, st_X6_read_61, st_X6_read_64, st_X6_read_65, st_X6_read_68, st_X6_read_87, st_X6_read_88, st_X6_read_91, nn_l600, show i < 600 by omega, if_true, bM_some, hg_1_10, hg_1_6, fe.trans (eq_true h0), t0.trans (eq_true h3), Nat.reduceAdd]
        rw [f0]
      · rw [decide_eq_true h0, decide_eq_false h3, Bool.not_false, Bool.and_self, if_pos rfl]
        obtain ⟨g1, c1, m1, e1⟩ := k_line (d := d) (t := t) (cn := 0) (sn := 0) h h0
        obtain ⟨g2, c2, m2, e2⟩ := k_expect (d := d + 50) (t := t) (x := 59) (cn := 0) (sn := 0) c1
        obtain ⟨g3, c3, m3, e3⟩ := ih (i + 1) (by omega) _ g2 c2
        refine ⟨g3, c3, m1.trans (m2.trans m3), ?_⟩
        rw [show pEx b n 59 (pLin b n σ) = pBod b n σ from rfl] at e3
        refine Eq.trans ?_ e3
        rw [st_X6_read_50]
        simp (disch := omega) only [st_X6_read_51, st_X6_read_54, st_X6_read_57, st_X6_read_58, st_X6_read_61, st_X6_read_64, st_X6_read_65, st_X6_read_68, st_X6_read_71, st_X6_read_75, st_X6_read_76, st_X6_read_81, st_X6_read_84, st_X6_read_72 (p := 1) hq_1 ps_, st_X6_read_78 (p := 1) hq_1 ps_, nn_l600, show i < 600 by omega, if_true, if_false, bM_some, hg_1_10, hg_1_6, fe.trans (eq_true h0), t0.trans (eq_false h3), e1, e2, bC_inl, Option.toList, List.nil_append, Nat.add_zero, lc_r, lc_i, nn_r1, Nat.reduceAdd]
    · rw [decide_eq_false h0, Bool.false_and, if_neg (by simp)]
      refine ⟨g, h, Sm.refl, ?_⟩
      rw [st_X6_read_50]
      simp (disch := omega) only [st_X6_read_51, st_X6_read_54, st_X6_read_57, st_X6_read_58, st_X6_read_61, st_X6_read_87, st_X6_read_88, st_X6_read_91, nn_l600, show i < 600 by omega, if_true, if_false, bM_some, hg_1_10, fe.trans (eq_false h0), Nat.reduceAdd]
      rw [f0]
/-- the draft's rows -/
def dC (g : hG) : Kt := fun c => match c with
  | 0 => g.1 4
  | 1 => g.1 5
  | 2 => g.1 6
  | 3 => g.1 7
  | 4 => g.1 8
  | 5 => g.1 9
  | 6 => g.1 10
  | 7 => g.1 11
  | 8 => g.1 13
  | _ => fun _ => 0
def sg0 (K : Kt) : Sg := (fun _ => 0, K)
set_option maxHeartbeats 8000000 in
theorem c_read {T : Nat} (hT : g.1 1 2 = Int32.ofNat T) (hT6 : T ≤ 600) (hn : n ≤ T) : ∃ g' : hG, CR (g.1 2) n (pRead (g.1 2) n (sg0 (dC g))) g' ∧ Sm g g' ∧
    bc (d + 53) M_X6_read none 0 [some (.ref 1), some (.int (Int32.ofNat n)), none] [] (hp t g) cn sn = some (.inl (some (.int (Int32.ofNat ((pRead (g.1 2) n (sg0 (dC g))).1 0)))), hp t g', cn, sn) := by
  have em : px_min (Int32.ofNat n) (Int32.ofNat T) = Int32.ofNat n := by rw [nn_min (by omega) (by omega), Nat.min_eq_left hn]
  -- the cells cleared
  have ecl : ∀ (gg : hG) (cn sn : Nat), bc (d + 52) M_X4_clear none 0 [some (.ref 3)] [] (hp t gg) cn sn = some (.inl none, hp t (hI (hI (hI (hI gg 3 10 0) 3 11 0) 3 12 0) 12 2 0), cn, sn) := by
    intro gg cn sn
    simp (disch := omega) only [st_X4_clear_0, st_X4_clear_1, st_X4_clear_2, st_X4_clear_5, st_X4_clear_6, st_X4_clear_7, st_X4_clear_10, st_X4_clear_11, st_X4_clear_12, st_X4_clear_15, st_X4_clear_16, st_X4_clear_19, st_X4_clear_20, st_X4_clear_23, bM_some, hs_3_10, hs_3_11, hs_3_12, hg_3_8, hs_12_2, Nat.reduceAdd]
  generalize hG1 : hI (hI (hI (hI (hI (hI (hI (hI (hI (hI g 1 4 (Int32.ofNat n)) 1 2 0) 1 5 0) 1 10 0) 1 3 (-1)) 1 9 0) 3 10 0) 3 11 0) 3 12 0) 12 2 0 = G1
  have r2 : G1.1 1 2 = 0 := by rw [← hG1]; rfl
  have r4 : G1.1 1 4 = Int32.ofNat n := by rw [← hG1]; rfl
  have r10 : G1.1 1 10 = 0 := by rw [← hG1]; rfl
  have r3 : G1.1 1 3 = -1 := by rw [← hG1]; rfl
  have r5 : G1.1 1 5 = Int32.ofNat ((sg0 (dC g)).1 4) := by rw [← hG1]; rfl
  have r9 : G1.1 1 9 = Int32.ofNat ((sg0 (dC g)).1 10) := by rw [← hG1]; rfl
  have rb : G1.1 2 = g.1 2 := by rw [← hG1]; rfl
  obtain ⟨r', a1, a2⟩ := c_adv0 (d := d + 51) (t := t) (g := G1) (r := G1.1 1) (σ := sg0 (dC g)) (cn := 0) (sn := 0) (by omega) rfl (Nat.zero_le n) r2 r4 r10 r3 r5 r9
  rw [hR_self] at a2
  rw [rb] at a1
  have hc : CR (g.1 2) n (pAdv (g.1 2) n (sg0 (dC g))) (hR G1 1 r') := by
    refine ⟨rb, pAdv_WF (by omega) (Nat.zero_le 5) (fun _ => ⟨Nat.zero_le n, Nat.zero_le 1⟩), a1, ⟨⟨0, by omega, by rw [← hG1]; rfl⟩, fun _ => ?_⟩, fun _ => ?_⟩
    · rw [pAdv_o (i := 6) (by omega), pAdv_o (i := 7) (by omega), pAdv_o (i := 8) (by omega), pAdv_o (i := 9) (by omega), pAdv_K, ← hG1]
      exact ⟨⟨rfl, rfl, rfl, rfl⟩, rfl, rfl, rfl, rfl, rfl, rfl, rfl, rfl, rfl⟩
    · rw [pAdv_o (i := 6) (by omega), pAdv_o (i := 7) (by omega), pAdv_o (i := 8) (by omega), pAdv_o (i := 9) (by omega)]
      exact ⟨Nat.zero_le 8, Nat.zero_le 4, Nat.zero_le 5, Nat.zero_le 600⟩
  have hm : Sm g (hR G1 1 r') := by
    refine ⟨by rw [← hG1]; rfl, fun c hcc => ?_⟩
    rw [hR_oth (by omega), ← hG1]
    funext j
    simp only [hI_at]
    (repeat' split) <;> first | rfl | (exfalso; omega)
  obtain ⟨g2, c2, m2, e2⟩ := rd_l (d := d) (t := t) (cn := cn) (sn := sn) (x := Int32.ofNat n) 600 0 (by omega) _ _ hc
  rw [show Int32.ofNat 0 = (0 : Int32) from rfl] at e2
  refine ⟨g2, c2, hm.trans m2, Eq.trans ?_ e2⟩
  simp (disch := omega) only [st_X6_read_0, st_X6_read_1, st_X6_read_2, st_X6_read_3, st_X6_read_6, st_X6_read_9, st_X6_read_12, st_X6_read_13, st_X6_read_14, st_X6_read_17, st_X6_read_18, st_X6_read_19, st_X6_read_22, st_X6_read_23, st_X6_read_24, st_X6_read_27, st_X6_read_28, st_X6_read_29, st_X6_read_32, st_X6_read_33, st_X6_read_34, st_X6_read_37, st_X6_read_38, st_X6_read_44, st_X6_read_48, st_X6_read_49, st_X6_read_41 (p := 3) hq_3 ps_, st_X6_read_45 (p := 1) hq_1 ps_, bM_some, bP_some, m2_r, hg_1_1, hg_1_2, hs_1_2, hs_1_3, hs_1_4, hs_1_5, hs_1_9_0, hs_1_10, hT, em, ecl, hG1, a2, bC_inl, Option.toList, List.cons_append, List.nil_append, Nat.add_zero, lc_r, lc_i, lc_n, Nat.reduceAdd]
end READ8
