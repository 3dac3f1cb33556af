/-! ===== the reference: dishes ===== -/
section MDISH
variable {d D : Nat} {t : List px_E} {g : hG} {n cn sn dep : Nat} {b r q : Rw} {x y : Int32} {σ σ' : Sg} {c N M : Nat} {a2 a3 a4 : Option Value}
theorem nn_3m {i : Nat} (hd : D < 10) (hi : i < 10) : (3 : Int32) * Int32.ofNat (5 + D) + Int32.ofNat i = Int32.ofNat (3 * (5 + D) + i) := by
  rw [show (3 : Int32) = Int32.ofNat 3 from rfl, ← Int32.ofNat_mul, ← Int32.ofNat_add]
/-- the dish under way -/
def DI (D : Nat) (σ : Sg) (g : hG) : Prop := ∃ M : Nat, M ≤ 3 ∧ σ.2 6 D = Int32.ofNat M ∧ g.1 59 (5 + D) = Int32.ofNat M ∧ ∀ i, i < M → g.1 60 (3 * (5 + D) + i) = σ.2 7 (D * 3 + i)
set_option maxHeartbeats 4000000 in
theorem jd_l (hD : D < 5) (hM3 : M ≤ 3) (h59 : g.1 59 (5 + D) = Int32.ofNat M) (h60 : ∀ i, i < M → g.1 60 (3 * (5 + D) + i) = σ.2 7 (D * 3 + i)) (h : MQr b n q σ g) (h0 : σ.1 0 = 0) : ∀ m i : Nat, i + m = M →
    ((hasB D σ m i = true ∧ ∃ g' : hG, MQr b n q (pFl 4 σ) g' ∧ SmM g g' ∧ bc (d + 3) M_X10_readDish none 84 [some (.ref 49), some (.int (Int32.ofNat (5 + D))), some (.int x), some (.int (Int32.ofNat (σ.1 5))), some (.int (Int32.ofNat i))] [] (hp t g) cn sn = some (.inl none, hp t g', cn, sn)) ∨
     (hasB D σ m i = false ∧ bc (d + 3) M_X10_readDish none 84 [some (.ref 49), some (.int (Int32.ofNat (5 + D))), some (.int x), some (.int (Int32.ofNat (σ.1 5))), some (.int (Int32.ofNat i))] [] (hp t g) cn sn =
      bc (d + 3) M_X10_readDish none 128 [some (.ref 49), some (.int (Int32.ofNat (5 + D))), some (.int x), some (.int (Int32.ofNat (σ.1 5))), some (.int (Int32.ofNat M))] [] (hp t g) cn sn)) := by
  have f0 := bad_e h
  intro m
  induction m with
  | zero =>
    intro i hi
    refine Or.inr ⟨rfl, ?_⟩
    obtain rfl : i = M := by omega
    rw [st_X10_readDish_84]
    simp (disch := omega) only [st_X10_readDish_85, st_X10_readDish_88, st_X10_readDish_91, st_X10_readDish_93, st_X10_readDish_94, st_X10_readDish_97, st_X10_readDish_98, st_X10_readDish_99, bM_some, hg_49_22, hg_49_10, ha_59, f0.trans (eq_true h0), if_true, h59, nn_out, nn_clamp, cond_false, nn_lt, show ¬ i < i by omega, if_false, Nat.reduceAdd]
  | succ m ih =>
    intro i hi
    unfold hasB
    have r60 := h60 i (by omega)
    by_cases hx : σ.2 7 (D * 3 + i) = Int32.ofNat (σ.1 5)
    · rw [if_pos hx]
      obtain ⟨g1, c1, m1, e1⟩ := j_wrong (d := d + 2) (t := t) (cn := 0) (sn := 0) (c := 4) h (by omega)
      rw [show Int32.ofNat 4 = (4 : Int32) from rfl] at e1
      have f1 := bad_e c1
      have z1 : ¬ (pFl 4 σ).1 0 = 0 := by rw [pFl_0, if_pos h0]; omega
      refine Or.inl ⟨rfl, g1, c1, m1, ?_⟩
      rw [hx] at r60
      rw [st_X10_readDish_84]
      simp (disch := omega) only [st_X10_readDish_85, st_X10_readDish_88, st_X10_readDish_91, st_X10_readDish_93, st_X10_readDish_94, st_X10_readDish_97, st_X10_readDish_98, st_X10_readDish_99, st_X10_readDish_102, st_X10_readDish_103, st_X10_readDish_106, st_X10_readDish_107, st_X10_readDish_108, st_X10_readDish_109, st_X10_readDish_111, st_X10_readDish_112, st_X10_readDish_113, st_X10_readDish_114, st_X10_readDish_117, st_X10_readDish_118, st_X10_readDish_122, st_X10_readDish_125, st_X10_readDish_119 (p := 49) hq_49 ps_, bM_some, hg_49_22, hg_49_10, hg_49_11, ha_59, ha_60, f0.trans (eq_true h0), if_true, h59, nn_out, nn_clamp, cond_false, nn_lt, show i < M by omega, nn_3m, r60, e1, bC_inl, Option.toList, List.nil_append, Nat.add_zero, lc_i, lc_n, nn_r1, Nat.reduceAdd]
      rw [st_X10_readDish_84]
      simp (disch := omega) only [st_X10_readDish_85, st_X10_readDish_88, st_X10_readDish_128, st_X10_readDish_129, st_X10_readDish_132, st_X10_readDish_135, bM_some, hg_49_22, f1.trans (eq_false z1), if_false, Nat.reduceAdd]
    · rw [if_neg hx]
      have hx' : (g.1 60 (3 * (5 + D) + i) = Int32.ofNat (σ.1 5)) = False := eq_false (by rw [r60]; exact hx)
      have e : bc (d + 3) M_X10_readDish none 84 [some (.ref 49), some (.int (Int32.ofNat (5 + D))), some (.int x), some (.int (Int32.ofNat (σ.1 5))), some (.int (Int32.ofNat i))] [] (hp t g) cn sn = bc (d + 3) M_X10_readDish none 84 [some (.ref 49), some (.int (Int32.ofNat (5 + D))), some (.int x), some (.int (Int32.ofNat (σ.1 5))), some (.int (Int32.ofNat (i + 1)))] [] (hp t g) cn sn := by
        rw [st_X10_readDish_84]
        simp (disch := omega) only [st_X10_readDish_85, st_X10_readDish_88, st_X10_readDish_91, st_X10_readDish_93, st_X10_readDish_94, st_X10_readDish_97, st_X10_readDish_98, st_X10_readDish_99, st_X10_readDish_102, st_X10_readDish_103, st_X10_readDish_106, st_X10_readDish_107, st_X10_readDish_108, st_X10_readDish_109, st_X10_readDish_111, st_X10_readDish_112, st_X10_readDish_113, st_X10_readDish_114, st_X10_readDish_122, st_X10_readDish_125, bM_some, hg_49_22, hg_49_10, hg_49_11, ha_59, ha_60, f0.trans (eq_true h0), if_true, h59, nn_out, nn_clamp, cond_false, nn_lt, show i < M by omega, nn_3m, hx', if_false, lc_i, lc_n, nn_r1, Nat.reduceAdd]
      rcases ih (i + 1) (by omega) with ⟨k1, g1, c1, m1, e1⟩ | ⟨k1, e1⟩
      · exact Or.inl ⟨k1, g1, c1, m1, e.trans e1⟩
      · exact Or.inr ⟨k1, e.trans e1⟩
set_option maxHeartbeats 8000000 in
theorem jd_it (hD : D < 5) (hs8 : σ.1 8 = D) (hDI : DI D σ g) (h : MQr b n q σ g) (h0 : σ.1 0 = 0) : ∃ g' : hG, MQr b n q (pStp b n D σ) g' ∧ SmM g g' ∧
    ((¬ (pStp b n D σ).1 0 = 0 ∧ bc (d + 3) M_X10_readDish none 48 [some (.ref 49), some (.int (Int32.ofNat (5 + D))), a2, a3, a4] [] (hp t g) cn sn = some (.inl none, hp t g', cn, sn)) ∨
     ((pStp b n D σ).1 0 = 0 ∧ DI D (pStp b n D σ) g' ∧ gn σ (pStp b n D σ) 1 0 ∧ ∃ a3' a4' : Option Value, bc (d + 3) M_X10_readDish none 48 [some (.ref 49), some (.int (Int32.ofNat (5 + D))), a2, a3, a4] [] (hp t g) cn sn = bc (d + 3) M_X10_readDish none 29 [some (.ref 49), some (.int (Int32.ofNat (5 + D))), some (.int 0), a3', a4'] [] (hp t g') cn sn)) := by
  obtain ⟨M, hM3, hM, h59, h60⟩ := hDI
  have f0 := bad_e h
  have t2 : (g.1 49 18 = 2) = (σ.1 3 = 2) := tk_e (e := 2) (by omega) h h0
  have hst : stpN D σ = M := by unfold stpN; rw [hM]; exact nn_clamp (by omega)
  have e3 : (Int32.ofNat M = (3 : Int32)) = (M = 3) := nn_inj (b := 3) (by omega) (by omega)
  unfold pStp
  rw [if_pos h0, hst]
  by_cases hA : σ.1 3 = 2 ∧ 3 ≤ M
  · rw [if_pos hA]
    obtain ⟨g1, w1, c1, m1, e1⟩ := j_wrongF (d := d + 2) (t := t) (cn := 0) (sn := 0) (c := 2) h (by omega)
    have z1 : ¬ (pFl 2 σ).1 0 = 0 := by rw [pFl_0, if_pos h0]; omega
    obtain ⟨g3, c3, m3, w3, e3'⟩ := j_numNow (d := d + 1) (t := t) (cn := 0) (sn := 0) (lo := 1) (hi := 24) (by omega) (by omega) c1
    rw [need_err z1] at c3
    have f3 := bad_e c3
    rw [show Int32.ofNat 2 = (2 : Int32) from rfl] at e1
    rw [show Int32.ofNat 1 = (1 : Int32) from rfl, show Int32.ofNat 24 = (24 : Int32) from rfl] at e3'
    refine ⟨g3, c3, m1.trans m3, Or.inl ⟨z1, ?_⟩⟩
    simp (disch := omega) only [st_X10_readDish_48, st_X10_readDish_49, st_X10_readDish_50, st_X10_readDish_51, st_X10_readDish_54, st_X10_readDish_55, st_X10_readDish_58, st_X10_readDish_59, st_X10_readDish_62, st_X10_readDish_63, st_X10_readDish_64, st_X10_readDish_65, st_X10_readDish_68, st_X10_readDish_69, st_X10_readDish_73, st_X10_readDish_74, st_X10_readDish_75, st_X10_readDish_80, st_X10_readDish_81, st_X10_readDish_82, st_X10_readDish_70 (p := 49) hq_49 ps_, st_X10_readDish_77 (p := 49) hq_49 ps_, bM_some, hg_49_18, hg_49_10, ha_59, t2.trans (eq_true hA.1), if_true, h59, e3.trans (eq_true (by omega)), nn_out, nn_clamp, cond_false, e1, e3', bC_inl, Option.toList, List.cons_append, List.nil_append, Nat.add_zero, lc_r, lc_i, lc_i, lc_n, Nat.reduceAdd]
    rw [st_X10_readDish_84]
    simp (disch := omega) only [st_X10_readDish_85, st_X10_readDish_88, st_X10_readDish_128, st_X10_readDish_129, st_X10_readDish_132, st_X10_readDish_135, bM_some, hg_49_22, f3.trans (eq_false z1), if_false, Nat.reduceAdd]
  · rw [if_neg hA]
    obtain ⟨g3, c3, m3, w3, e3'⟩ := j_numNow (d := d + 1) (t := t) (cn := 0) (sn := 0) (lo := 1) (hi := 24) (by omega) (by omega) h
    rw [show Int32.ofNat 1 = (1 : Int32) from rfl, show Int32.ofNat 24 = (24 : Int32) from rfl] at e3'
    have f3 := bad_e c3
    have e84 : bc (d + 3) M_X10_readDish none 48 [some (.ref 49), some (.int (Int32.ofNat (5 + D))), a2, a3, a4] [] (hp t g) cn sn = bc (d + 3) M_X10_readDish none 84 [some (.ref 49), some (.int (Int32.ofNat (5 + D))), some (.int 0), some (.int (Int32.ofNat (pNumV 1 24 σ))), some (.int (Int32.ofNat 0))] [] (hp t g3) cn sn := by
      by_cases h3 : σ.1 3 = 2
      · simp (disch := omega) only [st_X10_readDish_48, st_X10_readDish_49, st_X10_readDish_50, st_X10_readDish_51, st_X10_readDish_54, st_X10_readDish_55, st_X10_readDish_58, st_X10_readDish_59, st_X10_readDish_62, st_X10_readDish_63, st_X10_readDish_64, st_X10_readDish_65, st_X10_readDish_73, st_X10_readDish_74, st_X10_readDish_75, st_X10_readDish_80, st_X10_readDish_81, st_X10_readDish_82, st_X10_readDish_77 (p := 49) hq_49 ps_, bM_some, hg_49_18, hg_49_10, ha_59, t2.trans (eq_true h3), if_true, h59, e3.trans (eq_false (by omega)), if_false, nn_out, nn_clamp, cond_false, e3', bC_inl, Option.toList, List.cons_append, List.nil_append, Nat.add_zero, lc_r, lc_i, lc_i, lc_n, Nat.reduceAdd]
        rfl
      · simp (disch := omega) only [st_X10_readDish_48, st_X10_readDish_49, st_X10_readDish_50, st_X10_readDish_51, st_X10_readDish_54, st_X10_readDish_55, st_X10_readDish_73, st_X10_readDish_74, st_X10_readDish_75, st_X10_readDish_80, st_X10_readDish_81, st_X10_readDish_82, st_X10_readDish_77 (p := 49) hq_49 ps_, bM_some, hg_49_18, t2.trans (eq_false h3), if_false, e3', bC_inl, Option.toList, List.cons_append, List.nil_append, Nat.add_zero, lc_r, lc_i, lc_i, lc_n, Nat.reduceAdd]
        rfl
    by_cases hn : (pNeed 1 24 σ).1 0 = 0
    · have hn' := pNeed_c hn
      obtain ⟨-, k3, k4, k5, k6⟩ := need_ok hn
      have ev : pNumV 1 24 σ = σ.1 5 := by unfold pNumV; rw [if_pos hn]
      rw [hn'] at c3 f3
      rw [if_pos hn]
      have q59 : g3.1 59 (5 + D) = Int32.ofNat M := by rw [w3 59 (by omega)]; exact h59
      have q60 : ∀ i, i < M → g3.1 60 (3 * (5 + D) + i) = σ.2 7 (D * 3 + i) := fun i hi => by rw [w3 60 (by omega)]; exact h60 i hi
      rw [ev] at e84
      rcases jd_l (d := d) (t := t) (cn := cn) (sn := sn) (x := 0) hD hM3 q59 q60 c3 h0 M 0 (by omega) with ⟨k1, g4, c4, m4, e4⟩ | ⟨k1, e4⟩
      · rw [if_pos k1]
        exact ⟨g4, c4, m3.trans m4, Or.inl ⟨by rw [pFl_0, if_pos h0]; omega, e84.trans e4⟩⟩
      · rw [if_neg (by rw [k1]; simp), adv_sK, adv_sK]
        obtain ⟨g5, w5, c5, m5, e5⟩ := j_advF (d := d + 1) (t := t) (cn := 0) (sn := 0) c3 h0
        have n5 : (pAdv b n σ).1 8 = D := by rw [pAdv_o (by omega)]; exact hs8
        have hM2 : M < 3 := by omega
        have c6 := MQr_w (cc := 60) (c := 7) (i := 3 * (5 + D) + M) (ii := D * 3 + M) (m := M) (x := Int32.ofNat (σ.1 5)) (Or.inr (Or.inl ⟨rfl, rfl, hM2, by rw [n5], by rw [n5]⟩)) c5
        have c7 := MQr_w (cc := 59) (c := 6) (i := 5 + D) (ii := D) (m := 0) (x := Int32.ofNat (M + 1)) (Or.inl ⟨rfl, by rw [← n5]; rfl, by rw [← n5]; rfl, rfl⟩) c6
        have r5 : g5.1 59 (5 + D) = Int32.ofNat M := by rw [w5 59 (by omega)]; exact q59
        have r6 : (hI g5 60 (3 * (5 + D) + M) (Int32.ofNat (σ.1 5))).1 59 (5 + D) = Int32.ofNat M := by rw [hI_ne (by omega)]; exact r5
        refine ⟨_, c7, m3.trans (m5.trans ((SmM_i (by omega)).trans (SmM_i (by omega)))), Or.inr ⟨?_, ?_, ?_, some (.int (Int32.ofNat (σ.1 5))), some (.int (Int32.ofNat M)), ?_⟩⟩
        · show (pAdv b n σ).1 0 = 0
          rw [pAdv_0]; exact h0
        · refine ⟨M + 1, by omega, sK_at, hI_eq, fun i hi => ?_⟩
          rw [hI_ne (by omega), sK_ne (by omega)]
          by_cases ei : i = M
          · subst ei; rw [hI_eq, sK_at]
          · rw [hI_ne (by omega), sK_ne (by omega), pAdv_K, w5 60 (by omega)]
            exact q60 i (by omega)
        · exact gn_weak (gn_adv h.2.1 (by omega)) (Nat.le_refl _) (by omega)
        · refine e84.trans (e4.trans ?_)
          simp (disch := omega) only [st_X10_readDish_128, st_X10_readDish_129, st_X10_readDish_132, st_X10_readDish_136, st_X10_readDish_140, st_X10_readDish_141, st_X10_readDish_144, st_X10_readDish_145, st_X10_readDish_146, st_X10_readDish_147, st_X10_readDish_148, st_X10_readDish_151, st_X10_readDish_152, st_X10_readDish_153, st_X10_readDish_154, st_X10_readDish_155, st_X10_readDish_156, st_X10_readDish_157, st_X10_readDish_160, st_X10_readDish_161, st_X10_readDish_162, st_X10_readDish_163, st_X10_readDish_164, st_X10_readDish_165, st_X10_readDish_166, st_X10_readDish_137 (p := 49) hq_49 ps_, bM_some, hg_49_22, hg_49_10, hg_49_11, ha_59, hw_59, hw_60, f3.trans (eq_true h0), if_true, r5, r6, nn_out, nn_clamp, cond_false, nn_3m, e5, bC_inl, Option.toList, List.nil_append, Nat.add_zero, lc_r, lc_i, lc_i, lc_n, nn_r1, Nat.reduceAdd]
    · rw [if_neg hn]
      refine ⟨g3, c3, m3, Or.inl ⟨hn, e84.trans ?_⟩⟩
      rw [st_X10_readDish_84]
      simp (disch := omega) only [st_X10_readDish_85, st_X10_readDish_88, st_X10_readDish_128, st_X10_readDish_129, st_X10_readDish_132, st_X10_readDish_135, bM_some, hg_49_22, f3.trans (eq_false hn), if_false, Nat.reduceAdd]
theorem isNm_f (h0 : ¬ σ.1 0 = 0) : isNm σ = false := by unfold isNm; rw [decide_eq_false h0, Bool.false_and]
set_option maxHeartbeats 4000000 in
theorem jd_x (hD : D < 5) (hs8 : σ.1 8 = D) (hDI : DI D σ g) (h : MQr b n q σ g) (h0 : σ.1 0 = 0) (h2 : ¬ σ.1 3 = 2) : ∃ g' : hG, MQr b n q (sN σ 8 (D + 1)) g' ∧ SmM g g' ∧
    bc (d + 3) M_X10_readDish none 29 [some (.ref 49), some (.int (Int32.ofNat (5 + D))), some (.int 0), a3, a4] [] (hp t g) cn sn = some (.inl none, hp t g', cn, sn) := by
  obtain ⟨M, hM3, hM, h59, h60⟩ := hDI
  have f0 := bad_e h
  have t2 : (g.1 49 18 = 2) = (σ.1 3 = 2) := tk_e (e := 2) (by omega) h h0
  have hst : stpN D σ = M := by unfold stpN; rw [hM]; exact nn_clamp (by omega)
  have c1 := MQr_D (N := D) h (fun _ => ⟨hs8, hD, by rw [hM]; exact h59, fun i _ hi => h60 i (by omega)⟩)
  have r6 : g.1 52 6 = Int32.ofNat D := by rw [← hs8]; exact (h.2.2.2.1 h0).1.2.2.1
  have c6 : (6 : Int32).toNatClampNeg = 6 := by decide
  have o6 : px_out 6 8 = false := by decide
  refine ⟨_, c1, SmM_i (by omega), ?_⟩
  rw [st_X10_readDish_29]
  simp (disch := omega) only [st_X10_readDish_30, st_X10_readDish_33, st_X10_readDish_36, st_X10_readDish_37, st_X10_readDish_40, st_X10_readDish_41, st_X10_readDish_44, st_X10_readDish_45, st_X10_readDish_169, st_X10_readDish_170, st_X10_readDish_173, st_X10_readDish_175, st_X10_readDish_176, st_X10_readDish_177, st_X10_readDish_178, st_X10_readDish_179, st_X10_readDish_180, bM_some, hg_49_22, hg_49_18, hg_49_3, ha_52, hw_52, f0.trans (eq_true h0), t2.trans (eq_false h2), if_true, if_false, c6, o6, r6, cond_false, nn_r1, Nat.reduceAdd]
set_option maxHeartbeats 4000000 in
theorem jd_L (hD : D < 5) : ∀ f : Nat, ∀ (σ : Sg) (g : hG) (a3 a4 : Option Value), σ.1 8 = D → DI D σ g → MQr b n q σ g → σ.1 0 = 0 → n ≤ σ.1 2 + f → ∃ g' : hG, MQr b n q (sN (loopW isNm (pStp b n D) f σ) 8 (D + 1)) g' ∧ SmM g g' ∧
    bc (d + 3) M_X10_readDish none 29 [some (.ref 49), some (.int (Int32.ofNat (5 + D))), some (.int 0), a3, a4] [] (hp t g) cn sn = some (.inl none, hp t g', cn, sn) := by
  intro f
  induction f with
  | zero =>
    intro σ g a3 a4 hs8 hDI h h0 hf
    have hz := h.2.1.2.2 h0
    have hne : ¬ σ.1 3 = 2 := by
      intro h2
      obtain ⟨-, z1, -, -, z2, -⟩ := hz
      have z3 := z2 (by omega)
      omega
    exact jd_x hD hs8 hDI h h0 hne
  | succ f ih =>
    intro σ g a3 a4 hs8 hDI h h0 hf
    unfold loopW
    by_cases h2 : σ.1 3 = 2
    · have hT : isNm σ = true := by unfold isNm; rw [decide_eq_true h0, decide_eq_true h2]; rfl
      rw [if_pos hT]
      have f0 := bad_e h
      have t2 : (g.1 49 18 = 2) = (σ.1 3 = 2) := tk_e (e := 2) (by omega) h h0
      have e29 : bc (d + 3) M_X10_readDish none 29 [some (.ref 49), some (.int (Int32.ofNat (5 + D))), some (.int 0), a3, a4] [] (hp t g) cn sn = bc (d + 3) M_X10_readDish none 48 [some (.ref 49), some (.int (Int32.ofNat (5 + D))), some (.int 0), a3, a4] [] (hp t g) cn sn := by
        rw [st_X10_readDish_29]
        simp (disch := omega) only [st_X10_readDish_30, st_X10_readDish_33, st_X10_readDish_36, st_X10_readDish_37, st_X10_readDish_40, st_X10_readDish_41, st_X10_readDish_44, st_X10_readDish_45, bM_some, hg_49_22, hg_49_18, f0.trans (eq_true h0), t2.trans (eq_true h2), if_true, Nat.reduceAdd]
      obtain ⟨g1, c1, m1, h1⟩ := jd_it (d := d) (t := t) (cn := cn) (sn := sn) (a2 := some (.int 0)) (a3 := a3) (a4 := a4) hD hs8 hDI h h0
      rcases h1 with ⟨z1, e1⟩ | ⟨z1, k1, k2, a3', a4', e1⟩
      · rw [loopW_err (isNm_f z1)]
        exact ⟨g1, MQr_8 c1 z1, m1, e29.trans e1⟩
      · obtain ⟨g2, c2, m2, e2⟩ := ih _ g1 a3' a4' (by rw [pStp_o (by omega)]; exact hs8) k1 c1 z1 (by have := (k2 z1).2.1; omega)
        exact ⟨g2, c2, m1.trans m2, e29.trans (e1.trans e2)⟩
    · have hT : isNm σ = false := by unfold isNm; rw [decide_eq_false h2, Bool.and_false]
      rw [if_neg (by rw [hT]; simp)]
      exact jd_x hD hs8 hDI h h0 h2
set_option maxHeartbeats 4000000 in
theorem j_Dish (h : MQr b n q σ g) (h0 : σ.1 0 = 0) : ∃ g' : hG, MQr b n q (pDsh b n σ) g' ∧ SmM g g' ∧ bc (d + 3) M_X10_readDish none 0 [some (.ref 49), none, none, none, none] [] (hp t g) cn sn = some (.inl none, hp t g', cn, sn) := by
  obtain ⟨g1, w1, m1, h'⟩ := j_another2 (d := d) (t := t) (cn := 0) (sn := 0) h h0
  have c6 : (6 : Int32).toNatClampNeg = 6 := by decide
  have o6 : px_out 6 8 = false := by decide
  rcases h' with ⟨hlt, c1, e1⟩ | ⟨hlt, c1, e1⟩
  · unfold pDsh
    rw [if_pos hlt]
    dsimp only
    have eN : g.1 52 6 = Int32.ofNat (σ.1 8) := (h.2.2.2.1 h0).1.2.2.1
    obtain ⟨N, hN⟩ : ∃ N, N = σ.1 8 := ⟨_, rfl⟩
    rw [← hN] at hlt eN ⊢
    have n1 : (pAdv b n σ).1 8 = N := by rw [pAdv_o (by omega)]; exact hN.symm
    have r1 : g1.1 52 6 = Int32.ofNat N := by rw [w1 52 (by omega)]; exact eN
    have c2 := MQr_w (cc := 59) (c := 6) (i := 5 + N) (ii := N) (m := 0) (x := 0) (Or.inl ⟨rfl, by rw [n1], by rw [n1], rfl⟩) c1
    have z2 : (sK (pAdv b n σ) 6 N 0).1 0 = 0 := by show (pAdv b n σ).1 0 = 0; rw [pAdv_0]; exact h0
    have f2 := bad_e c2
    have d2 : DI N (sK (pAdv b n σ) 6 N 0) (hI g1 59 (5 + N) 0) := ⟨0, by omega, sK_at, hI_eq, fun i hi => by omega⟩
    have e29 : bc (d + 3) M_X10_readDish none 0 [some (.ref 49), none, none, none, none] [] (hp t g) cn sn = bc (d + 3) M_X10_readDish none 48 [some (.ref 49), some (.int (Int32.ofNat (5 + N))), some (.int 1), none, none] [] (hp t (hI g1 59 (5 + N) 0)) cn sn := by
      simp (disch := omega) only [st_X10_readDish_0, st_X10_readDish_1, st_X10_readDish_2, st_X10_readDish_6, st_X10_readDish_10, st_X10_readDish_11, st_X10_readDish_12, st_X10_readDish_15, st_X10_readDish_17, st_X10_readDish_18, st_X10_readDish_19, st_X10_readDish_20, st_X10_readDish_21, st_X10_readDish_24, st_X10_readDish_25, st_X10_readDish_26, st_X10_readDish_27, st_X10_readDish_28, st_X10_readDish_3 (p := 49) hq_49 ps_, bM_some, hg_49_3, hg_49_10, ha_52, hw_59, c6, o6, r1, nn_5a, nn_one0, if_false, e1, nn_out, nn_clamp, cond_false, bC_inl, Option.toList, List.cons_append, List.nil_append, Nat.add_zero, lc_r, lc_i, lc_n, Nat.reduceAdd]
      rw [st_X10_readDish_29]
      simp (disch := omega) only [st_X10_readDish_30, st_X10_readDish_33, st_X10_readDish_36, st_X10_readDish_37, bM_some, hg_49_22, f2.trans (eq_true z2), if_true, nn_one0, if_false, Nat.reduceAdd]
    obtain ⟨g3, c3, m3, h3⟩ := jd_it (σ := sK (pAdv b n σ) 6 N 0) (d := d) (t := t) (cn := cn) (sn := sn) (a2 := some (.int 1)) (a3 := none) (a4 := none) hlt n1 d2 c2 z2
    rcases h3 with ⟨z3, e3⟩ | ⟨z3, k1, k2, a3', a4', e3⟩
    · rw [loopW_err (isNm_f z3)]
      exact ⟨g3, MQr_8 c3 z3, m1.trans ((SmM_i (by omega)).trans m3), e29.trans e3⟩
    · obtain ⟨g4, c4, m4, e4⟩ := jd_L (d := d) (t := t) (cn := cn) (sn := sn) hlt 600 _ g3 a3' a4' (by rw [pStp_o (by omega)]; exact n1) k1 c3 z3 (by have := c3.2.1.1; omega)
      exact ⟨g4, c4, m1.trans ((SmM_i (by omega)).trans (m3.trans m4)), e29.trans (e3.trans e4)⟩
  · unfold pDsh
    rw [if_neg hlt]
    refine ⟨g1, c1, m1, ?_⟩
    simp (disch := omega) only [st_X10_readDish_0, st_X10_readDish_1, st_X10_readDish_2, st_X10_readDish_6, st_X10_readDish_9, st_X10_readDish_3 (p := 49) hq_49 ps_, e1, if_true, bC_inl, Option.toList, List.cons_append, List.nil_append, Nat.add_zero, Nat.reduceAdd]
end MDISH
