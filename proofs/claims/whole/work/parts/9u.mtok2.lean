/-! ===== the reference: step on, wrong, words, signs, numbers ===== -/
def RN (n : Nat) (q : Rw) (σ : Sg) (r : Rw) : Prop := r 17 = Int32.ofNat n ∧ r 22 = Int32.ofNat (σ.1 0) ∧ (¬ σ.1 0 = 0 → r 23 = Int32.ofNat (σ.1 1)) ∧ (σ.1 0 = 0 → r 16 = Int32.ofNat (σ.1 4) ∧ r 21 = Int32.ofNat (σ.1 4) ∧ r 20 = Int32.ofNat (σ.1 2) ∧ r 18 = Int32.ofNat (if σ.1 3 = 5 then 4 else σ.1 3) ∧ (σ.1 3 = 2 → σ.1 4 - σ.1 2 ≤ 4 → r 19 = Int32.ofNat (σ.1 5))) ∧ ∀ j, (j < 16 ∨ 23 < j) → r j = q j
section MTOK2
variable {d : Nat} {t : List px_E} {g : hG} {n cn sn : Nat} {b r q : Rw} {x : Int32} {σ : Sg} {k : UInt32} {w : List Int32} {lo hi c : Nat}
set_option maxHeartbeats 8000000 in
theorem m_step0 (hT : tapeR n b (g.1 63)) (hn : n ≤ 600) (h0 : σ.1 0 = 0) (ha : σ.1 4 ≤ n) (h17 : r 17 = Int32.ofNat n) (h16 : r 16 = Int32.ofNat (σ.1 4)) (h22 : r 22 = 0) (hq : ∀ j, (j < 16 ∨ 23 < j) → r j = q j) : ∃ r' : Rw, RN n q (pAdv b n σ) r' ∧
    bc (d + 1) M_X10_stepOn none 0 [some (.ref 49), none] [] (hp t (hR g 49 r)) cn sn = some (.inl none, hp t (hR g 49 r'), cn, sn) := by
  obtain ⟨b1, b2⟩ := begs_b (b := b) ha
  have e1 := ms_1 (d := d) (t := t) (g := g) (r := r) (cn := cn) (sn := sn) hT hn h17 (n - σ.1 4) (σ.1 4) (by omega)
  rw [← h16, upd_self, show runQ b n 4 (n - σ.1 4) (σ.1 4) = begs b n σ from rfl] at e1
  have zle := sor_le (b := b) (n := n) (i := begs b n σ)
  have hRN : ∀ (a v : Nat), a = (if sor b n (begs b n σ) = 1 then runQ b n 1 (n - begs b n σ) (begs b n σ) else if sor b n (begs b n σ) = 2 then runQ b n 2 (n - begs b n σ) (begs b n σ) else if sor b n (begs b n σ) = 0 then begs b n σ else begs b n σ + 1) → (sor b n (begs b n σ) = 2 → a - begs b n σ ≤ 4 → v = nmb b n (begs b n σ) (n - begs b n σ) (begs b n σ) 0) → ∀ r' : Rw, r' 17 = Int32.ofNat n → r' 22 = 0 → r' 16 = Int32.ofNat a → r' 21 = Int32.ofNat a → r' 20 = Int32.ofNat (begs b n σ) → r' 18 = Int32.ofNat (if sor b n (begs b n σ) = 5 then 4 else sor b n (begs b n σ)) → (sor b n (begs b n σ) = 2 → r' 19 = Int32.ofNat v) → (∀ j, (j < 16 ∨ 23 < j) → r' j = q j) → RN n q (pAdv b n σ) r' := by
    intro a v ea ev r' q17 q22 q16 q21 q20 q18 q19 qj
    refine ⟨q17, by rw [pAdv_0, h0]; exact q22, fun z => absurd (pAdv_0.trans h0) z, fun _ => ?_, qj⟩
    unfold pAdv
    rw [if_pos h0]
    simp only [sN_at, show ((2 : Nat) = 5) = False from eq_false (by omega), show ((2 : Nat) = 4) = False from eq_false (by omega), show ((2 : Nat) = 3) = False from eq_false (by omega), show ((3 : Nat) = 5) = False from eq_false (by omega), show ((3 : Nat) = 4) = False from eq_false (by omega), show ((4 : Nat) = 5) = False from eq_false (by omega), if_true, if_false]
    rw [← ea]
    refine ⟨q16, q21, q20, q18, fun z1 z2 => ?_⟩
    rw [if_pos z1, q19 z1, ev z1 z2]
  generalize hs : begs b n σ = s at *
  have es : ∀ R : Rw, R 17 = Int32.ofNat n → bc d M_X10_byteAt none 0 [some (.ref 49), some (.int (Int32.ofNat s))] [] (hp t (hR g 49 R)) 0 0 = some (.inl (some (.int (btR (g.1 63) n s))), hp t (hR g 49 R), 0, 0) := fun R hR17 => m_byteAt hn (by omega) hR17
  have el : ∀ hh : px_H, bc d M_X10_isLetter none 0 [some (.int (btR (g.1 63) n s))] [] hh 0 0 = some (.inl (some (.int (b01 (decide (sor b n s = 1))))), hh, 0, 0) := fun hh => m_isLetter (bt_let hT)
  have ed : ∀ hh : px_H, bc d M_X10_isDigit none 0 [some (.int (btR (g.1 63) n s))] [] hh 0 0 = some (.inl (some (.int (b01 (decide (sor b n s = 2))))), hh, 0, 0) := fun hh => m_isDigit (bt_dig hT)
  have ek : ∀ hh : px_H, bc d M_X10_isMark none 0 [some (.int (btR (g.1 63) n s))] [] hh 0 0 = some (.inl (some (.int (b01 (decide (sor b n s = 3))))), hh, 0, 0) := fun hh => m_isMark (bt_mk hT)
  have eno := bt_no hT (i := s)
  generalize hx : btR (g.1 63) n s = y at *
  have w16 : (upd (upd r 16 (Int32.ofNat s)) 20 (Int32.ofNat s)) 16 = Int32.ofNat s := by rw [upd_oth (by decide), upd_same]
  have w17 : (upd (upd r 16 (Int32.ofNat s)) 20 (Int32.ofNat s)) 17 = Int32.ofNat n := by rw [upd_oth (by decide), upd_oth (by decide)]; exact h17
  have w20 : (upd (upd r 16 (Int32.ofNat s)) 20 (Int32.ofNat s)) 20 = Int32.ofNat s := upd_same
  have w22 : (upd (upd r 16 (Int32.ofNat s)) 20 (Int32.ofNat s)) 22 = 0 := by rw [upd_oth (by decide), upd_oth (by decide)]; exact h22
  have wj : ∀ j, (j < 16 ∨ 23 < j) → (upd (upd r 16 (Int32.ofNat s)) 20 (Int32.ofNat s)) j = q j := fun j hj => by rw [upd_oth (by omega), upd_oth (by omega)]; exact hq j hj
  generalize hR1 : upd (upd r 16 (Int32.ofNat s)) 20 (Int32.ofNat s) = R1 at *
  have ru : upd R1 16 (Int32.ofNat s) = R1 := by rw [← w16, upd_self]
  have start : ∀ z, bc (d + 1) M_X10_stepOn none 56 [some (.ref 49), some (.int y)] [] (hp t (hR g 49 R1)) cn sn = z → bc (d + 1) M_X10_stepOn none 0 [some (.ref 49), none] [] (hp t (hR g 49 r)) cn sn = z := by
    intro z hz
    refine Eq.trans e1 ?_
    simp (disch := omega) only [st_X10_stepOn_39, st_X10_stepOn_40, st_X10_stepOn_41, st_X10_stepOn_44, st_X10_stepOn_47, st_X10_stepOn_48, st_X10_stepOn_49, st_X10_stepOn_55, st_X10_stepOn_52 (p := 49) hq_49 ps_, bM_some, hg_49_16, hs_49_20, m49_1, m49_i, upd_same, hR1, w16, es R1 w17, bC_inl, Option.toList, List.cons_append, List.nil_append, Nat.add_zero, lc_r, lc_i, lc_n, Nat.reduceAdd]
    exact hz
  by_cases c0 : sor b n s = 0
  · have y1 : y = -1 := eno.mpr c0
    refine ⟨upd (upd R1 18 0) 21 (Int32.ofNat s), hRN s 0 (by rw [if_neg (by omega), if_neg (by omega), if_pos c0]) (fun z => by omega) _ ?_ ?_ ?_ (by rw [upd_same]) ?_ ?_ (fun z => by omega) ?_, start _ ?_⟩
    · rw [upd_oth (by decide), upd_oth (by decide)]; exact w17
    · rw [upd_oth (by decide), upd_oth (by decide)]; exact w22
    · rw [upd_oth (by decide), upd_oth (by decide)]; exact w16
    · rw [upd_oth (by decide), upd_oth (by decide)]; exact w20
    · rw [upd_oth (by decide), upd_same, c0]; rfl
    · intro j hj; rw [upd_oth (by omega), upd_oth (by omega)]; exact wj j hj
    · have u16 : upd R1 18 0 16 = Int32.ofNat s := by rw [upd_oth (by decide)]; exact w16
      simp (disch := omega) only [st_X10_stepOn_56, st_X10_stepOn_57, st_X10_stepOn_58, st_X10_stepOn_61, st_X10_stepOn_62, st_X10_stepOn_63, st_X10_stepOn_66, st_X10_stepOn_212, st_X10_stepOn_213, st_X10_stepOn_214, st_X10_stepOn_217, st_X10_stepOn_220, bM_some, hg_49_16, hs_49_18, hs_49_21, m49_1, m49_i, y1, if_true, u16, Nat.reduceAdd]
  · have y1 : ¬ y = -1 := fun z => c0 (eno.mp z)
    by_cases c1 : sor b n s = 1
    · have e2 := ms_2 (d := d) (t := t) (g := g) (r := R1) (cn := cn) (sn := sn) hT hn w17 (some (.int y)) (n - s) s (by omega)
      rw [ru] at e2
      generalize hA : runQ b n 1 (n - s) s = A at *
      refine ⟨upd (upd (upd R1 16 (Int32.ofNat A)) 18 1) 21 (Int32.ofNat A), hRN A 0 (by rw [if_pos c1]) (fun z => by omega) _ ?_ ?_ ?_ (by rw [upd_same]) ?_ ?_ (fun z => by omega) ?_, start _ ?_⟩
      · rw [upd_oth (by decide), upd_oth (by decide), upd_oth (by decide)]; exact w17
      · rw [upd_oth (by decide), upd_oth (by decide), upd_oth (by decide)]; exact w22
      · rw [upd_oth (by decide), upd_oth (by decide), upd_same]
      · rw [upd_oth (by decide), upd_oth (by decide), upd_oth (by decide)]; exact w20
      · rw [upd_oth (by decide), upd_same, c1]; rfl
      · intro j hj; rw [upd_oth (by omega), upd_oth (by omega), upd_oth (by omega)]; exact wj j hj
      · have u16 : upd (upd R1 16 (Int32.ofNat A)) 18 1 16 = Int32.ofNat A := by rw [upd_oth (by decide), upd_same]
        simp (disch := omega) only [st_X10_stepOn_56, st_X10_stepOn_57, st_X10_stepOn_58, st_X10_stepOn_69, st_X10_stepOn_73, st_X10_stepOn_70 ps_, y1, if_false, el, decide_eq_true c1, b01, cond_true, nn_one0, bC_inl, Option.toList, List.cons_append, List.nil_append, Nat.add_zero, Nat.reduceAdd]
        refine Eq.trans e2 ?_
        simp (disch := omega) only [st_X10_stepOn_103, st_X10_stepOn_104, st_X10_stepOn_105, st_X10_stepOn_108, st_X10_stepOn_212, st_X10_stepOn_213, st_X10_stepOn_214, st_X10_stepOn_217, st_X10_stepOn_220, bM_some, hg_49_16, hs_49_18, hs_49_21, m49_1, m49_i, u16, Nat.reduceAdd]
    · by_cases c2 : sor b n s = 2
      · have e3 := ms_3 (d := d) (t := t) (g := g) (r := R1) (cn := cn) (sn := sn) hT hn w17 (some (.int y)) (n - s) s 0 (by omega) (by omega)
        rw [ru, show Int32.ofNat 0 = (0 : Int32) from rfl] at e3
        have env := nmR_nmb (b := b) (n := n) (s := s) (n - s) s 0 (Nat.le_refl s)
        generalize hA : runQ b n 2 (n - s) s = A at *
        generalize hV : nmR b n (n - s) s 0 = V at *
        refine ⟨upd (upd (upd (upd R1 16 (Int32.ofNat A)) 19 (Int32.ofNat V)) 18 2) 21 (Int32.ofNat A), hRN A V (by rw [if_neg c1, if_pos c2]) (fun _ z => env z (by rw [Nat.sub_self]; decide)) _ ?_ ?_ ?_ (by rw [upd_same]) ?_ ?_ (fun _ => ?_) ?_, start _ ?_⟩
        · rw [upd_oth (by decide), upd_oth (by decide), upd_oth (by decide), upd_oth (by decide)]; exact w17
        · rw [upd_oth (by decide), upd_oth (by decide), upd_oth (by decide), upd_oth (by decide)]; exact w22
        · rw [upd_oth (by decide), upd_oth (by decide), upd_oth (by decide), upd_same]
        · rw [upd_oth (by decide), upd_oth (by decide), upd_oth (by decide), upd_oth (by decide)]; exact w20
        · rw [upd_oth (by decide), upd_same, c2]; rfl
        · rw [upd_oth (by decide), upd_oth (by decide), upd_same]
        · intro j hj; rw [upd_oth (by omega), upd_oth (by omega), upd_oth (by omega), upd_oth (by omega)]; exact wj j hj
        · have u16 : upd (upd (upd R1 16 (Int32.ofNat A)) 19 (Int32.ofNat V)) 18 2 16 = Int32.ofNat A := by rw [upd_oth (by decide), upd_oth (by decide), upd_same]
          simp (disch := omega) only [st_X10_stepOn_56, st_X10_stepOn_57, st_X10_stepOn_58, st_X10_stepOn_69, st_X10_stepOn_73, st_X10_stepOn_111, st_X10_stepOn_115, st_X10_stepOn_118, st_X10_stepOn_119, st_X10_stepOn_120, st_X10_stepOn_70 ps_, st_X10_stepOn_112 ps_, bM_some, hs_49_19, m49_i, y1, if_false, el, ed, decide_eq_false c1, decide_eq_true c2, b01, cond_true, cond_false, nn_one0, if_true, bC_inl, Option.toList, List.cons_append, List.nil_append, Nat.add_zero, Nat.reduceAdd]
          refine Eq.trans e3 ?_
          simp (disch := omega) only [st_X10_stepOn_178, st_X10_stepOn_179, st_X10_stepOn_180, st_X10_stepOn_183, st_X10_stepOn_212, st_X10_stepOn_213, st_X10_stepOn_214, st_X10_stepOn_217, st_X10_stepOn_220, bM_some, hg_49_16, hs_49_18, hs_49_21, m49_1, m49_i, u16, Nat.reduceAdd]
      · by_cases c3 : sor b n s = 3
        · refine ⟨upd (upd (upd R1 16 (Int32.ofNat (s + 1))) 18 3) 21 (Int32.ofNat (s + 1)), hRN (s + 1) 0 (by rw [if_neg c1, if_neg c2, if_neg c0]) (fun z => absurd z c2) _ ?_ ?_ ?_ (by rw [upd_same]) ?_ ?_ (fun z => absurd z c2) ?_, start _ ?_⟩
          · rw [upd_oth (by decide), upd_oth (by decide), upd_oth (by decide)]; exact w17
          · rw [upd_oth (by decide), upd_oth (by decide), upd_oth (by decide)]; exact w22
          · rw [upd_oth (by decide), upd_oth (by decide), upd_same]
          · rw [upd_oth (by decide), upd_oth (by decide), upd_oth (by decide)]; exact w20
          · rw [upd_oth (by decide), upd_same, c3]; rfl
          · intro j hj; rw [upd_oth (by omega), upd_oth (by omega), upd_oth (by omega)]; exact wj j hj
          · have u16 : upd (upd R1 16 (Int32.ofNat (s + 1))) 18 3 16 = Int32.ofNat (s + 1) := by rw [upd_oth (by decide), upd_same]
            simp (disch := omega) only [st_X10_stepOn_56, st_X10_stepOn_57, st_X10_stepOn_58, st_X10_stepOn_69, st_X10_stepOn_73, st_X10_stepOn_111, st_X10_stepOn_115, st_X10_stepOn_186, st_X10_stepOn_188, st_X10_stepOn_191, st_X10_stepOn_192, st_X10_stepOn_193, st_X10_stepOn_196, st_X10_stepOn_197, st_X10_stepOn_201, st_X10_stepOn_204, st_X10_stepOn_205, st_X10_stepOn_209, st_X10_stepOn_212, st_X10_stepOn_213, st_X10_stepOn_214, st_X10_stepOn_217, st_X10_stepOn_220, st_X10_stepOn_187r, st_X10_stepOn_70 ps_, st_X10_stepOn_112 ps_, st_X10_stepOn_198 ps_r, bM_some, hg_49_16, hs_49_16, hs_49_18, hs_49_21, m49_1, m49_i, w16, nn_r1, y1, if_false, el, ed, ek, decide_eq_false c1, decide_eq_false c2, decide_eq_true c3, b01, cond_true, cond_false, nn_one0, if_true, u16, bC_inl, Option.toList, List.cons_append, List.nil_append, Nat.add_zero, Nat.reduceAdd]
        · have c45 : (if sor b n s = 5 then 4 else sor b n s) = 4 := by split <;> omega
          refine ⟨upd (upd (upd R1 16 (Int32.ofNat (s + 1))) 18 4) 21 (Int32.ofNat (s + 1)), hRN (s + 1) 0 (by rw [if_neg c1, if_neg c2, if_neg c0]) (fun z => absurd z c2) _ ?_ ?_ ?_ (by rw [upd_same]) ?_ ?_ (fun z => absurd z c2) ?_, start _ ?_⟩
          · rw [upd_oth (by decide), upd_oth (by decide), upd_oth (by decide)]; exact w17
          · rw [upd_oth (by decide), upd_oth (by decide), upd_oth (by decide)]; exact w22
          · rw [upd_oth (by decide), upd_oth (by decide), upd_same]
          · rw [upd_oth (by decide), upd_oth (by decide), upd_oth (by decide)]; exact w20
          · rw [upd_oth (by decide), upd_same, c45]; rfl
          · intro j hj; rw [upd_oth (by omega), upd_oth (by omega), upd_oth (by omega)]; exact wj j hj
          · have u16 : upd (upd R1 16 (Int32.ofNat (s + 1))) 18 4 16 = Int32.ofNat (s + 1) := by rw [upd_oth (by decide), upd_same]
            simp (disch := omega) only [st_X10_stepOn_56, st_X10_stepOn_57, st_X10_stepOn_58, st_X10_stepOn_69, st_X10_stepOn_73, st_X10_stepOn_111, st_X10_stepOn_115, st_X10_stepOn_186, st_X10_stepOn_188, st_X10_stepOn_191, st_X10_stepOn_192, st_X10_stepOn_193, st_X10_stepOn_196, st_X10_stepOn_197, st_X10_stepOn_201, st_X10_stepOn_208, st_X10_stepOn_209, st_X10_stepOn_212, st_X10_stepOn_213, st_X10_stepOn_214, st_X10_stepOn_217, st_X10_stepOn_220, st_X10_stepOn_187r, st_X10_stepOn_70 ps_, st_X10_stepOn_112 ps_, st_X10_stepOn_198 ps_r, bM_some, hg_49_16, hs_49_16, hs_49_18, hs_49_21, m49_1, m49_i, w16, nn_r1, y1, if_false, el, ed, ek, decide_eq_false c1, decide_eq_false c2, decide_eq_false c3, b01, cond_false, if_true, u16, bC_inl, Option.toList, List.cons_append, List.nil_append, Nat.add_zero, Nat.reduceAdd]
theorem m_step (hT : tapeR n b (g.1 63)) (hW : WF b n σ) (h0 : σ.1 0 = 0) (hN : RN n q σ r) : ∃ r' : Rw, RN n q (pAdv b n σ) r' ∧
    bc (d + 1) M_X10_stepOn none 0 [some (.ref 49), none] [] (hp t (hR g 49 r)) cn sn = some (.inl none, hp t (hR g 49 r'), cn, sn) := by
  obtain ⟨a1, a2, a3, a4, a5⟩ := hN
  exact m_step0 hT hW.1 h0 (hW.2.2 h0).2.1 a1 (a4 h0).1 (by rw [a2, h0]; rfl) a5
theorem m_wrong (hW : WF b n σ) (hN : RN n q σ r) (hc : 1 ≤ c ∧ c ≤ 5) : ∃ r' : Rw, RN n q (pFl c σ) r' ∧
    bc d M_X10_wrong none 0 [some (.ref 49), some (.int (Int32.ofNat c))] [] (hp t (hR g 49 r)) cn sn = some (.inl none, hp t (hR g 49 r'), cn, sn) := by
  have hN' := hN
  obtain ⟨a1, a2, a3, a4, a5⟩ := hN
  by_cases h0 : σ.1 0 = 0
  · obtain ⟨o16, o21, o20, o18, o19⟩ := a4 h0
    refine ⟨upd (upd r 22 (Int32.ofNat c)) 23 (Int32.ofNat (σ.1 2)), ?_, ?_⟩
    · unfold pFl
      rw [if_pos h0]
      refine ⟨by rw [upd_oth (by decide), upd_oth (by decide)]; exact a1, by rw [upd_oth (by decide), upd_same]; rfl, fun _ => by rw [upd_same]; rfl, fun z => ?_, fun j hj => by rw [upd_oth (by omega), upd_oth (by omega)]; exact a5 j hj⟩
      have : c = 0 := z
      omega
    · have u20 : upd r 22 (Int32.ofNat c) 20 = Int32.ofNat (σ.1 2) := by rw [upd_oth (by decide)]; exact o20
      simp (disch := omega) only [st_X10_wrong_0, st_X10_wrong_1, st_X10_wrong_4, st_X10_wrong_8, st_X10_wrong_9, st_X10_wrong_10, st_X10_wrong_13, st_X10_wrong_14, st_X10_wrong_15, st_X10_wrong_18, st_X10_wrong_21, bM_some, hg_49_22, hg_49_20, hs_49_22, hs_49_23, m49_1, m49_i, a2, h0, show (Int32.ofNat 0 = 0) = True from eq_true rfl, if_true, u20, Nat.reduceAdd]
  · have hz : pFl c σ = σ := by unfold pFl; rw [if_neg h0]
    rw [hz]
    refine ⟨r, hN', ?_⟩
    simp (disch := omega) only [st_X10_wrong_0, st_X10_wrong_1, st_X10_wrong_4, st_X10_wrong_7, bM_some, hg_49_22, m49_1, a2, (ne0 hW.2.1).trans (eq_false h0), if_false, Nat.reduceAdd]
theorem m_isMarked (hT : tapeR n b (g.1 63)) (hx : 0 ≤ x.toInt ∧ x.toInt < 128) (hW : WF b n σ) (hN : RN n q σ r) : bc d M_X10_isMarked none 0 [some (.ref 49), some (.int x)] [] (hp t (hR g 49 r)) cn sn = some (.inl (some (.int (b01 (pIsS b x σ)))), hp t (hR g 49 r), cn, sn) := by
  obtain ⟨a1, a2, a3, a4, a5⟩ := hN
  obtain ⟨hn, h5, hw⟩ := hW
  unfold pIsS
  by_cases h0 : σ.1 0 = 0
  · obtain ⟨o16, o21, o20, o18, o19⟩ := a4 h0
    obtain ⟨w1, w2, w3, w4, w5, w6⟩ := hw h0
    have h35 : σ.1 3 ≤ 5 := by rw [w3]; exact sor_le
    have e3 : (Int32.ofNat (if σ.1 3 = 5 then 4 else σ.1 3) = 3) = (σ.1 3 = 3) := by
      rw [show (3 : Int32) = Int32.ofNat 3 from rfl, nn_inj (by split <;> omega) (by omega)]
      apply propext
      constructor
      · intro z; split at z <;> omega
      · intro z; rw [if_neg (by omega)]; exact z
    rw [decide_eq_true h0, Bool.true_and]
    by_cases h3 : σ.1 3 = 3
    · have hlt := w5 (by omega)
      have hbr := (byte_srt (hT (σ.1 2) (by omega))).2.1 x hx.1 hx.2
      rw [decide_eq_true h3, Bool.true_and]
      by_cases hxx : b (σ.1 2) = x
      · rw [decide_eq_true hxx]
        simp (disch := omega) only [st_X10_isMarked_0, st_X10_isMarked_1, st_X10_isMarked_4, st_X10_isMarked_7, st_X10_isMarked_8, st_X10_isMarked_11, st_X10_isMarked_12, st_X10_isMarked_15, st_X10_isMarked_16, st_X10_isMarked_19, st_X10_isMarked_20, st_X10_isMarked_23, st_X10_isMarked_24, st_X10_isMarked_25, st_X10_isMarked_28, st_X10_isMarked_29, st_X10_isMarked_33b, bM_some, hg_49_22, hg_49_18, hg_49_14, hg_49_20, ha_63, m49_1, m49_63, a2, h0, show (Int32.ofNat 0 = 0) = True from eq_true rfl, o18, o20, e3.trans (eq_true h3), if_true, nn_out, nn_clamp, cond_false, eq_true (hbr.mpr hxx), b01, cond_true, Nat.reduceAdd]
      · rw [decide_eq_false hxx]
        simp (disch := omega) only [st_X10_isMarked_0, st_X10_isMarked_1, st_X10_isMarked_4, st_X10_isMarked_7, st_X10_isMarked_8, st_X10_isMarked_11, st_X10_isMarked_12, st_X10_isMarked_15, st_X10_isMarked_16, st_X10_isMarked_19, st_X10_isMarked_20, st_X10_isMarked_23, st_X10_isMarked_24, st_X10_isMarked_25, st_X10_isMarked_32, st_X10_isMarked_33, bM_some, hg_49_22, hg_49_18, hg_49_14, hg_49_20, ha_63, m49_1, m49_63, a2, h0, show (Int32.ofNat 0 = 0) = True from eq_true rfl, o18, o20, e3.trans (eq_true h3), if_true, if_false, nn_out, nn_clamp, cond_false, eq_false (fun z => hxx (hbr.mp z)), b01, Nat.reduceAdd]
    · rw [decide_eq_false h3, Bool.false_and]
      simp (disch := omega) only [st_X10_isMarked_0, st_X10_isMarked_1, st_X10_isMarked_4, st_X10_isMarked_7, st_X10_isMarked_8, st_X10_isMarked_11, st_X10_isMarked_12, st_X10_isMarked_32, st_X10_isMarked_33, bM_some, hg_49_22, hg_49_18, m49_1, a2, h0, show (Int32.ofNat 0 = 0) = True from eq_true rfl, o18, e3.trans (eq_false h3), if_true, if_false, b01, cond_false, Nat.reduceAdd]
  · rw [decide_eq_false h0, Bool.false_and]
    simp (disch := omega) only [st_X10_isMarked_0, st_X10_isMarked_1, st_X10_isMarked_4, st_X10_isMarked_32, st_X10_isMarked_33, bM_some, hg_49_22, m49_1, a2, (ne0 h5).trans (eq_false h0), if_false, b01, cond_false, Nat.reduceAdd]
theorem m_mark (hT : tapeR n b (g.1 63)) (hx : 0 ≤ x.toInt ∧ x.toInt < 128) (hW : WF b n σ) (hN : RN n q σ r) : ∃ r' : Rw, RN n q (pEx b n x σ) r' ∧
    bc (d + 2) M_X10_mark none 0 [some (.ref 49), some (.int x)] [] (hp t (hR g 49 r)) cn sn = some (.inl none, hp t (hR g 49 r'), cn, sn) := by
  have es := m_isMarked (d := d + 1) (t := t) (g := g) (x := x) (cn := 0) (sn := 0) hT hx hW hN
  have hf : r 22 = Int32.ofNat (σ.1 0) := hN.2.1
  unfold pEx
  by_cases h0 : σ.1 0 = 0
  · cases hb : pIsS b x σ with
    | true =>
      obtain ⟨r', q1, q2⟩ := m_step (d := d) (t := t) (g := g) (cn := 0) (sn := 0) hT hW h0 hN
      rw [hb] at es
      refine ⟨r', by rw [if_pos rfl]; exact q1, ?_⟩
      simp (disch := omega) only [st_X10_mark_0, st_X10_mark_1, st_X10_mark_4, st_X10_mark_7, st_X10_mark_8, st_X10_mark_12, st_X10_mark_20, st_X10_mark_21, st_X10_mark_24, st_X10_mark_27, st_X10_mark_31, st_X10_mark_9 (p := 49) hq_49 ps_, st_X10_mark_28 (p := 49) hq_49 ps_, bM_some, hg_49_22, m49_1, hf, h0, show (Int32.ofNat 0 = 0) = True from eq_true rfl, es, q2, b01, cond_true, nn_one0, if_true, if_false, bC_inl, Option.toList, List.cons_append, List.nil_append, Nat.add_zero, Nat.reduceAdd]
    | false =>
      obtain ⟨r', q1, q2⟩ := m_wrong (d := d + 1) (t := t) (g := g) (cn := 0) (sn := 0) hW hN (c := 1) (by omega)
      rw [hb] at es
      have f1 : r' 22 = Int32.ofNat 1 := by rw [q1.2.1, pFl_0, if_pos h0]
      rw [show Int32.ofNat 1 = (1 : Int32) from rfl] at q2
      refine ⟨r', by rw [if_neg (by simp)]; exact q1, ?_⟩
      simp (disch := omega) only [st_X10_mark_0, st_X10_mark_1, st_X10_mark_4, st_X10_mark_7, st_X10_mark_8, st_X10_mark_12, st_X10_mark_15, st_X10_mark_16, st_X10_mark_20, st_X10_mark_21, st_X10_mark_24, st_X10_mark_31, st_X10_mark_9 (p := 49) hq_49 ps_, st_X10_mark_17 (p := 49) hq_49 ps_, bM_some, hg_49_22, m49_1, hf, h0, show (Int32.ofNat 0 = 0) = True from eq_true rfl, f1, show (Int32.ofNat 1 = 0) = False from eq_false (by decide), es, q2, b01, cond_false, if_true, if_false, bC_inl, Option.toList, List.cons_append, List.nil_append, Nat.add_zero, Nat.reduceAdd]
  · have hz : pFl 1 σ = σ := by unfold pFl; rw [if_neg h0]
    rw [isS_err h0, if_neg (by simp), hz]
    refine ⟨r, hN, ?_⟩
    simp (disch := omega) only [st_X10_mark_0, st_X10_mark_1, st_X10_mark_4, st_X10_mark_20, st_X10_mark_21, st_X10_mark_24, st_X10_mark_31, bM_some, hg_49_22, m49_1, hf, (ne0 hW.2.1).trans (eq_false h0), if_false, Nat.reduceAdd]
end MTOK2
