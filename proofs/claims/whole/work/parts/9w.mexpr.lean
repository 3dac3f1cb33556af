/-! ===== the reference: expressions ===== -/
def MQr (b : Rw) (n : Nat) (q : Rw) (σ : Sg) (g : hG) : Prop := tapeR n b (g.1 63) ∧ WF b n σ ∧ RN n q σ (g.1 49) ∧ RMd σ g ∧ WD σ
def jP (b : Rw) (n : Nat) (q : Rw) (D : Nat) (M : px_Mt) (vs : List (Option Value)) (p : Sg → Sg) : Prop := ∀ (σ : Sg) (g : hG) (t : List px_E) (cn sn : Nat), MQr b n q σ g → GI σ → ∃ g' : hG, MQr b n q (p σ) g' ∧ SmM g g' ∧ bc D M none 0 vs [] (hp t g) cn sn = some (.inl none, hp t g', cn, sn)
section MEXPR
variable {d D : Nat} {t : List px_E} {g : hG} {n cn sn dep : Nat} {b r q : Rw} {x y : Int32} {σ σ' : Sg} {k : UInt32} {w : List Int32} {lo hi c : Nat} {p rc : Sg → Sg}
theorem GI_gn {m : Nat} (h : gn σ σ' m 0) (hG : GI σ) : GI σ' := fun z => by
  obtain ⟨a0, a1, a2⟩ := h z
  have := hG a0
  omega
theorem MQr_tok (h : MQr b n q σ g) (hW : WF b n σ') (hN : RN n q σ' r) (hk : σ'.2 = σ.2) (hs : ∀ i, 6 ≤ i → i ≤ 9 → σ'.1 i = σ.1 i) (h0 : σ'.1 0 = 0 → σ.1 0 = 0) : MQr b n q σ' (hR g 49 r) := by
  obtain ⟨h1, h2, h3, h4, h5⟩ := h
  refine ⟨h1, hW, hN, fun z => ?_, fun z => ?_⟩
  · unfold stpN
    rw [hk, hs 6 (by omega) (by omega), hs 7 (by omega) (by omega), hs 8 (by omega) (by omega), hs 9 (by omega) (by omega)]
    exact h4 (h0 z)
  · rw [hs 6 (by omega) (by omega), hs 7 (by omega) (by omega), hs 8 (by omega) (by omega), hs 9 (by omega) (by omega)]
    exact h5 (h0 z)
theorem j_adv (h : MQr b n q σ g) (h0 : σ.1 0 = 0) : ∃ g' : hG, MQr b n q (pAdv b n σ) g' ∧ SmM g g' ∧ bc (d + 1) M_X10_stepOn none 0 [some (.ref 49), none] [] (hp t g) cn sn = some (.inl none, hp t g', cn, sn) := by
  obtain ⟨r', q1, q2⟩ := m_step (d := d) (t := t) (g := g) (r := g.1 49) (cn := cn) (sn := sn) h.1 h.2.1 h0 h.2.2.1
  rw [hR_self] at q2
  exact ⟨hR g 49 r', MQr_tok h (WF_adv h.2.1) q1 pAdv_K (fun i h1 h2 => pAdv_o (by omega)) (fun z => by rw [pAdv_0] at z; exact z), SmM_r, q2⟩
theorem j_wrong (h : MQr b n q σ g) (hc : 1 ≤ c ∧ c ≤ 5) : ∃ g' : hG, MQr b n q (pFl c σ) g' ∧ SmM g g' ∧ bc d M_X10_wrong none 0 [some (.ref 49), some (.int (Int32.ofNat c))] [] (hp t g) cn sn = some (.inl none, hp t g', cn, sn) := by
  obtain ⟨r', q1, q2⟩ := m_wrong (d := d) (t := t) (g := g) (r := g.1 49) (cn := cn) (sn := sn) (c := c) h.2.1 h.2.2.1 hc
  rw [hR_self] at q2
  exact ⟨hR g 49 r', MQr_tok h (pFl_WF h.2.1 hc) q1 pFl_K (fun i h1 h2 => pFl_o (by omega)) (fun z => by rw [pFl_0] at z; split at z <;> omega), SmM_r, q2⟩
theorem j_isMarked (hx : 0 ≤ x.toInt ∧ x.toInt < 128) (h : MQr b n q σ g) : bc d M_X10_isMarked none 0 [some (.ref 49), some (.int x)] [] (hp t g) cn sn = some (.inl (some (.int (b01 (pIsS b x σ)))), hp t g, cn, sn) := by
  have := m_isMarked (d := d) (t := t) (g := g) (r := g.1 49) (x := x) (cn := cn) (sn := sn) h.1 hx h.2.1 h.2.2.1
  rw [hR_self] at this
  exact this
theorem j_is (hk : txK k w) (hl : w.length < 100) (ha : asc w) (h : MQr b n q σ g) : bc (d + 12) M_X10_is none 0 [some (.ref 49), some (.float k), none, none] [] (hp t g) cn sn = some (.inl (some (.int (b01 (pIsW b w σ)))), hp t g, cn, sn) := by
  have := m_is (d := d) (t := t) (g := g) (r := g.1 49) (cn := cn) (sn := sn) h.1 hk hl ha h.2.1 h.2.2.1
  rw [hR_self] at this
  exact this
theorem j_whichV (h : MQr b n q σ g) : bc (d + 13) M_X10_which none 0 [some (.ref 49), some (.ref 51), none] [] (hp t g) cn sn = some (.inl (some (.int (wI (whW b σ wVal 0)))), hp t g, cn, sn) := by
  have := m_whichV (d := d) (t := t) (g := g) (r := g.1 49) (cn := cn) (sn := sn) h.1 h.2.1 h.2.2.1
  rw [hR_self] at this
  exact this
theorem j_whichK (h : MQr b n q σ g) : bc (d + 13) M_X10_which none 0 [some (.ref 49), some (.ref 50), none] [] (hp t g) cn sn = some (.inl (some (.int (wI (whW b σ wKin 0)))), hp t g, cn, sn) := by
  have := m_whichK (d := d) (t := t) (g := g) (r := g.1 49) (cn := cn) (sn := sn) h.1 h.2.1 h.2.2.1
  rw [hR_self] at this
  exact this
theorem j_mark (hx : 0 ≤ x.toInt ∧ x.toInt < 128) (h : MQr b n q σ g) : ∃ g' : hG, MQr b n q (pEx b n x σ) g' ∧ SmM g g' ∧ bc (d + 2) M_X10_mark none 0 [some (.ref 49), some (.int x)] [] (hp t g) cn sn = some (.inl none, hp t g', cn, sn) := by
  obtain ⟨r', q1, q2⟩ := m_mark (d := d) (t := t) (g := g) (r := g.1 49) (x := x) (cn := cn) (sn := sn) h.1 hx h.2.1 h.2.2.1
  rw [hR_self] at q2
  refine ⟨hR g 49 r', ?_, SmM_r, q2⟩
  unfold pEx at q1 ⊢
  split
  · next hs => rw [if_pos hs] at q1; exact MQr_tok h (WF_adv h.2.1) q1 pAdv_K (fun i h1 h2 => pAdv_o (by omega)) (fun z => by rw [pAdv_0] at z; exact z)
  · next hs => rw [if_neg hs] at q1; exact MQr_tok h (pFl_WF h.2.1 (by omega)) q1 pFl_K (fun i h1 h2 => pFl_o (by omega)) (fun z => by rw [pFl_0] at z; split at z <;> omega)
theorem j_num (hlo : lo < 100000) (hhi : hi < 100000) (h : MQr b n q σ g) : ∃ g' : hG, MQr b n q (pNumS b n lo hi σ) g' ∧ SmM g g' ∧ (∀ c, ¬ c = 49 → g'.1 c = g.1 c) ∧
    bc (d + 2) M_X10_readNumber none 0 [some (.ref 49), some (.int (Int32.ofNat lo)), some (.int (Int32.ofNat hi)), none] [] (hp t g) cn sn = some (.inl (some (.int (Int32.ofNat (pNumV lo hi σ)))), hp t g', cn, sn) := by
  obtain ⟨r', q1, q2⟩ := m_readNumber (d := d) (t := t) (g := g) (r := g.1 49) (cn := cn) (sn := sn) h.1 hlo hhi h.2.1 h.2.2.1
  rw [hR_self] at q2
  exact ⟨hR g 49 r', MQr_tok h (PX_num σ h.2.1).1 q1 pNumS_K (fun i h1 h2 => pNumS_o h1) pNumS_0, SmM_r, fun c hc => by rw [hR_oth hc], q2⟩
theorem j_numNow (hlo : lo < 100000) (hhi : hi < 100000) (h : MQr b n q σ g) : ∃ g' : hG, MQr b n q (pNeed lo hi σ) g' ∧ SmM g g' ∧ (∀ c, ¬ c = 49 → g'.1 c = g.1 c) ∧
    bc (d + 1) M_X10_numberNow none 0 [some (.ref 49), some (.int (Int32.ofNat lo)), some (.int (Int32.ofNat hi))] [] (hp t g) cn sn = some (.inl (some (.int (Int32.ofNat (pNumV lo hi σ)))), hp t g', cn, sn) := by
  obtain ⟨r', q1, q2⟩ := m_numNow (d := d) (t := t) (g := g) (r := g.1 49) (cn := cn) (sn := sn) hlo hhi h.2.1 h.2.2.1
  rw [hR_self] at q2
  exact ⟨hR g 49 r', MQr_tok h (need_WF h.2.1) q1 pNeed_K (fun i h1 h2 => pNeed_o (by omega)) (fun z => by rw [← pNeed_c z]; exact z), SmM_r, fun c hc => by rw [hR_oth hc], q2⟩
theorem bad_e (h : MQr b n q σ g) : (g.1 49 22 = 0) = (σ.1 0 = 0) := by
  rw [h.2.2.1.2.1, nn_e0 (by have := h.2.1.2.1; omega)]
theorem tk_e {e : Nat} (he : e = 1 ∨ e = 2 ∨ e = 3 ∨ e = 0) (h : MQr b n q σ g) (h0 : σ.1 0 = 0) : (g.1 49 18 = Int32.ofNat e) = (σ.1 3 = e) := by
  have h35 : σ.1 3 ≤ 5 := by rw [(h.2.1.2.2 h0).2.2.1]; exact sor_le
  rw [(h.2.2.1.2.2.2.1 h0).2.2.2.1]
  exact tok_m h35 he
set_option maxHeartbeats 2000000 in
theorem j_lay (h : MQr b n q σ g) (hL : σ.1 0 = 0 → σ.1 9 < 600) (he : encM x = y) : ∃ g' : hG, MQr b n q (pAdd x σ) g' ∧ SmM g g' ∧ bc d M_X10_lay none 0 [some (.ref 49), some (.int y)] [] (hp t g) cn sn = some (.inl none, hp t g', cn, sn) := by
  have f0 := bad_e h
  obtain ⟨h1, h2, h3, h4, h5⟩ := h
  by_cases h0 : σ.1 0 = 0
  · have hl := hL h0
    obtain ⟨⟨a1, a2, a3, a4⟩, b1, b2, b3, b4⟩ := h4 h0
    refine ⟨hI (hI g 61 (600 + σ.1 9) y) 52 7 (Int32.ofNat (σ.1 9 + 1)), ?_, (SmM_i (by omega)).trans (SmM_i (by omega)), ?_⟩
    · unfold pAdd
      rw [if_pos ⟨h0, hl⟩]
      refine ⟨h1, ⟨h2.1, h2.2.1, fun z => h2.2.2 h0⟩, h3, fun z => ⟨⟨?_, ?_, ?_, ?_⟩, ?_, ?_, ?_, ?_⟩, fun z => ?_⟩
      · show (hI (hI g 61 (600 + σ.1 9) y) 52 7 (Int32.ofNat (σ.1 9 + 1))).1 52 4 = _
        rw [hI_at, if_neg (by omega)]; exact a1
      · show (hI (hI g 61 (600 + σ.1 9) y) 52 7 (Int32.ofNat (σ.1 9 + 1))).1 52 5 = _
        rw [hI_at, if_neg (by omega)]; exact a2
      · show (hI (hI g 61 (600 + σ.1 9) y) 52 7 (Int32.ofNat (σ.1 9 + 1))).1 52 6 = _
        rw [hI_at, if_neg (by omega)]; exact a3
      · rw [hI_at, if_pos ⟨rfl, rfl⟩]; rfl
      · intro j hj; exact b1 j hj
      · intro j hj; exact b2 j hj
      · intro j hj; exact b3 j hj
      · intro i hi
        have hi' : i < σ.1 9 + 1 := hi
        rw [hI_at, if_neg (by omega), hI_at]
        show _ = encM (if (8 : Nat) = 8 ∧ i = σ.1 9 then x else σ.2 8 i)
        by_cases ei : i = σ.1 9
        · rw [if_pos ⟨rfl, by omega⟩, if_pos ⟨rfl, ei⟩, he]
        · rw [if_neg (by omega), if_neg (fun z => ei z.2)]; exact b4 i (by omega)
      · obtain ⟨d1, d2, d3, d4⟩ := h5 h0
        exact ⟨d1, d2, d3, hl⟩
    · have r52 : (hI g 61 (600 + σ.1 9) y).1 52 = g.1 52 := rfl
      have c7 : (7 : Int32).toNatClampNeg = 7 := by decide
      have o7 : px_out 7 8 = false := by decide
      simp (disch := omega) only [st_X10_lay_0, st_X10_lay_1, st_X10_lay_4, st_X10_lay_8, st_X10_lay_9, st_X10_lay_12, st_X10_lay_15, st_X10_lay_16, st_X10_lay_19, st_X10_lay_21, st_X10_lay_22, st_X10_lay_23, st_X10_lay_24, st_X10_lay_25, st_X10_lay_26, st_X10_lay_29, st_X10_lay_31, st_X10_lay_32, st_X10_lay_33, st_X10_lay_34, st_X10_lay_35, st_X10_lay_36, bM_some, hg_49_22, hg_49_12, hg_49_3, ha_52, hw_61, hw_52, r52, f0.trans (eq_true h0), if_true, c7, o7, a4, nn_600, nn_out, nn_clamp, cond_false, nn_r1, Nat.reduceAdd]
  · refine ⟨g, ?_, SmM.refl, ?_⟩
    · rw [add_err h0]; exact ⟨h1, h2, h3, h4, h5⟩
    · simp (disch := omega) only [st_X10_lay_0, st_X10_lay_1, st_X10_lay_4, st_X10_lay_7, bM_some, hg_49_22, f0.trans (eq_false h0), if_false, Nat.reduceAdd]
theorem enc_n {v : Nat} (hv : v ≤ 9999) : encM (Int32.ofNat v) = Int32.ofNat v := by
  unfold encM
  rw [if_pos]
  rw [show (10000 : Int32) = Int32.ofNat 10000 from rfl, nn_lt (by omega) (by omega)]; omega
theorem enc_v : ∀ v : Nat, v < 7 → encM (Int32.ofNat (10000 + v)) = -1 - Int32.ofNat v := by decide +kernel
theorem GI_lt (h : MQr b n q σ g) (hG : GI σ) (h0 : σ.1 0 = 0) (h3 : ¬ σ.1 3 = 0) : σ.1 9 < 600 := by
  have := hG h0
  obtain ⟨w1, w2, w3, w4, w5, w6⟩ := h.2.1.2.2 h0
  have := w5 h3
  have := h.2.1.1
  omega
theorem gn_lt {k' : Nat} (hW : WF b n σ') (hg : gn σ σ' k' 1) (hG : GI σ) : σ'.1 0 = 0 → σ'.1 9 < 600 := by
  intro z
  obtain ⟨a0, a1, a2⟩ := hg z
  have := hG a0
  obtain ⟨w1, w2, w3, w4, w5, w6⟩ := hW.2.2 z
  have := hW.1
  omega
theorem ex_err (h0 : ¬ σ.1 0 = 0) : pEx b n x σ = σ := by unfold pEx pFl; rw [isS_err h0, if_neg (by simp), if_neg h0]
set_option maxHeartbeats 8000000 in
theorem j_part (hrc : jP b n q (d + 14) M_X10_readExpression [some (.ref 49), some (.int (Int32.ofNat (dep + 1))), none] rc) (hre : ∀ σ : Sg, ¬ σ.1 0 = 0 → rc σ = σ) : jP b n q (d + 15) M_X10_readPart [some (.ref 49), some (.int (Int32.ofNat dep)), none] (pPart b n rc) := by
  intro σ g t cn sn h hG
  have f0 := bad_e h
  unfold pPart
  by_cases h0 : σ.1 0 = 0
  · rw [if_pos h0]
    have t2 : (g.1 49 18 = 2) = (σ.1 3 = 2) := tk_e (e := 2) (by omega) h h0
    have t1 : (g.1 49 18 = 1) = (σ.1 3 = 1) := tk_e (e := 1) (by omega) h h0
    by_cases h2 : σ.1 3 = 2
    · rw [if_pos h2]
      obtain ⟨g1, c1, s1, -, e1⟩ := j_num (d := d + 12) (t := t) (cn := 0) (sn := 0) (lo := 0) (hi := 9999) (by omega) (by omega) h
      obtain ⟨pw, pg⟩ := PX_num (lo := 0) (hi := 9999) σ h.2.1
      obtain ⟨g2, c2, s2, e2⟩ := j_lay (d := d + 14) (t := t) (x := Int32.ofNat (pNumV 0 9999 σ)) (y := Int32.ofNat (pNumV 0 9999 σ)) (cn := 0) (sn := 0) c1 (gn_lt pw pg hG) (enc_n (pNumV_le h.2.1))
      rw [show Int32.ofNat 0 = (0 : Int32) from rfl, show Int32.ofNat 9999 = (9999 : Int32) from rfl] at e1
      refine ⟨g2, c2, s1.trans s2, ?_⟩
      simp (disch := omega) only [st_X10_readPart_0, st_X10_readPart_1, st_X10_readPart_4, st_X10_readPart_8, st_X10_readPart_9, st_X10_readPart_12, st_X10_readPart_13, st_X10_readPart_16, st_X10_readPart_17, st_X10_readPart_18, st_X10_readPart_19, st_X10_readPart_28, st_X10_readPart_22 (p := 49) hq_49 ps_r, st_X10_readPart_25 (p := 49) hq_49 ps_, bM_some, hg_49_22, hg_49_18, f0.trans (eq_true h0), t2.trans (eq_true h2), if_true, e1, e2, bC_inl, Option.toList, List.cons_append, List.nil_append, Nat.add_zero, Nat.reduceAdd]
    · rw [if_neg h2]
      by_cases h1 : σ.1 3 = 1
      · rw [if_pos h1]
        have ev := j_whichV (d := d + 1) (t := t) (cn := 0) (sn := 0) h
        cases hv : whW b σ wVal 0 with
        | none =>
          rw [hv] at ev
          obtain ⟨g1, c1, s1, e1⟩ := j_wrong (d := d + 14) (t := t) (cn := 0) (sn := 0) (c := 3) h (by omega)
          rw [show Int32.ofNat 3 = (3 : Int32) from rfl] at e1
          have hz : ¬ (pFl 3 σ).1 0 = 0 := by rw [pFl_0, if_pos h0]; omega
          have f1 := bad_e c1
          obtain ⟨g2, c2, s2, e2⟩ := j_lay (d := d + 14) (t := t) (x := 0) (y := 0) (cn := 0) (sn := 0) c1 (fun z => absurd z hz) (by decide)
          rw [add_err hz] at c2
          have f2 := bad_e c2
          refine ⟨g2, c2, s1.trans s2, ?_⟩
          simp (disch := omega) only [st_X10_readPart_0, st_X10_readPart_1, st_X10_readPart_4, st_X10_readPart_8, st_X10_readPart_9, st_X10_readPart_12, st_X10_readPart_13, st_X10_readPart_29, st_X10_readPart_30, st_X10_readPart_33, st_X10_readPart_34, st_X10_readPart_37, st_X10_readPart_38, st_X10_readPart_39, st_X10_readPart_45, st_X10_readPart_46, st_X10_readPart_47, st_X10_readPart_48, st_X10_readPart_51, st_X10_readPart_52, st_X10_readPart_56, st_X10_readPart_57, st_X10_readPart_58, st_X10_readPart_59, st_X10_readPart_63, st_X10_readPart_64, st_X10_readPart_67, st_X10_readPart_74, st_X10_readPart_42 (p := 49) hq_49 ps_, st_X10_readPart_53 (p := 49) hq_49 ps_, st_X10_readPart_60 (p := 49) hq_49 ps_, bM_some, hg_49_22, hg_49_18, hg_49_1, f0.trans (eq_true h0), t2.trans (eq_false h2), t1.trans (eq_true h1), f2.trans (eq_false hz), if_true, if_false, ev, wI, e1, e2, show (-1 : Int32) - -1 = 0 by decide, bC_inl, Option.toList, List.cons_append, List.nil_append, Nat.add_zero, lc_r, lc_i, lc_n, Nat.reduceAdd]
        | some v =>
          rw [hv] at ev
          have hv7 : v < 7 := by have := whW_lt wVal 0 hv; exact (by simpa [wVal] using this)
          obtain ⟨g1, c1, s1, e1⟩ := j_lay (d := d + 14) (t := t) (x := Int32.ofNat (10000 + v)) (y := -1 - Int32.ofNat v) (cn := 0) (sn := 0) h (fun _ => GI_lt h hG h0 (by omega)) (enc_v v hv7)
          have f1 := bad_e c1
          have hz : (pAdd (Int32.ofNat (10000 + v)) σ).1 0 = 0 := by rw [pAdd_1]; exact h0
          obtain ⟨g2, c2, s2, e2⟩ := j_adv (d := d + 13) (t := t) (cn := 0) (sn := 0) c1 hz
          refine ⟨g2, c2, s1.trans s2, ?_⟩
          simp (disch := omega) only [st_X10_readPart_0, st_X10_readPart_1, st_X10_readPart_4, st_X10_readPart_8, st_X10_readPart_9, st_X10_readPart_12, st_X10_readPart_13, st_X10_readPart_29, st_X10_readPart_30, st_X10_readPart_33, st_X10_readPart_34, st_X10_readPart_37, st_X10_readPart_38, st_X10_readPart_39, st_X10_readPart_45, st_X10_readPart_46, st_X10_readPart_47, st_X10_readPart_48, st_X10_readPart_56, st_X10_readPart_57, st_X10_readPart_58, st_X10_readPart_59, st_X10_readPart_63, st_X10_readPart_64, st_X10_readPart_67, st_X10_readPart_70, st_X10_readPart_74, st_X10_readPart_42 (p := 49) hq_49 ps_, st_X10_readPart_60 (p := 49) hq_49 ps_, st_X10_readPart_71 (p := 49) hq_49 ps_, bM_some, hg_49_22, hg_49_18, hg_49_1, f0.trans (eq_true h0), t2.trans (eq_false h2), t1.trans (eq_true h1), f1.trans (eq_true hz), if_true, if_false, ev, wI, nn_nneg, e1, e2, bC_inl, Option.toList, List.cons_append, List.nil_append, Nat.add_zero, lc_r, lc_i, lc_n, Nat.reduceAdd]
      · rw [if_neg h1]
        obtain ⟨g1, c1, s1, e1⟩ := j_mark (d := d + 12) (t := t) (x := 40) (cn := 0) (sn := 0) (by decide) h
        obtain ⟨pw, pg⟩ := PX_ex (b := b) (n := n) (x := 40) σ h.2.1
        have hG1 : GI (pEx b n 40 σ) := GI_gn (gn_weak pg (Nat.le_refl 1) (Nat.zero_le 1)) hG
        obtain ⟨g2, c2, s2, e2⟩ := hrc (pEx b n 40 σ) g1 t 0 0 c1 hG1
        obtain ⟨g3, c3, s3, e3⟩ := j_mark (d := d + 12) (t := t) (x := 41) (cn := 0) (sn := 0) (by decide) c2
        have fin : bc (d + 15) M_X10_readPart none 0 [some (.ref 49), some (.int (Int32.ofNat dep)), none] [] (hp t g) cn sn = some (.inl none, hp t g3, cn, sn) := by
          simp (disch := omega) only [st_X10_readPart_0, st_X10_readPart_1, st_X10_readPart_4, st_X10_readPart_8, st_X10_readPart_9, st_X10_readPart_12, st_X10_readPart_13, st_X10_readPart_29, st_X10_readPart_30, st_X10_readPart_33, st_X10_readPart_34, st_X10_readPart_75, st_X10_readPart_76, st_X10_readPart_81, st_X10_readPart_82, st_X10_readPart_83, st_X10_readPart_84, st_X10_readPart_88, st_X10_readPart_89, st_X10_readPart_94, st_X10_readPart_78 (p := 49) hq_49 ps_, st_X10_readPart_85 (p := 49) hq_49 ps_, st_X10_readPart_91 (p := 49) hq_49 ps_, bM_some, hg_49_22, hg_49_18, f0.trans (eq_true h0), t2.trans (eq_false h2), t1.trans (eq_false h1), if_true, if_false, e1, e2, e3, nn_r1, bC_inl, Option.toList, List.nil_append, Nat.add_zero, Nat.reduceAdd]
        by_cases hx : (pEx b n 40 σ).1 0 = 0
        · rw [if_pos hx]
          exact ⟨g3, c3, s1.trans (s2.trans s3), fin⟩
        · rw [if_neg hx]
          rw [hre _ hx, ex_err hx] at c3
          exact ⟨g3, c3, s1.trans (s2.trans s3), fin⟩
  · rw [if_neg h0]
    refine ⟨g, h, SmM.refl, ?_⟩
    simp (disch := omega) only [st_X10_readPart_0, st_X10_readPart_1, st_X10_readPart_4, st_X10_readPart_7, bM_some, hg_49_22, f0.trans (eq_false h0), if_false, Nat.reduceAdd]
/-! in a fault nothing is done -/
theorem e_Part (h : MQr b n q σ g) (h0 : ¬ σ.1 0 = 0) : bc d M_X10_readPart none 0 [some (.ref 49), some (.int y), none] [] (hp t g) cn sn = some (.inl none, hp t g, cn, sn) := by
  simp (disch := omega) only [st_X10_readPart_0, st_X10_readPart_1, st_X10_readPart_4, st_X10_readPart_7, bM_some, hg_49_22, (bad_e h).trans (eq_false h0), if_false, Nat.reduceAdd]
theorem e_mk (hx : 0 ≤ x.toInt ∧ x.toInt < 128) (h : MQr b n q σ g) (h0 : ¬ σ.1 0 = 0) : bc d M_X10_isMarked none 0 [some (.ref 49), some (.int x)] [] (hp t g) cn sn = some (.inl (some (.int 0)), hp t g, cn, sn) := by
  have := j_isMarked (d := d) (t := t) (x := x) (cn := cn) (sn := sn) hx h
  rw [isS_err h0] at this
  exact this
theorem e_is (hk : txK k w) (hl : w.length < 100) (ha : asc w) (h : MQr b n q σ g) (h0 : ¬ σ.1 0 = 0) : bc (d + 12) M_X10_is none 0 [some (.ref 49), some (.float k), none, none] [] (hp t g) cn sn = some (.inl (some (.int 0)), hp t g, cn, sn) := by
  have := j_is (d := d) (t := t) (cn := cn) (sn := sn) hk hl ha h
  rw [isW_err h0] at this
  exact this
theorem asc_not : asc wNot := by unfold asc; decide
theorem asc_and : asc wAnd := by unfold asc; decide
theorem asc_or : asc wOr := by unfold asc; decide
theorem e_Product (h : MQr b n q σ g) (h0 : ¬ σ.1 0 = 0) : bc (d + 2) M_X10_readProduct none 0 [some (.ref 49), some (.int y), none] [] (hp t g) cn sn = some (.inl none, hp t g, cn, sn) := by
  simp only [st_X10_readProduct_0, st_X10_readProduct_1, st_X10_readProduct_2 (p := 49) hq_49 ps_, e_Part h h0, bC_inl, Option.toList, List.nil_append, Nat.add_zero, Nat.reduceAdd]
  rw [st_X10_readProduct_5]
  simp only [st_X10_readProduct_6, st_X10_readProduct_11, st_X10_readProduct_14, st_X10_readProduct_15, st_X10_readProduct_20, st_X10_readProduct_57, st_X10_readProduct_8 (p := 49) hq_49 ps_, st_X10_readProduct_17 (p := 49) hq_49 ps_, e_mk (x := 42) (by decide) h h0, e_mk (x := 47) (by decide) h h0, if_true, bC_inl, Option.toList, List.cons_append, List.nil_append, Nat.add_zero, Nat.reduceAdd]
set_option maxHeartbeats 8000000 in
theorem j_Product_l (hp1 : jP b n q (D + 13) M_X10_readPart [some (.ref 49), some (.int (Int32.ofNat dep)), none] p) (hpx : PX b n p 1 0) : ∀ f : Nat, ∀ (σ : Sg) (g : hG) (a2 : Option Value), MQr b n q σ g → GI σ → (σ.1 0 = 0 → n ≤ σ.1 2 + f) → ∃ g' : hG, MQr b n q (loopW (fun s => pIsS b 42 s || pIsS b 47 s) (fun s => pAdd (if pIsS b 42 s = true then 10014 else 10015) (p (pAdv b n s))) f σ) g' ∧ SmM g g' ∧
    bc (D + 14) M_X10_readProduct none 5 [some (.ref 49), some (.int (Int32.ofNat dep)), a2] [] (hp t g) cn sn = some (.inl none, hp t g', cn, sn) := by
  intro f
  induction f with
  | zero =>
    intro σ g a2 h hG hf
    have s1 := j_isMarked (d := D + 13) (t := t) (x := 42) (cn := 0) (sn := 0) (by decide) h
    have s2 := j_isMarked (d := D + 13) (t := t) (x := 47) (cn := 0) (sn := 0) (by decide) h
    have no : ∀ x : Int32, pIsS b x σ = false := by
      intro x
      cases hb : pIsS b x σ with
      | false => rfl
      | true =>
        obtain ⟨h0, h3⟩ := isS_t hb
        obtain ⟨w1, w2, w3, w4, w5, w6⟩ := h.2.1.2.2 h0
        have := w5 (by omega)
        have := hf h0
        omega
    rw [no] at s1 s2
    refine ⟨g, h, SmM.refl, ?_⟩
    rw [st_X10_readProduct_5]
    simp (disch := omega) only [st_X10_readProduct_6, st_X10_readProduct_11, st_X10_readProduct_14, st_X10_readProduct_15, st_X10_readProduct_20, st_X10_readProduct_57, st_X10_readProduct_8 (p := 49) hq_49 ps_, st_X10_readProduct_17 (p := 49) hq_49 ps_, s1, s2, b01, cond_false, if_true, bC_inl, Option.toList, List.cons_append, List.nil_append, Nat.add_zero, Nat.reduceAdd]
  | succ f ih =>
    intro σ g a2 h hG hf
    have s1 := j_isMarked (d := D + 13) (t := t) (x := 42) (cn := 0) (sn := 0) (by decide) h
    have s2 := j_isMarked (d := D + 13) (t := t) (x := 47) (cn := 0) (sn := 0) (by decide) h
    unfold loopW
    by_cases hT : (pIsS b 42 σ || pIsS b 47 σ) = true
    · obtain ⟨h0, h3⟩ := sgn_t hT
      obtain ⟨g1, c1, m1, e1⟩ := j_adv (d := D + 12) (t := t) (cn := 0) (sn := 0) h h0
      have gA := gn_adv h.2.1 (show ¬ σ.1 3 = 0 by omega)
      obtain ⟨g2, c2, m2, e2⟩ := hp1 (pAdv b n σ) g1 t 0 0 c1 (GI_gn (gn_weak gA (Nat.le_refl 1) (Nat.zero_le 1)) hG)
      obtain ⟨wB, gB⟩ := adv_add hpx h.2.1 (show ¬ σ.1 3 = 0 by omega)
      obtain ⟨g3, c3, m3, e3⟩ := j_lay (d := D + 13) (t := t) (x := if pIsS b 42 σ = true then 10014 else 10015) (y := if pIsS b 42 σ = true then -22 else -23) (cn := 0) (sn := 0) c2 (gn_lt wB gB hG) (by split <;> decide)
      have gC := gn_add (x := if pIsS b 42 σ = true then 10014 else 10015) gB
      obtain ⟨g4, c4, m4, e4⟩ := ih _ g3 (some (.int (if pIsS b 42 σ = true then -22 else -23))) c3 (GI_gn gC hG) (fun z => by have := gC z; have := hf h0; omega)
      refine ⟨g4, by rw [if_pos hT]; exact c4, m1.trans (m2.trans (m3.trans m4)), ?_⟩
      rw [← e4, st_X10_readProduct_5]
      cases q1 : pIsS b 42 σ with
      | true =>
        rw [q1] at s1 e3
        rw [if_pos rfl] at e3 ⊢
        simp (disch := omega) only [st_X10_readProduct_6, st_X10_readProduct_11, st_X10_readProduct_23, st_X10_readProduct_24, st_X10_readProduct_29, st_X10_readProduct_32, st_X10_readProduct_34, st_X10_readProduct_39, st_X10_readProduct_40, st_X10_readProduct_44, st_X10_readProduct_45, st_X10_readProduct_49, st_X10_readProduct_50, st_X10_readProduct_54, st_X10_readProduct_8 (p := 49) hq_49 ps_, st_X10_readProduct_26 (p := 49) hq_49 ps_, st_X10_readProduct_41 (p := 49) hq_49 ps_, st_X10_readProduct_46 (p := 49) hq_49 ps_, st_X10_readProduct_51 (p := 49) hq_49 ps_, s1, e1, e2, e3, b01, cond_true, nn_one0, if_false, bC_inl, Option.toList, List.cons_append, List.nil_append, Nat.add_zero, lc_r, lc_i, Nat.reduceAdd]
      | false =>
        rw [q1, Bool.false_or] at hT
        rw [q1] at s1 e3
        rw [hT] at s2
        rw [if_neg (by simp)] at e3
        rw [if_neg (by simp)]
        simp (disch := omega) only [st_X10_readProduct_6, st_X10_readProduct_11, st_X10_readProduct_14, st_X10_readProduct_15, st_X10_readProduct_20, st_X10_readProduct_23, st_X10_readProduct_24, st_X10_readProduct_29, st_X10_readProduct_37, st_X10_readProduct_39, st_X10_readProduct_40, st_X10_readProduct_44, st_X10_readProduct_45, st_X10_readProduct_49, st_X10_readProduct_50, st_X10_readProduct_54, st_X10_readProduct_8 (p := 49) hq_49 ps_, st_X10_readProduct_17 (p := 49) hq_49 ps_, st_X10_readProduct_26 (p := 49) hq_49 ps_, st_X10_readProduct_41 (p := 49) hq_49 ps_, st_X10_readProduct_46 (p := 49) hq_49 ps_, st_X10_readProduct_51 (p := 49) hq_49 ps_, s1, s2, e1, e2, e3, b01, cond_true, cond_false, nn_one0, if_false, if_true, bC_inl, Option.toList, List.cons_append, List.nil_append, Nat.add_zero, lc_r, lc_i, Nat.reduceAdd]
    · rw [if_neg hT]
      have hc' := Bool.eq_false_iff.mpr hT
      rw [Bool.or_eq_false_iff] at hc'
      rw [hc'.1] at s1
      rw [hc'.2] at s2
      refine ⟨g, h, SmM.refl, ?_⟩
      rw [st_X10_readProduct_5]
      simp (disch := omega) only [st_X10_readProduct_6, st_X10_readProduct_11, st_X10_readProduct_14, st_X10_readProduct_15, st_X10_readProduct_20, st_X10_readProduct_57, st_X10_readProduct_8 (p := 49) hq_49 ps_, st_X10_readProduct_17 (p := 49) hq_49 ps_, s1, s2, b01, cond_false, if_true, bC_inl, Option.toList, List.cons_append, List.nil_append, Nat.add_zero, Nat.reduceAdd]
theorem j_Product (hp1 : jP b n q (D + 13) M_X10_readPart [some (.ref 49), some (.int (Int32.ofNat dep)), none] p) (hpx : PX b n p 1 0) : jP b n q (D + 14) M_X10_readProduct [some (.ref 49), some (.int (Int32.ofNat dep)), none] (fun σ => loopW (fun s => pIsS b 42 s || pIsS b 47 s) (fun s => pAdd (if pIsS b 42 s = true then 10014 else 10015) (p (pAdv b n s))) 600 (p σ)) := by
  intro σ g t cn sn h hG
  obtain ⟨g1, c1, m1, e1⟩ := hp1 σ g t 0 0 h hG
  obtain ⟨pw, pg⟩ := hpx σ h.2.1
  obtain ⟨g2, c2, m2, e2⟩ := j_Product_l (t := t) (cn := cn) (sn := sn) (dep := dep) hp1 hpx 600 (p σ) g1 none c1 (GI_gn pg hG) (fun _ => by have := h.2.1.1; omega)
  refine ⟨g2, c2, m1.trans m2, Eq.trans ?_ e2⟩
  simp (disch := omega) only [st_X10_readProduct_0, st_X10_readProduct_1, st_X10_readProduct_2 (p := 49) hq_49 ps_, e1, bC_inl, Option.toList, List.nil_append, Nat.add_zero, Nat.reduceAdd]
theorem e_Sum (h : MQr b n q σ g) (h0 : ¬ σ.1 0 = 0) : bc (d + 3) M_X10_readSum none 0 [some (.ref 49), some (.int y), none] [] (hp t g) cn sn = some (.inl none, hp t g, cn, sn) := by
  simp only [st_X10_readSum_0, st_X10_readSum_1, st_X10_readSum_2 (p := 49) hq_49 ps_, e_Product h h0, bC_inl, Option.toList, List.nil_append, Nat.add_zero, Nat.reduceAdd]
  rw [st_X10_readSum_5]
  simp only [st_X10_readSum_6, st_X10_readSum_11, st_X10_readSum_14, st_X10_readSum_15, st_X10_readSum_20, st_X10_readSum_57, st_X10_readSum_8 (p := 49) hq_49 ps_, st_X10_readSum_17 (p := 49) hq_49 ps_, e_mk (x := 43) (by decide) h h0, e_mk (x := 45) (by decide) h h0, if_true, bC_inl, Option.toList, List.cons_append, List.nil_append, Nat.add_zero, Nat.reduceAdd]
set_option maxHeartbeats 8000000 in
theorem j_Sum_l (hp1 : jP b n q (D + 13) M_X10_readProduct [some (.ref 49), some (.int (Int32.ofNat dep)), none] p) (hpx : PX b n p 1 0) : ∀ f : Nat, ∀ (σ : Sg) (g : hG) (a2 : Option Value), MQr b n q σ g → GI σ → (σ.1 0 = 0 → n ≤ σ.1 2 + f) → ∃ g' : hG, MQr b n q (loopW (fun s => pIsS b 43 s || pIsS b 45 s) (fun s => pAdd (if pIsS b 43 s = true then 10012 else 10013) (p (pAdv b n s))) f σ) g' ∧ SmM g g' ∧
    bc (D + 14) M_X10_readSum none 5 [some (.ref 49), some (.int (Int32.ofNat dep)), a2] [] (hp t g) cn sn = some (.inl none, hp t g', cn, sn) := by
  intro f
  induction f with
  | zero =>
    intro σ g a2 h hG hf
    have s1 := j_isMarked (d := D + 13) (t := t) (x := 43) (cn := 0) (sn := 0) (by decide) h
    have s2 := j_isMarked (d := D + 13) (t := t) (x := 45) (cn := 0) (sn := 0) (by decide) h
    have no : ∀ x : Int32, pIsS b x σ = false := by
      intro x
      cases hb : pIsS b x σ with
      | false => rfl
      | true =>
        obtain ⟨h0, h3⟩ := isS_t hb
        obtain ⟨w1, w2, w3, w4, w5, w6⟩ := h.2.1.2.2 h0
        have := w5 (by omega)
        have := hf h0
        omega
    rw [no] at s1 s2
    refine ⟨g, h, SmM.refl, ?_⟩
    rw [st_X10_readSum_5]
    simp (disch := omega) only [st_X10_readSum_6, st_X10_readSum_11, st_X10_readSum_14, st_X10_readSum_15, st_X10_readSum_20, st_X10_readSum_57, st_X10_readSum_8 (p := 49) hq_49 ps_, st_X10_readSum_17 (p := 49) hq_49 ps_, s1, s2, b01, cond_false, if_true, bC_inl, Option.toList, List.cons_append, List.nil_append, Nat.add_zero, Nat.reduceAdd]
  | succ f ih =>
    intro σ g a2 h hG hf
    have s1 := j_isMarked (d := D + 13) (t := t) (x := 43) (cn := 0) (sn := 0) (by decide) h
    have s2 := j_isMarked (d := D + 13) (t := t) (x := 45) (cn := 0) (sn := 0) (by decide) h
    unfold loopW
    by_cases hT : (pIsS b 43 σ || pIsS b 45 σ) = true
    · obtain ⟨h0, h3⟩ := sgn_t hT
      obtain ⟨g1, c1, m1, e1⟩ := j_adv (d := D + 12) (t := t) (cn := 0) (sn := 0) h h0
      have gA := gn_adv h.2.1 (show ¬ σ.1 3 = 0 by omega)
      obtain ⟨g2, c2, m2, e2⟩ := hp1 (pAdv b n σ) g1 t 0 0 c1 (GI_gn (gn_weak gA (Nat.le_refl 1) (Nat.zero_le 1)) hG)
      obtain ⟨wB, gB⟩ := adv_add hpx h.2.1 (show ¬ σ.1 3 = 0 by omega)
      obtain ⟨g3, c3, m3, e3⟩ := j_lay (d := D + 13) (t := t) (x := if pIsS b 43 σ = true then 10012 else 10013) (y := if pIsS b 43 σ = true then -20 else -21) (cn := 0) (sn := 0) c2 (gn_lt wB gB hG) (by split <;> decide)
      have gC := gn_add (x := if pIsS b 43 σ = true then 10012 else 10013) gB
      obtain ⟨g4, c4, m4, e4⟩ := ih _ g3 (some (.int (if pIsS b 43 σ = true then -20 else -21))) c3 (GI_gn gC hG) (fun z => by have := gC z; have := hf h0; omega)
      refine ⟨g4, by rw [if_pos hT]; exact c4, m1.trans (m2.trans (m3.trans m4)), ?_⟩
      rw [← e4, st_X10_readSum_5]
      cases q1 : pIsS b 43 σ with
      | true =>
        rw [q1] at s1 e3
        rw [if_pos rfl] at e3 ⊢
        simp (disch := omega) only [st_X10_readSum_6, st_X10_readSum_11, st_X10_readSum_23, st_X10_readSum_24, st_X10_readSum_29, st_X10_readSum_32, st_X10_readSum_34, st_X10_readSum_39, st_X10_readSum_40, st_X10_readSum_44, st_X10_readSum_45, st_X10_readSum_49, st_X10_readSum_50, st_X10_readSum_54, st_X10_readSum_8 (p := 49) hq_49 ps_, st_X10_readSum_26 (p := 49) hq_49 ps_, st_X10_readSum_41 (p := 49) hq_49 ps_, st_X10_readSum_46 (p := 49) hq_49 ps_, st_X10_readSum_51 (p := 49) hq_49 ps_, s1, e1, e2, e3, b01, cond_true, nn_one0, if_false, bC_inl, Option.toList, List.cons_append, List.nil_append, Nat.add_zero, lc_r, lc_i, Nat.reduceAdd]
      | false =>
        rw [q1, Bool.false_or] at hT
        rw [q1] at s1 e3
        rw [hT] at s2
        rw [if_neg (by simp)] at e3
        rw [if_neg (by simp)]
        simp (disch := omega) only [st_X10_readSum_6, st_X10_readSum_11, st_X10_readSum_14, st_X10_readSum_15, st_X10_readSum_20, st_X10_readSum_23, st_X10_readSum_24, st_X10_readSum_29, st_X10_readSum_37, st_X10_readSum_39, st_X10_readSum_40, st_X10_readSum_44, st_X10_readSum_45, st_X10_readSum_49, st_X10_readSum_50, st_X10_readSum_54, st_X10_readSum_8 (p := 49) hq_49 ps_, st_X10_readSum_17 (p := 49) hq_49 ps_, st_X10_readSum_26 (p := 49) hq_49 ps_, st_X10_readSum_41 (p := 49) hq_49 ps_, st_X10_readSum_46 (p := 49) hq_49 ps_, st_X10_readSum_51 (p := 49) hq_49 ps_, s1, s2, e1, e2, e3, b01, cond_true, cond_false, nn_one0, if_false, if_true, bC_inl, Option.toList, List.cons_append, List.nil_append, Nat.add_zero, lc_r, lc_i, Nat.reduceAdd]
    · rw [if_neg hT]
      have hc' := Bool.eq_false_iff.mpr hT
      rw [Bool.or_eq_false_iff] at hc'
      rw [hc'.1] at s1
      rw [hc'.2] at s2
      refine ⟨g, h, SmM.refl, ?_⟩
      rw [st_X10_readSum_5]
      simp (disch := omega) only [st_X10_readSum_6, st_X10_readSum_11, st_X10_readSum_14, st_X10_readSum_15, st_X10_readSum_20, st_X10_readSum_57, st_X10_readSum_8 (p := 49) hq_49 ps_, st_X10_readSum_17 (p := 49) hq_49 ps_, s1, s2, b01, cond_false, if_true, bC_inl, Option.toList, List.cons_append, List.nil_append, Nat.add_zero, Nat.reduceAdd]
theorem j_Sum (hp1 : jP b n q (D + 13) M_X10_readProduct [some (.ref 49), some (.int (Int32.ofNat dep)), none] p) (hpx : PX b n p 1 0) : jP b n q (D + 14) M_X10_readSum [some (.ref 49), some (.int (Int32.ofNat dep)), none] (fun σ => loopW (fun s => pIsS b 43 s || pIsS b 45 s) (fun s => pAdd (if pIsS b 43 s = true then 10012 else 10013) (p (pAdv b n s))) 600 (p σ)) := by
  intro σ g t cn sn h hG
  obtain ⟨g1, c1, m1, e1⟩ := hp1 σ g t 0 0 h hG
  obtain ⟨pw, pg⟩ := hpx σ h.2.1
  obtain ⟨g2, c2, m2, e2⟩ := j_Sum_l (t := t) (cn := cn) (sn := sn) (dep := dep) hp1 hpx 600 (p σ) g1 none c1 (GI_gn pg hG) (fun _ => by have := h.2.1.1; omega)
  refine ⟨g2, c2, m1.trans m2, Eq.trans ?_ e2⟩
  simp (disch := omega) only [st_X10_readSum_0, st_X10_readSum_1, st_X10_readSum_2 (p := 49) hq_49 ps_, e1, bC_inl, Option.toList, List.nil_append, Nat.add_zero, Nat.reduceAdd]
end MEXPR
