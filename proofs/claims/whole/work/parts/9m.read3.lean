/-! ===== the Reader: advance, fail, signs, words, numbers ===== -/
/-- the Reader's row tells the state -/
def RT (n : Nat) (σ : Sg) (r : Rw) : Prop := r 2 = 0 ∧ r 4 = Int32.ofNat n ∧ r 10 = Int32.ofNat (σ.1 0) ∧ (¬ σ.1 0 = 0 → r 6 = 0 ∧ r 3 = Int32.ofNat (σ.1 1)) ∧ (σ.1 0 = 0 → r 3 = -1 ∧ r 5 = Int32.ofNat (σ.1 4) ∧ r 6 = Int32.ofNat (σ.1 3) ∧ r 7 = Int32.ofNat (σ.1 2) ∧ r 8 = Int32.ofNat (σ.1 5) ∧ r 9 = Int32.ofNat (σ.1 10))
/-- what holds of every state behind the first token -/
def WF (b : Rw) (n : Nat) (σ : Sg) : Prop := n ≤ 600 ∧ σ.1 0 ≤ 5 ∧ (σ.1 0 = 0 → σ.1 2 ≤ σ.1 4 ∧ σ.1 4 ≤ n ∧ σ.1 3 = sor b n (σ.1 2) ∧ σ.1 5 ≤ 9999 ∧ (¬ σ.1 3 = 0 → σ.1 2 < σ.1 4) ∧ σ.1 10 ≤ 1)
section READ3
variable {d : Nat} {t : List px_E} {g : hG} {n cn sn : Nat} {b r : Rw} {x : Int32} {σ : Sg} {lo hi c : Nat}
theorem runQ_p {q m a : Nat} (h : sor b n a = q) (hm : 0 < m) : a < runQ b n q m a := by
  cases m with
  | zero => omega
  | succ m =>
    unfold runQ
    rw [if_pos h]
    have := (runQ_b (b := b) (n := n) (q := q) m (a + 1)).1
    omega
theorem nmb_le {s : Nat} : ∀ m a v : Nat, s ≤ a → (a - s < 4 → v < 10 ^ (a - s)) → v ≤ 9999 → nmb b n s m a v ≤ 9999 := by
  intro m
  induction m with
  | zero => intro a v _ _ h; exact h
  | succ m ih =>
    intro a v hs hv h9
    unfold nmb
    split
    · next h =>
      obtain ⟨b1, b2⟩ := dig_b h
      have bc' := ii_clamp (a := b a)
      by_cases h3 : a - s < 4
      · have hv' := hv h3
        have hp3 : 10 ^ (a - s) ≤ 10 ^ 3 := Nat.pow_le_pow_right (by omega) (by omega)
        have hp4 : (10 : Nat) ^ 3 = 1000 := by decide
        rw [if_pos h3]
        refine ih _ _ (by omega) (fun _ => ?_) (by omega)
        rw [show a + 1 - s = (a - s) + 1 by omega, Nat.pow_succ]
        omega
      · rw [if_neg h3]
        exact ih _ _ (by omega) (fun z => by omega) h9
    · exact h9
theorem pAdv_0 : (pAdv b n σ).1 0 = σ.1 0 := by
  unfold pAdv; split
  · simp only [sN_at]; rfl
  · rfl
theorem pAdv_o {i : Nat} (hi : i < 2 ∨ 5 < i) : (pAdv b n σ).1 i = σ.1 i := by
  unfold pAdv; split
  · simp only [sN_at]; rw [if_neg (by omega), if_neg (by omega), if_neg (by omega), if_neg (by omega)]
  · rfl
theorem pAdv_K : (pAdv b n σ).2 = σ.2 := by unfold pAdv; split <;> rfl
theorem begs_b (ha : σ.1 4 ≤ n) : σ.1 4 ≤ begs b n σ ∧ begs b n σ ≤ n := by
  have := runQ_b (b := b) (n := n) (q := 4) (n - σ.1 4) (σ.1 4)
  unfold begs; omega
theorem pAdv_WF (hn : n ≤ 600) (h0 : σ.1 0 ≤ 5) (ha : σ.1 0 = 0 → σ.1 4 ≤ n ∧ σ.1 10 ≤ 1) : WF b n (pAdv b n σ) := by
  refine ⟨hn, by rw [pAdv_0]; exact h0, fun h => ?_⟩
  rw [pAdv_0] at h
  obtain ⟨a1, a2⟩ := ha h
  obtain ⟨b1, b2⟩ := begs_b (b := b) a1
  rw [pAdv_o (i := 10) (by omega)]
  unfold pAdv
  rw [if_pos h]
  simp only [sN_at, show ((2 : Nat) = 5) = False from eq_false (by omega), show ((2 : Nat) = 4) = False from eq_false (by omega), show ((2 : Nat) = 3) = False from eq_false (by omega), show ((3 : Nat) = 5) = False from eq_false (by omega), show ((3 : Nat) = 4) = False from eq_false (by omega), show ((4 : Nat) = 5) = False from eq_false (by omega), if_true, if_false]
  generalize begs b n σ = s at *
  have r1 := runQ_b (b := b) (n := n) (q := 1) (n - s) s
  have r2 := runQ_b (b := b) (n := n) (q := 2) (n - s) s
  have z0 := sor_0 (b := b) (n := n) (i := s)
  refine ⟨?_, ?_, trivial, ?_, ?_, a2⟩
  · repeat' split
    all_goals omega
  · repeat' split
    all_goals first | omega | (have : ¬ n ≤ s := fun z => (by assumption : ¬ sor b n s = 0) (z0.mpr z); omega)
  · split
    · exact nmb_le _ _ _ (Nat.le_refl s) (fun _ => by rw [Nat.sub_self]; decide) (by omega)
    · omega
  · intro hne
    have hlt : s < n := Classical.byContradiction fun z => hne (z0.mpr (by omega))
    split
    · next h1 => exact runQ_p h1 (by omega)
    · split
      · next h2 => exact runQ_p h2 (by omega)
      · omega
set_option maxHeartbeats 4000000 in
/-- the first token too: no more is asked than where it stands -/
theorem c_adv0 (hn : n ≤ 600) (h0 : σ.1 0 = 0) (ha : σ.1 4 ≤ n) (h2 : r 2 = 0) (h4 : r 4 = Int32.ofNat n) (h10 : r 10 = 0) (h3 : r 3 = -1) (h5 : r 5 = Int32.ofNat (σ.1 4)) (h9 : r 9 = Int32.ofNat (σ.1 10)) : ∃ r' : Rw, RT n (pAdv (g.1 2) n σ) r' ∧
    bc (d + 1) M_X6_advance none 0 [some (.ref 1)] [] (hp t (hR g 1 r)) cn sn = some (.inl none, hp t (hR g 1 r'), cn, sn) := by
  obtain ⟨b1, b2⟩ := begs_b (b := g.1 2) ha
  have e1 := ad_1 (d := d) (t := t) (g := g) (r := r) (cn := cn) (sn := sn) hn h4 (n - σ.1 4) (σ.1 4) (by omega)
  rw [← h5, upd_self, show runQ (g.1 2) n 4 (n - σ.1 4) (σ.1 4) = begs (g.1 2) n σ from rfl] at e1
  have z0 := sor_0 (b := g.1 2) (n := n) (i := begs (g.1 2) n σ)
  have zle := sor_le (b := g.1 2) (n := n) (i := begs (g.1 2) n σ)
  have hRT : ∀ (a v : Nat), a = (if sor (g.1 2) n (begs (g.1 2) n σ) = 1 then runQ (g.1 2) n 1 (n - begs (g.1 2) n σ) (begs (g.1 2) n σ) else if sor (g.1 2) n (begs (g.1 2) n σ) = 2 then runQ (g.1 2) n 2 (n - begs (g.1 2) n σ) (begs (g.1 2) n σ) else if sor (g.1 2) n (begs (g.1 2) n σ) = 0 then begs (g.1 2) n σ else begs (g.1 2) n σ + 1) → v = (if sor (g.1 2) n (begs (g.1 2) n σ) = 2 then nmb (g.1 2) n (begs (g.1 2) n σ) (n - begs (g.1 2) n σ) (begs (g.1 2) n σ) 0 else 0) → ∀ r' : Rw, r' 2 = 0 → r' 3 = -1 → r' 4 = Int32.ofNat n → r' 5 = Int32.ofNat a → r' 6 = Int32.ofNat (sor (g.1 2) n (begs (g.1 2) n σ)) → r' 7 = Int32.ofNat (begs (g.1 2) n σ) → r' 8 = Int32.ofNat v → r' 9 = Int32.ofNat (σ.1 10) → r' 10 = 0 → RT n (pAdv (g.1 2) n σ) r' := by
    intro a v ea ev r' q2 q3 q4 q5 q6 q7 q8 q9 q10
    refine ⟨q2, q4, by rw [pAdv_0, h0]; exact q10, fun z => absurd (pAdv_0.trans h0) z, fun _ => ?_⟩
    rw [pAdv_o (i := 10) (by omega)]
    unfold pAdv
    rw [if_pos h0]
    simp only [sN_at, show ((2 : Nat) = 5) = False from eq_false (by omega), show ((2 : Nat) = 4) = False from eq_false (by omega), show ((2 : Nat) = 3) = False from eq_false (by omega), show ((3 : Nat) = 5) = False from eq_false (by omega), show ((3 : Nat) = 4) = False from eq_false (by omega), show ((4 : Nat) = 5) = False from eq_false (by omega), if_true, if_false]
    rw [← ea, ← ev]
    exact ⟨q3, q5, q6, q7, q8, q9⟩
  generalize hs : begs (g.1 2) n σ = s at *
  have es : ∀ R : Rw, R 4 = Int32.ofNat n → bc d M_X6_sortAt none 0 [some (.ref 1), some (.int (Int32.ofNat s)), none] [] (hp t (hR g 1 R)) 0 0 = some (.inl (some (.int (Int32.ofNat (sor (g.1 2) n s)))), hp t (hR g 1 R), 0, 0) := fun R hR4 => c_sortAt hn (by omega) hR4
  generalize hq : sor (g.1 2) n s = q at *
  have q1 : (Int32.ofNat q = 1) = (q = 1) := nn_inj (b := 1) (by omega) (by omega)
  have q2 : (Int32.ofNat q = 2) = (q = 2) := nn_inj (b := 2) (by omega) (by omega)
  have q0 : (Int32.ofNat q = 0) = (q = 0) := nn_e0 (by omega)
  have hrow : ∀ f : Rw, ∀ y z u v : Int32, (upd (upd (upd (upd f 5 y) 7 z) 8 u) 6 v) 5 = y ∧ (upd (upd (upd (upd f 5 y) 7 z) 8 u) 6 v) 6 = v ∧ (upd (upd (upd (upd f 5 y) 7 z) 8 u) 6 v) 7 = z ∧ (upd (upd (upd (upd f 5 y) 7 z) 8 u) 6 v) 8 = u ∧ (upd (upd (upd f 5 y) 7 z) 8 u) 4 = f 4 ∧ (upd (upd (upd (upd f 5 y) 7 z) 8 u) 6 v) 4 = f 4 ∧ (upd (upd (upd f 5 y) 7 z) 8 u) 5 = y := fun f y z u v => by simp only [upd_at]; exact ⟨rfl, rfl, rfl, rfl, rfl, rfl, rfl⟩
  obtain ⟨w5, w6, w7, w8, w4, w4', w5'⟩ := hrow r (Int32.ofNat s) (Int32.ofNat s) 0 (Int32.ofNat q)
  generalize hR1 : upd (upd (upd (upd r 5 (Int32.ofNat s)) 7 (Int32.ofNat s)) 8 0) 6 (Int32.ofNat q) = R1 at *
  have start : ∀ z, bc (d + 1) M_X6_advance none 69 [some (.ref 1)] [] (hp t (hR g 1 R1)) cn sn = z → bc (d + 1) M_X6_advance none 0 [some (.ref 1)] [] (hp t (hR g 1 r)) cn sn = z := by
    intro z hz
    simp (disch := omega) only [st_X6_advance_0, st_X6_advance_1, st_X6_advance_4, bM_some, hg_1_10, h1_1, h10, if_true, Nat.reduceAdd]
    refine Eq.trans e1 ?_
    simp (disch := omega) only [st_X6_advance_44, st_X6_advance_45, st_X6_advance_46, st_X6_advance_49, st_X6_advance_52, st_X6_advance_53, st_X6_advance_54, st_X6_advance_57, st_X6_advance_58, st_X6_advance_59, st_X6_advance_60, st_X6_advance_66, st_X6_advance_63 (p := 1) hq_1 ps_r, bM_some, hg_1_5, hs_1_7, hs_1_8, hs_1_6, h1_1, h1_i, upd_same, w5', es _ (w4.trans h4), bC_inl, Option.toList, List.cons_append, List.nil_append, Nat.add_zero, hR1, Nat.reduceAdd]
    exact hz
  have ru : upd R1 5 (Int32.ofNat s) = R1 := by rw [← w5, upd_self]
  have o2 : R1 2 = 0 := by rw [← hR1]; simp only [upd_at]; exact h2
  have o3 : R1 3 = -1 := by rw [← hR1]; simp only [upd_at]; exact h3
  have o9 : R1 9 = Int32.ofNat (σ.1 10) := by rw [← hR1]; simp only [upd_at]; exact h9
  have o10 : R1 10 = 0 := by rw [← hR1]; simp only [upd_at]; exact h10
  have o4 : R1 4 = Int32.ofNat n := w4'.trans h4
  by_cases c1 : q = 1
  · have e2 := ad_2 (d := d) (t := t) (g := g) (r := R1) (cn := cn) (sn := sn) hn o4 (n - s) s (by omega)
    rw [ru] at e2
    refine ⟨upd R1 5 (Int32.ofNat (runQ (g.1 2) n 1 (n - s) s)), hRT _ 0 rfl (by rw [if_neg (by omega)]) _ ?_ ?_ ?_ (by rw [upd_same, if_pos c1]) ?_ ?_ ?_ ?_ ?_, start _ ?_⟩
    · rw [upd_oth (by decide)]; exact o2
    · rw [upd_oth (by decide)]; exact o3
    · rw [upd_oth (by decide)]; exact o4
    · rw [upd_oth (by decide)]; exact w6
    · rw [upd_oth (by decide)]; exact w7
    · rw [upd_oth (by decide)]; exact w8
    · rw [upd_oth (by decide)]; exact o9
    · rw [upd_oth (by decide)]; exact o10
    · simp (disch := omega) only [st_X6_advance_69, st_X6_advance_70, st_X6_advance_73, st_X6_advance_74, bM_some, hg_1_6, h1_1, w6, q1.trans (eq_true c1), if_true, Nat.reduceAdd]
      exact e2
  · by_cases c2 : q = 2
    · obtain ⟨e3, e4⟩ := ad_3 (d := d) (t := t) (g := g) (r := R1) (cn := cn) (sn := sn) hn o4 w7 (n - s) s 0 (by omega) (Nat.le_refl s) (fun _ => by rw [Nat.sub_self]; decide) (by omega)
      rw [ru, show Int32.ofNat 0 = (0 : Int32) from rfl, ← w8, upd_self] at e3
      refine ⟨upd (upd R1 5 (Int32.ofNat (runQ (g.1 2) n 2 (n - s) s))) 8 (Int32.ofNat (nmb (g.1 2) n s (n - s) s 0)), hRT _ _ rfl (by rw [if_pos c2]) _ ?_ ?_ ?_ (by rw [upd_oth (by decide), upd_same, if_neg c1, if_pos c2]) ?_ ?_ (by rw [upd_same]) ?_ ?_, start _ ?_⟩
      · rw [upd_oth (by decide), upd_oth (by decide)]; exact o2
      · rw [upd_oth (by decide), upd_oth (by decide)]; exact o3
      · rw [upd_oth (by decide), upd_oth (by decide)]; exact o4
      · rw [upd_oth (by decide), upd_oth (by decide)]; exact w6
      · rw [upd_oth (by decide), upd_oth (by decide)]; exact w7
      · rw [upd_oth (by decide), upd_oth (by decide)]; exact o9
      · rw [upd_oth (by decide), upd_oth (by decide)]; exact o10
      · simp (disch := omega) only [st_X6_advance_69, st_X6_advance_70, st_X6_advance_73, st_X6_advance_74, st_X6_advance_113, st_X6_advance_114, st_X6_advance_117, st_X6_advance_118, bM_some, hg_1_6, h1_1, w6, q1.trans (eq_false c1), q2.trans (eq_true c2), if_true, if_false, Nat.reduceAdd]
        exact e3
    · by_cases c0 : q = 0
      · refine ⟨R1, hRT _ 0 rfl (by rw [if_neg c2]) _ o2 o3 o4 (by rw [if_neg c1, if_neg c2, if_pos c0]; exact w5) w6 w7 w8 o9 o10, start _ ?_⟩
        simp (disch := omega) only [st_X6_advance_69, st_X6_advance_70, st_X6_advance_73, st_X6_advance_74, st_X6_advance_113, st_X6_advance_114, st_X6_advance_117, st_X6_advance_118, st_X6_advance_201, st_X6_advance_202, st_X6_advance_205, st_X6_advance_218, bM_some, hg_1_6, h1_1, w6, q1.trans (eq_false c1), q2.trans (eq_false c2), q0.trans (eq_true c0), if_true, if_false, Nat.reduceAdd]
      · refine ⟨upd R1 5 (Int32.ofNat (s + 1)), hRT _ 0 rfl (by rw [if_neg c2]) _ ?_ ?_ ?_ (by rw [upd_same, if_neg c1, if_neg c2, if_neg c0]) ?_ ?_ ?_ ?_ ?_, start _ ?_⟩
        · rw [upd_oth (by decide)]; exact o2
        · rw [upd_oth (by decide)]; exact o3
        · rw [upd_oth (by decide)]; exact o4
        · rw [upd_oth (by decide)]; exact w6
        · rw [upd_oth (by decide)]; exact w7
        · rw [upd_oth (by decide)]; exact w8
        · rw [upd_oth (by decide)]; exact o9
        · rw [upd_oth (by decide)]; exact o10
        · simp (disch := omega) only [st_X6_advance_69, st_X6_advance_70, st_X6_advance_73, st_X6_advance_74, st_X6_advance_113, st_X6_advance_114, st_X6_advance_117, st_X6_advance_118, st_X6_advance_201, st_X6_advance_202, st_X6_advance_205, st_X6_advance_208, st_X6_advance_210, st_X6_advance_213, st_X6_advance_214, st_X6_advance_215, st_X6_advance_218, st_X6_advance_209r, bM_some, hg_1_6, hg_1_5, hs_1_5, h1_1, h1_i, w5, w6, q1, q2, q0, c1, c2, c0, if_false, nn_r1, Nat.reduceAdd]
theorem ne0 (hc : c ≤ 5) : (Int32.ofNat c = 0) = (c = 0) := nn_e0 (by omega)
theorem c_adv (hW : WF (g.1 2) n σ) (hT : RT n σ r) : ∃ r' : Rw, RT n (pAdv (g.1 2) n σ) r' ∧
    bc (d + 1) M_X6_advance none 0 [some (.ref 1)] [] (hp t (hR g 1 r)) cn sn = some (.inl none, hp t (hR g 1 r'), cn, sn) := by
  obtain ⟨t2, t4, t10, te, to⟩ := hT
  obtain ⟨hn, h5, hw⟩ := hW
  by_cases h0 : σ.1 0 = 0
  · obtain ⟨o3, o5, o6, o7, o8, o9⟩ := to h0
    exact c_adv0 hn h0 (hw h0).2.1 t2 t4 (by rw [t10, h0]; rfl) o3 o5 o9
  · refine ⟨r, ?_, ?_⟩
    · have : pAdv (g.1 2) n σ = σ := by unfold pAdv; rw [if_neg h0]
      rw [this]
      exact ⟨t2, t4, t10, te, to⟩
    · simp (disch := omega) only [st_X6_advance_0, st_X6_advance_1, st_X6_advance_4, st_X6_advance_7, bM_some, hg_1_10, h1_1, t10, ne0 h5, h0, if_false, Nat.reduceAdd]
theorem pFl_0 : (pFl c σ).1 0 = if σ.1 0 = 0 then c else σ.1 0 := by
  unfold pFl; split
  · simp only [sN_at]; rfl
  · rfl
theorem pFl_WF (hW : WF b n σ) (hc : 1 ≤ c ∧ c ≤ 5) : WF b n (pFl c σ) := by
  obtain ⟨hn, h5, hw⟩ := hW
  refine ⟨hn, by rw [pFl_0]; split <;> omega, fun z => ?_⟩
  rw [pFl_0] at z
  split at z <;> omega
theorem c_fail (hW : WF (g.1 2) n σ) (hT : RT n σ r) (hc : 1 ≤ c ∧ c ≤ 5) : ∃ r' : Rw, RT n (pFl c σ) r' ∧
    bc d M_X6_fail none 0 [some (.ref 1), some (.int (Int32.ofNat c))] [] (hp t (hR g 1 r)) cn sn = some (.inl none, hp t (hR g 1 r'), cn, sn) := by
  obtain ⟨t2, t4, t10, te, to⟩ := hT
  obtain ⟨hn, h5, hw⟩ := hW
  by_cases h0 : σ.1 0 = 0
  · obtain ⟨o3, o5, o6, o7, o8, o9⟩ := to h0
    refine ⟨upd (upd (upd r 10 (Int32.ofNat c)) 3 (Int32.ofNat (σ.1 2))) 6 0, ?_, ?_⟩
    · unfold pFl
      rw [if_pos h0]
      refine ⟨by simp only [upd_at]; exact t2, by simp only [upd_at]; exact t4, by simp only [upd_at, sN_at]; rfl, fun _ => ⟨by rw [upd_same], by simp only [upd_at, sN_at]; rfl⟩, fun z => ?_⟩
      simp only [sN_at] at z
      have : c = 0 := z
      omega
    · have u7 : upd r 10 (Int32.ofNat c) 7 = Int32.ofNat (σ.1 2) := by rw [upd_oth (by decide)]; exact o7
      simp (disch := omega) only [st_X6_fail_0, st_X6_fail_1, st_X6_fail_4, st_X6_fail_7, st_X6_fail_8, st_X6_fail_9, st_X6_fail_12, st_X6_fail_13, st_X6_fail_14, st_X6_fail_17, st_X6_fail_20, st_X6_fail_21, st_X6_fail_22, st_X6_fail_25, bM_some, hg_1_10, hg_1_7, hs_1_10, hs_1_3, hs_1_6, h1_1, h1_i, t10, h0, show (Int32.ofNat 0 = 0) = True from eq_true rfl, if_true, u7, Nat.reduceAdd]
  · obtain ⟨e6, e3⟩ := te h0
    refine ⟨r, ?_, ?_⟩
    · unfold pFl
      rw [if_neg h0]
      exact ⟨t2, t4, t10, te, to⟩
    · have u6 : upd r 6 0 = r := by rw [← e6, upd_self]
      simp (disch := omega) only [st_X6_fail_0, st_X6_fail_1, st_X6_fail_4, st_X6_fail_20, st_X6_fail_21, st_X6_fail_22, st_X6_fail_25, bM_some, hg_1_10, hs_1_6, h1_1, h1_i, t10, ne0 h5, h0, if_false, u6, Nat.reduceAdd]
theorem c_isSign (hW : WF (g.1 2) n σ) (hT : RT n σ r) : bc d M_X6_isSign none 0 [some (.ref 1), some (.int x)] [] (hp t (hR g 1 r)) cn sn = some (.inl (some (.int (b01 (pIsS (g.1 2) x σ)))), hp t (hR g 1 r), cn, sn) := by
  obtain ⟨t2, t4, t10, te, to⟩ := hT
  obtain ⟨hn, h5, hw⟩ := hW
  unfold pIsS
  by_cases h0 : σ.1 0 = 0
  · obtain ⟨o3, o5, o6, o7, o8, o9⟩ := to h0
    obtain ⟨w1, w2, w3, w4, w5, w6⟩ := hw h0
    have h35 : σ.1 3 ≤ 5 := by rw [w3]; exact sor_le
    have e3 : (Int32.ofNat (σ.1 3) = 3) = (σ.1 3 = 3) := nn_inj (b := 3) (by omega) (by omega)
    rw [decide_eq_true h0, Bool.true_and]
    by_cases h3 : σ.1 3 = 3
    · have hlt := w5 (by omega)
      rw [decide_eq_true h3, Bool.true_and]
      by_cases hx : g.1 2 (σ.1 2) = x
      · rw [decide_eq_true hx]
        simp (disch := omega) only [st_X6_isSign_0, st_X6_isSign_1, st_X6_isSign_4, st_X6_isSign_5, st_X6_isSign_8, st_X6_isSign_9, st_X6_isSign_12, st_X6_isSign_13, st_X6_isSign_16, st_X6_isSign_19, st_X6_isSign_20, st_X6_isSign_23, st_X6_isSign_24, st_X6_isSign_27, st_X6_isSign_28, st_X6_isSign_29, st_X6_isSign_32, st_X6_isSign_33, st_X6_isSign_37b, bM_some, hg_1_6, hg_1_7, hg_1_4, hg_1_0, ha_2, h1_1, h1_2, o6, o7, t4, e3.trans (eq_true h3), if_true, nn_lt, show σ.1 2 < n by omega, nn_out, nn_clamp, cond_false, hx, b01, cond_true, Nat.reduceAdd]
      · rw [decide_eq_false hx]
        simp (disch := omega) only [st_X6_isSign_0, st_X6_isSign_1, st_X6_isSign_4, st_X6_isSign_5, st_X6_isSign_8, st_X6_isSign_9, st_X6_isSign_12, st_X6_isSign_13, st_X6_isSign_16, st_X6_isSign_19, st_X6_isSign_20, st_X6_isSign_23, st_X6_isSign_24, st_X6_isSign_27, st_X6_isSign_28, st_X6_isSign_29, st_X6_isSign_36, st_X6_isSign_37, bM_some, hg_1_6, hg_1_7, hg_1_4, hg_1_0, ha_2, h1_1, h1_2, o6, o7, t4, e3.trans (eq_true h3), if_true, if_false, nn_lt, show σ.1 2 < n by omega, nn_out, nn_clamp, cond_false, hx, b01, Nat.reduceAdd]
    · rw [decide_eq_false h3, Bool.false_and]
      simp (disch := omega) only [st_X6_isSign_0, st_X6_isSign_1, st_X6_isSign_4, st_X6_isSign_5, st_X6_isSign_36, st_X6_isSign_37, bM_some, hg_1_6, h1_1, o6, e3, h3, if_false, b01, cond_false, Nat.reduceAdd]
  · obtain ⟨e6, e3⟩ := te h0
    rw [decide_eq_false h0, Bool.false_and]
    simp (disch := omega) only [st_X6_isSign_0, st_X6_isSign_1, st_X6_isSign_4, st_X6_isSign_5, st_X6_isSign_36, st_X6_isSign_37, bM_some, hg_1_6, h1_1, e6, show ((0 : Int32) = 3) = False by decide, if_false, b01, cond_false, Nat.reduceAdd]
theorem c_expect (hW : WF (g.1 2) n σ) (hT : RT n σ r) : ∃ r' : Rw, RT n (pEx (g.1 2) n x σ) r' ∧
    bc (d + 2) M_X6_expect none 0 [some (.ref 1), some (.int x)] [] (hp t (hR g 1 r)) cn sn = some (.inl none, hp t (hR g 1 r'), cn, sn) := by
  have es := c_isSign (d := d + 1) (t := t) (g := g) (x := x) (cn := 0) (sn := 0) hW hT
  unfold pEx
  cases hb : pIsS (g.1 2) x σ with
  | true =>
    obtain ⟨r', q1, q2⟩ := c_adv (d := d) (t := t) (g := g) (cn := 0) (sn := 0) hW hT
    rw [hb] at es
    refine ⟨r', by rw [if_pos rfl]; exact q1, ?_⟩
    simp (disch := omega) only [st_X6_expect_0, st_X6_expect_1, st_X6_expect_5, st_X6_expect_8, st_X6_expect_12, st_X6_expect_20, st_X6_expect_2 (p := 1) hq_1 ps_, st_X6_expect_9 (p := 1) hq_1 ps_, es, q2, b01, cond_true, nn_one0, if_false, bC_inl, Option.toList, List.cons_append, List.nil_append, Nat.add_zero, Nat.reduceAdd]
  | false =>
    obtain ⟨r', q1, q2⟩ := c_fail (d := d + 1) (t := t) (g := g) (cn := 0) (sn := 0) hW hT (c := 1) (by omega)
    rw [hb] at es
    rw [show Int32.ofNat 1 = (1 : Int32) from rfl] at q2
    refine ⟨r', by rw [if_neg (by simp)]; exact q1, ?_⟩
    simp (disch := omega) only [st_X6_expect_0, st_X6_expect_1, st_X6_expect_5, st_X6_expect_15, st_X6_expect_16, st_X6_expect_20, st_X6_expect_2 (p := 1) hq_1 ps_, st_X6_expect_17 (p := 1) hq_1 ps_, es, q2, b01, cond_false, if_true, bC_inl, Option.toList, List.cons_append, List.nil_append, Nat.add_zero, Nat.reduceAdd]
theorem pNeed_c : (pNeed lo hi σ).1 0 = 0 → pNeed lo hi σ = σ := by
  intro h
  unfold pNeed at h ⊢
  split at h
  · next h0 =>
    rw [if_pos h0]
    split at h
    · next h3 =>
      rw [if_pos h3]
      split at h
      · rw [pFl_0, if_pos h0] at h; omega
      · next h4 => rw [if_neg h4]
    · rw [pFl_0, if_pos h0] at h; omega
  · next h0 => rw [if_neg h0]
set_option maxHeartbeats 2000000 in
theorem c_need {lo hi : Nat} (hlo : lo < 100000) (hhi : hi < 100000) (hW : WF (g.1 2) n σ) (hT : RT n σ r) : ∃ r' : Rw, RT n (pNeed lo hi σ) r' ∧ WF (g.1 2) n (pNeed lo hi σ) ∧
    bc (d + 1) M_X6_needNumber none 0 [some (.ref 1), some (.int (Int32.ofNat lo)), some (.int (Int32.ofNat hi))] [] (hp t (hR g 1 r)) cn sn = some (.inl (some (.int (b01 (decide ((pNeed lo hi σ).1 0 = 0))))), hp t (hR g 1 r'), cn, sn) := by
  have hT' := hT
  obtain ⟨t2, t4, t10, te, to⟩ := hT'
  have hW' := hW
  obtain ⟨hn, h5, hw⟩ := hW'
  obtain ⟨f1, a1, b1⟩ := c_fail (d := d) (t := t) (g := g) (cn := 0) (sn := 0) hW hT (c := 1) (by omega)
  obtain ⟨f2, a2, b2⟩ := c_fail (d := d) (t := t) (g := g) (cn := 0) (sn := 0) hW hT (c := 2) (by omega)
  rw [show Int32.ofNat 1 = (1 : Int32) from rfl] at b1
  rw [show Int32.ofNat 2 = (2 : Int32) from rfl] at b2
  unfold pNeed
  by_cases h0 : σ.1 0 = 0
  · obtain ⟨o3, o5, o6, o7, o8, o9⟩ := to h0
    obtain ⟨w1, w2, w3, w4, w5, w6⟩ := hw h0
    have h35 : σ.1 3 ≤ 5 := by rw [w3]; exact sor_le
    have e3 : (Int32.ofNat (σ.1 3) = 2) = (σ.1 3 = 2) := nn_inj (b := 2) (by omega) (by omega)
    rw [if_pos h0]
    by_cases h3 : σ.1 3 = 2
    · rw [if_pos h3]
      have g4 : ((4 : Int32) < Int32.ofNat (σ.1 4 - σ.1 2)) = (4 < σ.1 4 - σ.1 2) := nn_g4 (by omega)
      by_cases c1 : 4 < σ.1 4 - σ.1 2
      · rw [if_pos (Or.inl c1)]
        have z1 : f2 10 = Int32.ofNat 2 := by rw [a2.2.2.1, pFl_0, if_pos h0]
        refine ⟨f2, a2, pFl_WF hW (by omega), ?_⟩
        rw [pFl_0, if_pos h0]
        simp (disch := omega) only [st_X6_needNumber_0, st_X6_needNumber_1, st_X6_needNumber_4, st_X6_needNumber_5, st_X6_needNumber_16, st_X6_needNumber_17, st_X6_needNumber_20, st_X6_needNumber_21, st_X6_needNumber_24, st_X6_needNumber_25, st_X6_needNumber_26, st_X6_needNumber_45, st_X6_needNumber_46, st_X6_needNumber_50, st_X6_needNumber_51, st_X6_needNumber_54, st_X6_needNumber_61, st_X6_needNumber_62, st_X6_needNumber_47 (p := 1) hq_1 ps_, bM_some, hg_1_6, hg_1_5, hg_1_7, hg_1_10, h1_1, o5, o6, o7, e3.trans (eq_true h3), nn_sub, g4, c1, if_true, if_false, b2, z1, show (Int32.ofNat 2 = 0) = False from eq_false (by decide), show decide ((2 : Nat) = 0) = false from rfl, b01, cond_false, bC_inl, Option.toList, List.nil_append, Nat.add_zero, Nat.reduceAdd]
      · by_cases c2 : σ.1 5 < lo
        · rw [if_pos (Or.inr (Or.inl c2))]
          have z1 : f2 10 = Int32.ofNat 2 := by rw [a2.2.2.1, pFl_0, if_pos h0]
          refine ⟨f2, a2, pFl_WF hW (by omega), ?_⟩
          rw [pFl_0, if_pos h0]
          simp (disch := omega) only [st_X6_needNumber_0, st_X6_needNumber_1, st_X6_needNumber_4, st_X6_needNumber_5, st_X6_needNumber_16, st_X6_needNumber_17, st_X6_needNumber_20, st_X6_needNumber_21, st_X6_needNumber_24, st_X6_needNumber_25, st_X6_needNumber_26, st_X6_needNumber_29, st_X6_needNumber_30, st_X6_needNumber_33, st_X6_needNumber_34, st_X6_needNumber_45, st_X6_needNumber_46, st_X6_needNumber_50, st_X6_needNumber_51, st_X6_needNumber_54, st_X6_needNumber_61, st_X6_needNumber_62, st_X6_needNumber_47 (p := 1) hq_1 ps_, bM_some, hg_1_6, hg_1_5, hg_1_7, hg_1_8, hg_1_10, h1_1, o5, o6, o7, o8, e3.trans (eq_true h3), nn_sub, g4, c1, nn_lt, c2, if_true, if_false, b2, z1, show (Int32.ofNat 2 = 0) = False from eq_false (by decide), show decide ((2 : Nat) = 0) = false from rfl, b01, cond_false, bC_inl, Option.toList, List.nil_append, Nat.add_zero, Nat.reduceAdd]
        · by_cases c3 : hi < σ.1 5
          · rw [if_pos (Or.inr (Or.inr c3))]
            have z1 : f2 10 = Int32.ofNat 2 := by rw [a2.2.2.1, pFl_0, if_pos h0]
            refine ⟨f2, a2, pFl_WF hW (by omega), ?_⟩
            rw [pFl_0, if_pos h0]
            simp (disch := omega) only [st_X6_needNumber_0, st_X6_needNumber_1, st_X6_needNumber_4, st_X6_needNumber_5, st_X6_needNumber_16, st_X6_needNumber_17, st_X6_needNumber_20, st_X6_needNumber_21, st_X6_needNumber_24, st_X6_needNumber_25, st_X6_needNumber_26, st_X6_needNumber_29, st_X6_needNumber_30, st_X6_needNumber_33, st_X6_needNumber_34, st_X6_needNumber_37, st_X6_needNumber_38, st_X6_needNumber_41, st_X6_needNumber_42, st_X6_needNumber_45, st_X6_needNumber_46, st_X6_needNumber_50, st_X6_needNumber_51, st_X6_needNumber_54, st_X6_needNumber_61, st_X6_needNumber_62, st_X6_needNumber_47 (p := 1) hq_1 ps_, bM_some, hg_1_6, hg_1_5, hg_1_7, hg_1_8, hg_1_10, h1_1, o5, o6, o7, o8, e3.trans (eq_true h3), nn_sub, g4, c1, nn_lt, c2, c3, if_true, if_false, b2, z1, show (Int32.ofNat 2 = 0) = False from eq_false (by decide), show decide ((2 : Nat) = 0) = false from rfl, b01, cond_false, bC_inl, Option.toList, List.nil_append, Nat.add_zero, Nat.reduceAdd]
          · rw [if_neg (by omega)]
            refine ⟨r, hT, hW, ?_⟩
            rw [decide_eq_true h0]
            simp (disch := omega) only [st_X6_needNumber_0, st_X6_needNumber_1, st_X6_needNumber_4, st_X6_needNumber_5, st_X6_needNumber_16, st_X6_needNumber_17, st_X6_needNumber_20, st_X6_needNumber_21, st_X6_needNumber_24, st_X6_needNumber_25, st_X6_needNumber_26, st_X6_needNumber_29, st_X6_needNumber_30, st_X6_needNumber_33, st_X6_needNumber_34, st_X6_needNumber_37, st_X6_needNumber_38, st_X6_needNumber_41, st_X6_needNumber_42, st_X6_needNumber_50, st_X6_needNumber_51, st_X6_needNumber_54, st_X6_needNumber_57, st_X6_needNumber_58, st_X6_needNumber_62b, bM_some, hg_1_6, hg_1_5, hg_1_7, hg_1_8, hg_1_10, h1_1, o5, o6, o7, o8, t10, h0, e3.trans (eq_true h3), nn_sub, g4, c1, nn_lt, c2, c3, if_true, if_false, show (Int32.ofNat 0 = 0) = True from eq_true rfl, b01, cond_true, Nat.reduceAdd]
    · rw [if_neg h3]
      have z1 : f1 10 = Int32.ofNat 1 := by rw [a1.2.2.1, pFl_0, if_pos h0]
      refine ⟨f1, a1, pFl_WF hW (by omega), ?_⟩
      rw [pFl_0, if_pos h0]
      simp (disch := omega) only [st_X6_needNumber_0, st_X6_needNumber_1, st_X6_needNumber_4, st_X6_needNumber_5, st_X6_needNumber_8, st_X6_needNumber_9, st_X6_needNumber_13, st_X6_needNumber_50, st_X6_needNumber_51, st_X6_needNumber_54, st_X6_needNumber_61, st_X6_needNumber_62, st_X6_needNumber_10 (p := 1) hq_1 ps_, bM_some, hg_1_6, hg_1_10, h1_1, o6, e3, h3, if_false, b1, z1, show (Int32.ofNat 1 = 0) = False from eq_false (by decide), show decide ((1 : Nat) = 0) = false from rfl, b01, cond_false, bC_inl, Option.toList, List.nil_append, Nat.add_zero, Nat.reduceAdd]
  · obtain ⟨e6, e3⟩ := te h0
    have ef : pFl 1 σ = σ := by unfold pFl; rw [if_neg h0]
    rw [ef] at a1
    have z1 : f1 10 = Int32.ofNat (σ.1 0) := a1.2.2.1
    rw [if_neg h0]
    refine ⟨f1, a1, hW, ?_⟩
    rw [decide_eq_false h0]
    simp (disch := omega) only [st_X6_needNumber_0, st_X6_needNumber_1, st_X6_needNumber_4, st_X6_needNumber_5, st_X6_needNumber_8, st_X6_needNumber_9, st_X6_needNumber_13, st_X6_needNumber_50, st_X6_needNumber_51, st_X6_needNumber_54, st_X6_needNumber_61, st_X6_needNumber_62, st_X6_needNumber_10 (p := 1) hq_1 ps_, bM_some, hg_1_6, hg_1_10, h1_1, e6, show ((0 : Int32) = 2) = False by decide, if_false, b1, z1, ne0 h5, h0, b01, cond_false, bC_inl, Option.toList, List.nil_append, Nat.add_zero, Nat.reduceAdd]
theorem pNumS_WF {lo hi : Nat} (hW : WF b n σ) (hN : WF b n (pNeed lo hi σ)) : WF b n (pNumS b n lo hi σ) := by
  unfold pNumS
  split
  · exact pAdv_WF hN.1 hN.2.1 (fun h => ⟨(hN.2.2 h).2.1, (hN.2.2 h).2.2.2.2.2⟩)
  · exact hN
set_option maxHeartbeats 2000000 in
theorem c_num {lo hi : Nat} (hlo : lo < 100000) (hhi : hi < 100000) (hW : WF (g.1 2) n σ) (hT : RT n σ r) : ∃ r' : Rw, RT n (pNumS (g.1 2) n lo hi σ) r' ∧ WF (g.1 2) n (pNumS (g.1 2) n lo hi σ) ∧
    bc (d + 2) M_X6_numberOf none 0 [some (.ref 1), some (.int (Int32.ofNat lo)), some (.int (Int32.ofNat hi)), none] [] (hp t (hR g 1 r)) cn sn = some (.inl (some (.int (Int32.ofNat (pNumV lo hi σ)))), hp t (hR g 1 r'), cn, sn) := by
  obtain ⟨r1, a1, a2, a3⟩ := c_need (d := d) (t := t) (g := g) (cn := 0) (sn := 0) hlo hhi hW hT
  have hWn := pNumS_WF hW a2
  unfold pNumS pNumV
  unfold pNumS at hWn
  by_cases h : (pNeed lo hi σ).1 0 = 0
  · obtain ⟨r2, b1, b2⟩ := c_adv (d := d) (t := t) (g := g) (cn := 0) (sn := 0) a2 a1
    rw [if_pos h] at hWn ⊢
    rw [if_pos h]
    rw [decide_eq_true h] at a3
    have e8 : r1 8 = Int32.ofNat (σ.1 5) := by rw [(a1.2.2.2.2 h).2.2.2.2.1, pNeed_c h]
    refine ⟨r2, b1, hWn, ?_⟩
    simp (disch := omega) only [st_X6_numberOf_0, st_X6_numberOf_1, st_X6_numberOf_2, st_X6_numberOf_6, st_X6_numberOf_11, st_X6_numberOf_12, st_X6_numberOf_15, st_X6_numberOf_16, st_X6_numberOf_20, st_X6_numberOf_21, st_X6_numberOf_3 (p := 1) hq_1 ps_, st_X6_numberOf_17 (p := 1) hq_1 ps_, bM_some, hg_1_8, h1_1, a3, b2, e8, b01, cond_true, nn_one0, if_false, bC_inl, Option.toList, List.cons_append, List.nil_append, Nat.add_zero, lc_r, lc_i, lc_n, Nat.reduceAdd]
  · rw [if_neg h] at hWn ⊢
    rw [if_neg h]
    rw [decide_eq_false h] at a3
    refine ⟨r1, a1, hWn, ?_⟩
    simp (disch := omega) only [st_X6_numberOf_0, st_X6_numberOf_1, st_X6_numberOf_2, st_X6_numberOf_6, st_X6_numberOf_9, st_X6_numberOf_10, st_X6_numberOf_3 (p := 1) hq_1 ps_, a3, b01, cond_false, if_true, bC_inl, Option.toList, List.cons_append, List.nil_append, Nat.add_zero, Nat.reduceAdd]
    rfl
end READ3
