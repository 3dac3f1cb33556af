/-! ===== the reference: is it as heard, put together ===== -/
section MEAR2
variable {d : Nat} {t : List px_E} {g : hG} {j q N S D L T cn sn : Nat} {w a k hm hn : Rw} {x y : Int32} {K : Kt} {f : Rw → Rw}
theorem inL_iff {row : Rw} {i : Nat} : ∀ (m c : Nat) (b : Bool), inL N row hm hn i m c b = true ↔ (b = true ∧ ∀ e, c ≤ e → e < c + m → hm e = Int32.ofNat i → hAt N row (hn e) = true) := by
  intro m
  induction m with
  | zero => intro c b; unfold inL; exact ⟨fun h => ⟨h, fun e h1 h2 => by omega⟩, fun h => h.1⟩
  | succ m ih =>
    intro c b
    unfold inL
    rw [ih, Bool.and_eq_true, Bool.or_eq_true, Bool.not_eq_true', decide_eq_false_iff_not]
    constructor
    · intro ⟨⟨h1, h2⟩, h3⟩
      refine ⟨h1, fun e e1 e2 e3 => ?_⟩
      by_cases c1 : e = c
      · subst c1
        rcases h2 with h2 | h2
        · exact absurd e3 h2
        · exact h2
      · exact h3 e (by omega) (by omega) e3
    · intro ⟨h1, h2⟩
      refine ⟨⟨h1, ?_⟩, fun e e1 e2 e3 => h2 e (by omega) (by omega) e3⟩
      by_cases c1 : hm c = Int32.ofNat i
      · exact Or.inr (h2 c (by omega) (by omega) c1)
      · exact Or.inl c1
theorem outL_iff : ∀ (m i : Nat) (w : Rw) (b : Bool), outL f N hm hn q m i w b = true ↔ (b = true ∧ ∀ u, u < m → ∀ e, e < q → hm e = Int32.ofNat (i + u) → hAt N (iterR f (u + 1) w) (hn e) = true) := by
  intro m
  induction m with
  | zero => intro i w b; unfold outL; exact ⟨fun h => ⟨h, fun u hu => absurd hu (Nat.not_lt_zero _)⟩, fun h => h.1⟩
  | succ m ih =>
    intro i w b
    unfold outL
    cases b with
    | false => exact ⟨fun h => (by cases h), fun h => (by cases h.1)⟩
    | true =>
      rw [if_pos rfl, ih, inL_iff]
      constructor
      · intro ⟨⟨_, h1⟩, h2⟩
        refine ⟨rfl, fun u hu e he h3 => ?_⟩
        cases u with
        | zero => exact h1 e (by omega) (by omega) h3
        | succ u =>
          have := h2 u (by omega) e he (by rw [h3]; congr 1; omega)
          exact this
      · intro ⟨_, h1⟩
        refine ⟨⟨rfl, fun e _ he h3 => h1 0 (by omega) e (by omega) h3⟩, fun u hu e he h3 => ?_⟩
        exact h1 (u + 1) (by omega) e he (by rw [h3]; congr 1; omega)
theorem fitL_iff : ∀ (m i : Nat), fitL f N w hm hn m i = true ↔ ∀ e, i ≤ e → e < i + m → hAt N (iterR f (hm e).toNatClampNeg w) (hn e) = true := by
  intro m
  induction m with
  | zero => intro i; unfold fitL; exact ⟨fun _ e h1 h2 => by omega, fun _ => rfl⟩
  | succ m ih =>
    intro i
    unfold fitL
    by_cases h : hAt N (iterR f (hm i).toNatClampNeg w) (hn i) = true
    · rw [if_pos h, ih]
      constructor
      · intro h1 e e1 e2
        by_cases c : e = i
        · rw [c]; exact h
        · exact h1 e (by omega) (by omega)
      · intro h1 e e1 e2; exact h1 e (by omega) (by omega)
    · rw [if_neg h]
      exact ⟨fun z => (by cases z), fun h1 => absurd (h1 i (by omega) (by omega)) h⟩
theorem out_fit (hb : ∀ i, i < q → 1 ≤ (hm i).toInt ∧ (hm i).toInt ≤ 60) : outL f N hm hn q (lastN hm q) 1 w true = fitL f N w hm hn q 0 := by
  have key : outL f N hm hn q (lastN hm q) 1 w true = true ↔ fitL f N w hm hn q 0 = true := by
    rw [outL_iff, fitL_iff]
    obtain ⟨l1, l2⟩ := lastN_le hb q (Nat.le_refl q)
    constructor
    · intro ⟨_, h⟩ e _ he
      have hbe := hb e (by omega)
      have hl := l2 e (by omega)
      have hc := ii_clamp (a := hm e)
      have := h ((hm e).toNatClampNeg - 1) (by omega) e (by omega) (by rw [show 1 + ((hm e).toNatClampNeg - 1) = (hm e).toNatClampNeg by omega]; exact (ii_nat (by omega)).symm)
      rw [show (hm e).toNatClampNeg - 1 + 1 = (hm e).toNatClampNeg by omega] at this
      exact this
    · intro h
      refine ⟨rfl, fun u hu e he h3 => ?_⟩
      have := h e (by omega) (by omega)
      rw [h3, nn_clamp (by omega), Nat.add_comm 1 u] at this
      exact this
  cases h1 : outL f N hm hn q (lastN hm q) 1 w true with
  | true => exact (key.mp h1).symm
  | false =>
    cases h2 : fitL f N w hm hn q 0 with
    | false => rfl
    | true => rw [key.mpr h2] at h1; cases h1
set_option maxHeartbeats 4000000 in
theorem m_ash_2 (hM : MK K N S D L g) (hK : KN K N S D L) (hO : KO K N S D L) (hq : q ≤ 8) (hH : g.1 49 35 = Int32.ofNat q) {l : Nat} (hl : l ≤ 60) : ∀ m i : Nat, i + m = l + 1 → ∀ (w a k : Rw) (T : Nat) (b : Bool) (a4 : Option Value), RI K N S T w → T + m < 30000 → ∃ a' k' : Rw,
    bc (d + 4) M_X10_isAsHeard none 42 [some (.ref 49), some (.int (Int32.ofNat l)), some (.int (b01 b)), some (.int (Int32.ofNat i)), a4] [] (hp t (gM g w a k)) cn sn = some (.inl (some (.int (b01 (outL (minR K N D L) N (g.1 78) (g.1 79) q m i w b)))), hp t (gM g (unpR (g.1 80) 0) a' k'), cn, sn) := by
  have hu : ∀ (w a k : Rw), bc (d + 3) M_X10_unpack none 0 [some (.ref 49), some (.ref 80), some (.int 0), none] [] (hp t (gM g w a k)) 0 0 = some (.inl none, hp t (gM g (unpR (g.1 80) 0) a k), 0, 0) := fun w a k => m_unpack_80 (b := 0) (by omega)
  intro m
  induction m with
  | zero =>
    intro i hi w a k T b a4 hR hT
    refine ⟨a, k, ?_⟩
    rw [st_X10_isAsHeard_42]
    unfold outL
    cases b <;>
    simp (disch := omega) only [st_X10_isAsHeard_43, st_X10_isAsHeard_44, st_X10_isAsHeard_135, st_X10_isAsHeard_136, st_X10_isAsHeard_137, st_X10_isAsHeard_140, st_X10_isAsHeard_144, st_X10_isAsHeard_145, st_X10_isAsHeard_145b, st_X10_isAsHeard_145b, st_X10_isAsHeard_141 (p := 49) hq_49 ps_, bM_some, hg_49_45, nn_lt, show l < i by omega, if_true, hu, b01, cond_true, cond_false, bC_inl, Option.toList, List.nil_append, Nat.add_zero, Nat.reduceAdd]
  | succ m ih =>
    intro i hi w a k T b a4 hR hT
    rw [st_X10_isAsHeard_42]
    unfold outL
    cases b with
    | false =>
      refine ⟨a, k, ?_⟩
      simp (disch := omega) only [st_X10_isAsHeard_43, st_X10_isAsHeard_44, st_X10_isAsHeard_47, st_X10_isAsHeard_48, st_X10_isAsHeard_135, st_X10_isAsHeard_136, st_X10_isAsHeard_137, st_X10_isAsHeard_140, st_X10_isAsHeard_144, st_X10_isAsHeard_145, st_X10_isAsHeard_145b, st_X10_isAsHeard_141 (p := 49) hq_49 ps_, bM_some, hg_49_45, nn_lt, show ¬ l < i by omega, if_true, if_false, hu, b01, cond_false, bC_inl, Option.toList, List.nil_append, Nat.add_zero, Nat.reduceAdd, Bool.false_eq_true]
    | true =>
      obtain ⟨a1, k1, e⟩ := m_min (d := d) (t := t) (cn := 0) (sn := 0) (a := a) (k := k) hM hK hO hR
      obtain ⟨b4, e3⟩ := m_ash_3 (d := d + 3) (t := t) (w := minR K N D L w) (a := a1) (k := k1) (cn := cn) (sn := sn) (i := i) (l := l) hM hK hq hH (by omega) q 0 (by omega) true
      rw [show Int32.ofNat 0 = (0 : Int32) from rfl, show b01 true = 1 from rfl] at e3
      obtain ⟨a', k', e'⟩ := ih (i + 1) (by omega) (minR K N D L w) a1 k1 (T + 1) (inL N (minR K N D L w) (g.1 78) (g.1 79) i q 0 true) b4 (RI_min hK hO hR (by omega)) (by omega)
      refine ⟨a', k', ?_⟩
      rw [if_pos rfl, ← e', show b01 true = 1 from rfl]
      simp (disch := omega) only [st_X10_isAsHeard_43, st_X10_isAsHeard_44, st_X10_isAsHeard_47, st_X10_isAsHeard_48, st_X10_isAsHeard_51, st_X10_isAsHeard_55, st_X10_isAsHeard_56, st_X10_isAsHeard_52 (p := 49) hq_49 ps_, e, nn_lt, show ¬ l < i by omega, if_false, nn_one0, bC_inl, Option.toList, List.nil_append, Nat.add_zero, lc_r, lc_i, Nat.reduceAdd]
      rw [e3]
      simp (disch := omega) only [st_X10_isAsHeard_129, st_X10_isAsHeard_132, lc_r, lc_i, Nat.reduceAdd, nn_r1]
end MEAR2
