/-! ===== the Reader: expressions ===== -/
def RD (σ : Sg) (g : hG) : Prop := (∃ l : Nat, l ≤ 600 ∧ g.1 12 2 = Int32.ofNat l) ∧ (σ.1 0 = 0 → (g.1 3 10 = Int32.ofNat (σ.1 6) ∧ g.1 3 11 = Int32.ofNat (σ.1 7) ∧ g.1 3 12 = Int32.ofNat (σ.1 8) ∧ g.1 12 2 = Int32.ofNat (σ.1 9)) ∧ (g.1 4 = σ.2 0 ∧ g.1 5 = σ.2 1 ∧ g.1 6 = σ.2 2 ∧ g.1 7 = σ.2 3 ∧ g.1 8 = σ.2 4 ∧ g.1 9 = σ.2 5 ∧ g.1 10 = σ.2 6 ∧ g.1 11 = σ.2 7 ∧ g.1 13 = σ.2 8))
def WD (σ : Sg) : Prop := σ.1 0 = 0 → σ.1 6 ≤ 8 ∧ σ.1 7 ≤ 4 ∧ σ.1 8 ≤ 5 ∧ σ.1 9 ≤ 600
def CR (b : Rw) (n : Nat) (σ : Sg) (g : hG) : Prop := g.1 2 = b ∧ WF b n σ ∧ RT n σ (g.1 1) ∧ RD σ g ∧ WD σ
/-- nothing but the Reader's cells is touched -/
def Sm (g g' : hG) : Prop := g'.2 = g.2 ∧ ∀ c, (c = 0 ∨ c = 2 ∨ 14 ≤ c) → g'.1 c = g.1 c
theorem Sm.refl {g : hG} : Sm g g := ⟨rfl, fun _ _ => rfl⟩
theorem Sm.trans {g g' g'' : hG} (h : Sm g g') (h' : Sm g' g'') : Sm g g'' := ⟨h'.1.trans h.1, fun c hc => (h'.2 c hc).trans (h.2 c hc)⟩
theorem Sm_r {g : hG} {c : Nat} {f : Rw} (hc : c = 1 ∨ (2 < c ∧ c < 14)) : Sm g (hR g c f) := ⟨rfl, fun k hk => by rw [hR_oth (by omega)]⟩
theorem Sm_i {g : hG} {c i : Nat} {x : Int32} (hc : c = 1 ∨ (2 < c ∧ c < 14)) : Sm g (hI g c i x) := by rw [hI_R]; exact Sm_r hc
section READ5
variable {d : Nat} {t : List px_E} {g : hG} {n cn sn : Nat} {b : Rw} {x : Int32} {σ σ' : Sg} {k : UInt32} {w : List Int32} {c : Nat}
theorem CR_tok {r : Rw} (h : CR b n σ g) (hW : WF b n σ') (hT : RT n σ' r) (hk : σ'.2 = σ.2) (hs : ∀ i, 6 ≤ i → i ≤ 9 → σ'.1 i = σ.1 i) (h0 : σ'.1 0 = 0 → σ.1 0 = 0) : CR b n σ' (hR g 1 r) := by
  obtain ⟨h1, h2, h3, h4, h5⟩ := h
  refine ⟨h1, hW, hT, ⟨h4.1, fun z => ?_⟩, fun z => ?_⟩
  · rw [hk, hs 6 (by omega) (by omega), hs 7 (by omega) (by omega), hs 8 (by omega) (by omega), hs 9 (by omega) (by omega)]
    exact h4.2 (h0 z)
  · rw [hs 6 (by omega) (by omega), hs 7 (by omega) (by omega), hs 8 (by omega) (by omega), hs 9 (by omega) (by omega)]
    exact h5 (h0 z)
theorem CR_adv0 {r : Rw} (h : CR b n σ g) (hT : RT n (pAdv b n σ) r) : CR b n (pAdv b n σ) (hR g 1 r) :=
  CR_tok h (pAdv_WF h.2.1.1 h.2.1.2.1 (fun z => ⟨(h.2.1.2.2 z).2.1, (h.2.1.2.2 z).2.2.2.2.2⟩)) hT pAdv_K (fun i h1 h2 => pAdv_o (by omega)) (fun z => by rw [pAdv_0] at z; exact z)
theorem k_adv (h : CR b n σ g) : ∃ g' : hG, CR b n (pAdv b n σ) g' ∧ Sm g g' ∧ bc (d + 1) M_X6_advance none 0 [some (.ref 1)] [] (hp t g) cn sn = some (.inl none, hp t g', cn, sn) := by
  have hb := h.1
  obtain ⟨r', q1, q2⟩ := c_adv (d := d) (t := t) (g := g) (r := g.1 1) (cn := cn) (sn := sn) (by rw [hb]; exact h.2.1) h.2.2.1
  rw [hb] at q1
  rw [hR_self] at q2
  exact ⟨hR g 1 r', CR_adv0 h q1, Sm_r (by omega), q2⟩
theorem pFl_K : (pFl c σ).2 = σ.2 := by unfold pFl; split <;> rfl
theorem pFl_o {i : Nat} (hi : 2 ≤ i) : (pFl c σ).1 i = σ.1 i := by
  unfold pFl; split
  · simp only [sN_at]; rw [if_neg (by omega), if_neg (by omega)]
  · rfl
theorem k_fail (h : CR b n σ g) (hc : 1 ≤ c ∧ c ≤ 5) : ∃ g' : hG, CR b n (pFl c σ) g' ∧ Sm g g' ∧ bc d M_X6_fail none 0 [some (.ref 1), some (.int (Int32.ofNat c))] [] (hp t g) cn sn = some (.inl none, hp t g', cn, sn) := by
  have hb := h.1
  obtain ⟨r', q1, q2⟩ := c_fail (d := d) (t := t) (g := g) (r := g.1 1) (cn := cn) (sn := sn) (c := c) (by rw [hb]; exact h.2.1) h.2.2.1 hc
  rw [hR_self] at q2
  exact ⟨hR g 1 r', CR_tok h (pFl_WF h.2.1 hc) q1 pFl_K (fun i h1 h2 => pFl_o (by omega)) (fun z => by rw [pFl_0] at z; split at z <;> omega), Sm_r (by omega), q2⟩
theorem k_isSign (h : CR b n σ g) : bc d M_X6_isSign none 0 [some (.ref 1), some (.int x)] [] (hp t g) cn sn = some (.inl (some (.int (b01 (pIsS b x σ)))), hp t g, cn, sn) := by
  have hb := h.1
  have := c_isSign (d := d) (t := t) (g := g) (r := g.1 1) (x := x) (cn := cn) (sn := sn) (by rw [hb]; exact h.2.1) h.2.2.1
  rw [hR_self, hb] at this
  exact this
theorem k_isWord (hk : txK k w) (hl : w.length < 100) (h : CR b n σ g) : bc (d + 12) M_X6_isWord none 0 [some (.ref 1), some (.float k), none] [] (hp t g) cn sn = some (.inl (some (.int (b01 (pIsW b w σ)))), hp t g, cn, sn) := by
  have hb := h.1
  have := c_isWord (d := d) (t := t) (g := g) (r := g.1 1) (cn := cn) (sn := sn) hk hl (by rw [hb]; exact h.2.1) h.2.2.1
  rw [hR_self, hb] at this
  exact this
theorem k_valueWord (h : CR b n σ g) : bc (d + 13) M_X6_valueWord none 0 [some (.ref 1)] [] (hp t g) cn sn = some (.inl (some (.int (wI (whW b σ wVal 0)))), hp t g, cn, sn) := by
  have hb := h.1
  have := c_valueWord (d := d) (t := t) (g := g) (r := g.1 1) (cn := cn) (sn := sn) (by rw [hb]; exact h.2.1) h.2.2.1
  rw [hR_self, hb] at this
  exact this
theorem k_kettleWord (h : CR b n σ g) : bc (d + 13) M_X6_kettleWord none 0 [some (.ref 1)] [] (hp t g) cn sn = some (.inl (some (.int (wI (whW b σ wKin 0)))), hp t g, cn, sn) := by
  have hb := h.1
  have := c_kettleWord (d := d) (t := t) (g := g) (r := g.1 1) (cn := cn) (sn := sn) (by rw [hb]; exact h.2.1) h.2.2.1
  rw [hR_self, hb] at this
  exact this
theorem k_expect (h : CR b n σ g) : ∃ g' : hG, CR b n (pEx b n x σ) g' ∧ Sm g g' ∧ bc (d + 2) M_X6_expect none 0 [some (.ref 1), some (.int x)] [] (hp t g) cn sn = some (.inl none, hp t g', cn, sn) := by
  have hb := h.1
  obtain ⟨r', q1, q2⟩ := c_expect (d := d) (t := t) (g := g) (r := g.1 1) (x := x) (cn := cn) (sn := sn) (by rw [hb]; exact h.2.1) h.2.2.1
  rw [hR_self] at q2
  rw [hb] at q1
  refine ⟨hR g 1 r', ?_, Sm_r (by omega), q2⟩
  unfold pEx at q1 ⊢
  split
  · next hs => rw [if_pos hs] at q1; exact CR_adv0 h q1
  · next hs => rw [if_neg hs] at q1; exact CR_tok h (pFl_WF h.2.1 (by omega)) q1 pFl_K (fun i h1 h2 => pFl_o (by omega)) (fun z => by rw [pFl_0] at z; split at z <;> omega)
theorem pNeed_K {lo hi : Nat} : (pNeed lo hi σ).2 = σ.2 := by
  unfold pNeed
  repeat' split
  all_goals first | rfl | exact pFl_K
theorem pNeed_o {lo hi i : Nat} (h : 2 ≤ i) : (pNeed lo hi σ).1 i = σ.1 i := by
  unfold pNeed
  repeat' split
  all_goals first | rfl | exact pFl_o h
theorem pNumS_K {lo hi : Nat} : (pNumS b n lo hi σ).2 = σ.2 := by
  unfold pNumS
  split
  · rw [pAdv_K, pNeed_K]
  · exact pNeed_K
theorem pNumS_o {lo hi i : Nat} (h : 6 ≤ i) : (pNumS b n lo hi σ).1 i = σ.1 i := by
  unfold pNumS
  split
  · rw [pAdv_o (by omega), pNeed_o (by omega)]
  · exact pNeed_o (by omega)
theorem pNumS_0 {lo hi : Nat} : (pNumS b n lo hi σ).1 0 = 0 → σ.1 0 = 0 := by
  intro h
  have h1 : (pNeed lo hi σ).1 0 = 0 := by
    unfold pNumS at h
    split at h
    · rw [pAdv_0] at h; exact h
    · exact h
  rw [← pNeed_c h1]; exact h1
theorem k_num {lo hi : Nat} (hlo : lo < 100000) (hhi : hi < 100000) (h : CR b n σ g) : ∃ g' : hG, CR b n (pNumS b n lo hi σ) g' ∧ Sm g g' ∧ (∀ c, ¬ c = 1 → g'.1 c = g.1 c) ∧
    bc (d + 2) M_X6_numberOf none 0 [some (.ref 1), some (.int (Int32.ofNat lo)), some (.int (Int32.ofNat hi)), none] [] (hp t g) cn sn = some (.inl (some (.int (Int32.ofNat (pNumV lo hi σ)))), hp t g', cn, sn) := by
  have hb := h.1
  obtain ⟨r', q1, q2, q3⟩ := c_num (d := d) (t := t) (g := g) (r := g.1 1) (cn := cn) (sn := sn) hlo hhi (by rw [hb]; exact h.2.1) h.2.2.1
  rw [hR_self] at q3
  rw [hb] at q1 q2
  exact ⟨hR g 1 r', CR_tok h q2 q1 pNumS_K (fun i h1 h2 => pNumS_o h1) pNumS_0, Sm_r (by omega), fun c hc => by rw [hR_oth hc], q3⟩
set_option maxHeartbeats 2000000 in
theorem k_add (h : CR b n σ g) : ∃ g' : hG, CR b n (pAdd x σ) g' ∧ Sm g g' ∧ bc d M_X7_add none 0 [some (.ref 12), some (.int x)] [] (hp t g) cn sn = some (.inl none, hp t g', cn, sn) := by
  obtain ⟨h1, h2, h3, ⟨⟨l, hl, el⟩, h4⟩, h5⟩ := h
  have lt6 : (Int32.ofNat l < 600) = (l < 600) := nn_l600 (by omega)
  by_cases hl6 : l < 600
  · refine ⟨hI (hI g 13 l x) 12 2 (Int32.ofNat (l + 1)), ?_, (Sm_i (by omega)).trans (Sm_i (by omega)), ?_⟩
    · by_cases h0 : σ.1 0 = 0
      · obtain ⟨⟨a1, a2, a3, a4⟩, k0, k1, k2, k3, k4, k5, k6, k7, k8⟩ := h4 h0
        have d1 := h5 h0
        have e9 : σ.1 9 = l := by rw [el, nn_inj (by omega) (by omega)] at a4; exact a4.symm
        unfold pAdd
        rw [if_pos ⟨h0, by omega⟩]
        refine ⟨h1, ⟨h2.1, ?_, fun z => ?_⟩, ?_, ⟨⟨l + 1, by omega, rfl⟩, fun z => ⟨⟨?_, ?_, ?_, ?_⟩, k0, k1, k2, k3, k4, k5, k6, k7, ?_⟩⟩, fun z => ?_⟩
        · simp only [sN_at, sK_1]; exact h2.2.1
        · simp only [sN_at, sK_1]; exact h2.2.2 h0
        · exact h3
        · exact a1
        · exact a2
        · exact a3
        · show Int32.ofNat (l + 1) = Int32.ofNat (σ.1 9 + 1); rw [e9]
        · funext j
          show (hI g 13 l x).1 13 j = if (8 : Nat) = 8 ∧ j = σ.1 9 then x else σ.2 8 j
          rw [hI_at, k8, e9]
          by_cases ej : j = l
          · rw [if_pos ⟨rfl, ej⟩, if_pos ⟨rfl, ej⟩]
          · rw [if_neg (fun z => ej z.2), if_neg (fun z => ej z.2)]
        · simp only [sN_at, sK_1]
          exact ⟨d1.1, d1.2.1, d1.2.2.1, by show σ.1 9 + 1 ≤ 600; omega⟩
      · unfold pAdd
        rw [if_neg (fun z => h0 z.1)]
        exact ⟨h1, h2, h3, ⟨⟨l + 1, by omega, rfl⟩, fun z => absurd z h0⟩, fun z => absurd z h0⟩
    · simp (disch := omega) only [st_X7_add_0, st_X7_add_1, st_X7_add_4, st_X7_add_7, st_X7_add_10, st_X7_add_11, st_X7_add_14, st_X7_add_15, st_X7_add_18, st_X7_add_19, st_X7_add_20, st_X7_add_22, st_X7_add_25, st_X7_add_26, st_X7_add_27, st_X7_add_30, st_X7_add_21r, bM_some, hg_12_0, hg_12_2, hs_12_2, hw_13, show ∀ (gg : hG) (j : Nat) (y : Int32), (hI gg 13 j y).1 12 = gg.1 12 from fun _ _ _ => rfl, el, lt6, hl6, if_true, nn_out, nn_clamp, cond_false, nn_r1, Nat.reduceAdd]
  · refine ⟨g, ?_, Sm.refl, ?_⟩
    · unfold pAdd
      rw [if_neg]
      · exact ⟨h1, h2, h3, ⟨⟨l, hl, el⟩, h4⟩, h5⟩
      · intro z
        have a4 := (h4 z.1).1.2.2.2
        have d1 := h5 z.1
        rw [el, nn_inj (by omega) (by omega)] at a4
        omega
    · simp (disch := omega) only [st_X7_add_0, st_X7_add_1, st_X7_add_4, st_X7_add_7, st_X7_add_30, bM_some, hg_12_2, el, lt6, hl6, if_false, Nat.reduceAdd]
/-- what an expression within depth others does -/
def kEx (b : Rw) (n D dep : Nat) (rc : Sg → Sg) : Prop := ∀ (σ : Sg) (g : hG) (t : List px_E) (cn sn : Nat), CR b n σ g → ∃ g' : hG, CR b n (rc σ) g' ∧ Sm g g' ∧ bc D M_X6_expr none 0 [some (.ref 1), some (.int (Int32.ofNat dep)), none] [] (hp t g) cn sn = some (.inl none, hp t g', cn, sn)
theorem tok_e {q : Nat} (hq : q ≤ 5) (h : CR b n σ g) (hq0 : ¬ q = 0) : (g.1 1 6 = Int32.ofNat q) = (σ.1 0 = 0 ∧ σ.1 3 = q) := by
  obtain ⟨h1, h2, h3, h4, h5⟩ := h
  apply propext
  by_cases h0 : σ.1 0 = 0
  · rw [(h3.2.2.2.2 h0).2.2.1]
    have h35 : σ.1 3 ≤ 5 := by rw [(h2.2.2 h0).2.2.1]; exact sor_le
    rw [nn_inj (by omega) (by omega)]
    exact ⟨fun z => ⟨h0, z⟩, fun z => z.2⟩
  · rw [(h3.2.2.2.1 h0).1]
    constructor
    · intro z
      rw [show (0 : Int32) = Int32.ofNat 0 from rfl, nn_inj (by omega) (by omega)] at z
      exact absurd z.symm hq0
    · intro z; exact absurd z.1 h0
theorem flt_e (h : CR b n σ g) : (g.1 1 10 = 0) = (σ.1 0 = 0) := by
  rw [h.2.2.1.2.2.1, nn_e0 (by have := h.2.1.2.1; omega)]
theorem pAdd_1 : (pAdd x σ).1 0 = σ.1 0 := by
  unfold pAdd; split
  · rfl
  · rfl
set_option maxHeartbeats 8000000 in
theorem k_part {dep : Nat} {rc : Sg → Sg} (hrc : kEx b n (d + 14) (dep + 1) rc) (h : CR b n σ g) : ∃ g' : hG, CR b n (pPart b n rc σ) g' ∧ Sm g g' ∧ bc (d + 15) M_X6_part none 0 [some (.ref 1), some (.int (Int32.ofNat dep)), none] [] (hp t g) cn sn = some (.inl none, hp t g', cn, sn) := by
  have t2 : (g.1 1 6 = 2) = (σ.1 0 = 0 ∧ σ.1 3 = 2) := tok_e (q := 2) (by omega) h (by omega)
  have t1 : (g.1 1 6 = 1) = (σ.1 0 = 0 ∧ σ.1 3 = 1) := tok_e (q := 1) (by omega) h (by omega)
  unfold pPart
  by_cases h0 : σ.1 0 = 0
  · rw [if_pos h0]
    by_cases h2 : σ.1 3 = 2
    · rw [if_pos h2]
      obtain ⟨g1, c1, s1, -, e1⟩ := k_num (d := d + 12) (t := t) (cn := 0) (sn := 0) (lo := 0) (hi := 9999) (by omega) (by omega) h
      obtain ⟨g2, c2, s2, e2⟩ := k_add (d := d + 14) (t := t) (x := Int32.ofNat (pNumV 0 9999 σ)) (cn := 0) (sn := 0) c1
      rw [show Int32.ofNat 0 = (0 : Int32) from rfl, show Int32.ofNat 9999 = (9999 : Int32) from rfl] at e1
      refine ⟨g2, c2, s1.trans s2, ?_⟩
      simp (disch := omega) only [st_X6_part_0, st_X6_part_1, st_X6_part_4, st_X6_part_5, st_X6_part_8, st_X6_part_9, st_X6_part_12, st_X6_part_15, st_X6_part_16, st_X6_part_17, st_X6_part_26, st_X6_part_101, st_X6_part_20 (p := 1) hq_1 ps_r, st_X6_part_23 (p := 12) hq_12 ps_, bM_some, hg_1_6, hg_1_1, hg_3_8, t2.trans (eq_true ⟨h0, h2⟩), if_true, e1, e2, bC_inl, Option.toList, List.cons_append, List.nil_append, Nat.add_zero, Nat.reduceAdd]
    · rw [if_neg h2]
      by_cases h1 : σ.1 3 = 1
      · rw [if_pos h1]
        have ev := k_valueWord (d := d + 1) (t := t) (cn := 0) (sn := 0) h
        cases hv : whW b σ wVal 0 with
        | none =>
          rw [hv] at ev
          obtain ⟨g1, c1, s1, e1⟩ := k_fail (d := d + 14) (t := t) (cn := 0) (sn := 0) (c := 3) h (by omega)
          rw [show Int32.ofNat 3 = (3 : Int32) from rfl] at e1
          refine ⟨g1, c1, s1, ?_⟩
          simp (disch := omega) only [st_X6_part_0, st_X6_part_1, st_X6_part_4, st_X6_part_5, st_X6_part_29, st_X6_part_30, st_X6_part_33, st_X6_part_34, st_X6_part_37, st_X6_part_41, st_X6_part_42, st_X6_part_43, st_X6_part_44, st_X6_part_47, st_X6_part_48, st_X6_part_52, st_X6_part_38 (p := 1) hq_1 ps_, st_X6_part_49 (p := 1) hq_1 ps_, bM_some, hg_1_6, t2.trans (eq_false (fun z => h2 z.2)), t1.trans (eq_true ⟨h0, h1⟩), if_true, if_false, ev, wI, e1, bC_inl, Option.toList, List.cons_append, List.nil_append, Nat.add_zero, lc_r, lc_i, lc_n, Nat.reduceAdd]
        | some v =>
          rw [hv] at ev
          have hv7 : v < 7 := by have := whW_lt wVal 0 hv; exact (by simpa [wVal] using this)
          obtain ⟨g1, c1, s1, e1⟩ := k_add (d := d + 14) (t := t) (x := Int32.ofNat (10000 + v)) (cn := 0) (sn := 0) h
          obtain ⟨g2, c2, s2, e2⟩ := k_adv (d := d + 13) (t := t) (cn := 0) (sn := 0) c1
          have ea : (10000 : Int32) + Int32.ofNat v = Int32.ofNat (10000 + v) := (Int32.ofNat_add 10000 v).symm
          refine ⟨g2, c2, s1.trans s2, ?_⟩
          simp (disch := omega) only [st_X6_part_0, st_X6_part_1, st_X6_part_4, st_X6_part_5, st_X6_part_29, st_X6_part_30, st_X6_part_33, st_X6_part_34, st_X6_part_37, st_X6_part_41, st_X6_part_42, st_X6_part_43, st_X6_part_44, st_X6_part_53, st_X6_part_54, st_X6_part_57, st_X6_part_60, st_X6_part_63, st_X6_part_64, st_X6_part_68, st_X6_part_72, st_X6_part_101, st_X6_part_38 (p := 1) hq_1 ps_, st_X6_part_65 (p := 12) hq_12 ps_, st_X6_part_69 (p := 1) hq_1 ps_, bM_some, hg_1_6, hg_1_1, hg_3_8, t2.trans (eq_false (fun z => h2 z.2)), t1.trans (eq_true ⟨h0, h1⟩), if_true, if_false, ev, wI, nn_nneg, ea, e1, e2, bC_inl, Option.toList, List.cons_append, List.nil_append, Nat.add_zero, lc_r, lc_i, lc_n, Nat.reduceAdd]
      · rw [if_neg h1]
        obtain ⟨g1, c1, s1, e1⟩ := k_expect (d := d + 12) (t := t) (x := 40) (cn := 0) (sn := 0) h
        have f1 := flt_e c1
        by_cases hx : (pEx b n 40 σ).1 0 = 0
        · rw [if_pos hx]
          obtain ⟨g2, c2, s2, e2⟩ := hrc (pEx b n 40 σ) g1 t 0 0 c1
          obtain ⟨g3, c3, s3, e3⟩ := k_expect (d := d + 12) (t := t) (x := 41) (cn := 0) (sn := 0) c2
          refine ⟨g3, c3, s1.trans (s2.trans s3), ?_⟩
          simp (disch := omega) only [st_X6_part_0, st_X6_part_1, st_X6_part_4, st_X6_part_5, st_X6_part_29, st_X6_part_30, st_X6_part_33, st_X6_part_34, st_X6_part_75, st_X6_part_76, st_X6_part_81, st_X6_part_82, st_X6_part_85, st_X6_part_88, st_X6_part_89, st_X6_part_90, st_X6_part_91, st_X6_part_95, st_X6_part_96, st_X6_part_101, st_X6_part_78 (p := 1) hq_1 ps_, st_X6_part_92 (p := 1) hq_1 ps_, st_X6_part_98 (p := 1) hq_1 ps_, bM_some, hg_1_6, hg_1_10, t2.trans (eq_false (fun z => h2 z.2)), t1.trans (eq_false (fun z => h1 z.2)), f1, hx, if_true, if_false, e1, e2, e3, nn_r1, bC_inl, Option.toList, List.nil_append, Nat.add_zero, Nat.reduceAdd]
        · rw [if_neg hx]
          refine ⟨g1, c1, s1, ?_⟩
          simp (disch := omega) only [st_X6_part_0, st_X6_part_1, st_X6_part_4, st_X6_part_5, st_X6_part_29, st_X6_part_30, st_X6_part_33, st_X6_part_34, st_X6_part_75, st_X6_part_76, st_X6_part_81, st_X6_part_82, st_X6_part_85, st_X6_part_101, st_X6_part_78 (p := 1) hq_1 ps_, bM_some, hg_1_6, hg_1_10, t2.trans (eq_false (fun z => h2 z.2)), t1.trans (eq_false (fun z => h1 z.2)), f1, hx, if_false, e1, bC_inl, Option.toList, List.nil_append, Nat.add_zero, Nat.reduceAdd]
  · rw [if_neg h0]
    obtain ⟨g1, c1, s1, e1⟩ := k_expect (d := d + 12) (t := t) (x := 40) (cn := 0) (sn := 0) h
    have ee : pEx b n 40 σ = σ := by
      unfold pEx pIsS pFl
      rw [decide_eq_false h0, Bool.false_and, if_neg (by simp), if_neg h0]
    rw [ee] at c1
    have f1 := flt_e c1
    refine ⟨g1, c1, s1, ?_⟩
    simp (disch := omega) only [st_X6_part_0, st_X6_part_1, st_X6_part_4, st_X6_part_5, st_X6_part_29, st_X6_part_30, st_X6_part_33, st_X6_part_34, st_X6_part_75, st_X6_part_76, st_X6_part_81, st_X6_part_82, st_X6_part_85, st_X6_part_101, st_X6_part_78 (p := 1) hq_1 ps_, bM_some, hg_1_6, hg_1_10, t2.trans (eq_false (fun z => h0 z.1)), t1.trans (eq_false (fun z => h0 z.1)), f1.trans (eq_false h0), if_false, e1, bC_inl, Option.toList, List.nil_append, Nat.add_zero, Nat.reduceAdd]
end READ5
