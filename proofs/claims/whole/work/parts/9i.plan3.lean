/-! ===== soonest: the class, whole ===== -/
def plA (K : Kt) (N S D L dd : Nat) (w : Rw) : Nat × Int32 × Rw := if w (48 + dd) = -1 then clL (lfS (minR K N D L) N S dd w) (N + 1) S ((N + 1) ^ S) 0 (60, -1, fun _ => -1) else (60, -1, fun _ => -1)
/-- minutes left and the best minute belong together -/
def QI (q : Nat × Int32 × Rw) : Prop := (q.2.1 = -1 ∧ q.1 = 60) ∨ (q.2.1 = Int32.ofNat (q.1 + 1) ∧ q.1 < 60)
section PLAN3
variable {d : Nat} {t : List px_E} {g : hG} {C N S D L Tm cn sn dd : Nat} {e T b w v k : Rw} {s x : Int32} {n : Int64}
theorem QI_le {q : Nat × Int32 × Rw} (h : QI q) : q.1 ≤ 60 := by
  rcases h with h | h <;> omega
theorem lfS_QI {f : Rw → Rw} {P : Rw} {q : Nat × Int32 × Rw} (h : QI q) : QI (lfS f N S dd w P q) := by
  unfold lfS
  split
  · exact h
  · next hne =>
    have hl := QI_le h
    rcases seekR_b (f := f) (P := fun _ w' => bR w' dd) q.1 1 (stR N S P w) with e | ⟨u, h1, h2, h3⟩
    · exact absurd e hne
    · right
      rw [h3, nn_clamp (by omega)]
      exact ⟨by dsimp only; rw [show u - 1 + 1 = u by omega], by dsimp only; omega⟩
theorem lfS_congr {f : Rw → Rw} (P P' : Rw) (q : Nat × Int32 × Rw) (h : ∀ e, e < S → P e = P' e) : lfS f N S dd w P q = lfS f N S dd w P' q := by
  have e1 : stR N S P w = stR N S P' w := stP_congr S 0 _ (fun e _ he => h e (by omega))
  unfold lfS
  rw [e1]
  split
  · rfl
  · congr 2
    funext i
    by_cases hi : i < S
    · simp only [if_pos hi]; exact h i hi
    · simp only [if_neg hi]
theorem clL_0 {f : Rw → Rw} : ∀ (m n : Nat) (q : Nat × Int32 × Rw), q.1 = 0 → clL (lfS f N S dd w) C S m n q = q := by
  intro m
  induction m with
  | zero => intro n q _; rfl
  | succ m ih =>
    intro n q h
    unfold clL
    have e1 : ∀ P, lfS f N S dd w P q = q := by
      intro P
      unfold lfS
      rw [h]
      exact if_pos rfl
    rw [e1]
    split <;> exact ih _ _ h
theorem tup_b (hN : N ≤ 8) {i nn : Nat} : tupR (N + 1) S nn i = -1 ∨ (0 ≤ (tupR (N + 1) S nn i).toInt ∧ (tupR (N + 1) S nn i).toInt < N) := by
  unfold tupR
  have h : dgt (N + 1) S nn i < N + 1 := Nat.mod_lt _ (by omega)
  by_cases h0 : dgt (N + 1) S nn i = 0
  · left; rw [h0]; decide
  · right
    rw [nn_p1 (by omega), ii_ofNat (by omega)]; omega
theorem rows_lt (hN : N ≤ 8) (hS : S ≤ 4) : (N + 1) ^ S ≤ 6561 := by
  have h1 : (N + 1) ^ S ≤ 9 ^ S := Nat.pow_le_pow_left (by omega) S
  have h2 : 9 ^ S ≤ 9 ^ 4 := Nat.pow_le_pow_right (by omega) hS
  have h3 : (9 : Nat) ^ 4 = 6561 := by decide
  omega
theorem cpS {i : Nat} (hS : S ≤ 4) : va_cpy T b (0 : Int32).toNatClampNeg (0 : Int32).toNatClampNeg (Int32.ofNat S).toNatClampNeg i = if i < S then T i else b i := by
  unfold va_cpy
  rw [nn_clamp (by omega), show (0 : Int32).toNatClampNeg = 0 by decide]
  by_cases h : i < S
  · rw [if_pos (by omega), if_pos h]; congr 1; omega
  · rw [if_neg (by omega), if_neg h]
theorem cpokS (hS : S ≤ 4) : px_cpok 0 0 (Int32.ofNat S) 4 4 = true := by
  have : ∀ S : Nat, S ≤ 4 → px_cpok 0 0 (Int32.ofNat S) 4 4 = true := by decide +kernel
  exact this S hS
set_option maxHeartbeats 8000000 in
theorem sr_l (hK : KN (kC g) N S D L) (hO : KO (kC g) N S D L) (hR' : RI (kC g) N S 9999 (g.1 29)) (hd : dd < D) (hz : Z54 (g.1 29)) (h0 : g.1 29 (48 + dd) = -1) : ∀ m nn : Nat, nn + m = (N + 1) ^ S → ∀ (q : Nat × Int32 × Rw) (e T b w : Rw) (s : Int32) (n : Int64) (v k : Rw) (a8 : Option Value), QI q → e 3 = q.2.1 → (∀ i, i < 4 → b i = q.2.2 i) → Z54 w → ∃ (e' T' b' w' : Rw) (s' : Int32) (n' : Int64) (v' k' : Rw), e' 4 = e 4 ∧ e' 3 = (clL (lfS (minR (kC g) N D L) N S dd (g.1 29)) (N + 1) S m nn q).2.1 ∧ (∀ i, i < 4 → b' i = (clL (lfS (minR (kC g) N D L) N S dd (g.1 29)) (N + 1) S m nn q).2.2 i) ∧ Z54 w' ∧
    bc (d + 5) M_X5_search none 43 [some (.ref 41), some (.ref 16), some (.ref 29), some (.int (Int32.ofNat dd)), some (.int (Int32.ofNat (N + 1))), some (.int (Int32.ofNat ((N + 1) ^ S))), some (.int (Int32.ofNat q.1)), some (.int (Int32.ofNat nn)), a8] [] (hp t (gQ g e T b w s n v k)) cn sn = some (.inl none, hp t (gQ g e' T' b' w' s' n' v' k'), cn, sn) := by
  have h8 := hK.2.1
  have h4 := hK.2.2.2.1
  have hSS : g.1 16 11 = Int32.ofNat S := hK.2.2.1
  have h5 := hK.2.2.2.2.2.1
  have hrows := rows_lt (N := N) (S := S) h8 h4
  intro m
  induction m with
  | zero =>
    intro nn hn q e T b w s n v k a8 hq he hb hw
    refine ⟨e, T, b, w, s, n, v, k, rfl, he, hb, hw, ?_⟩
    rw [st_X5_search_43]
    simp (disch := omega) only [st_X5_search_45, st_X5_search_47, st_X5_search_127, nn_lt, show ¬ nn < (N + 1) ^ S by omega, if_false, Nat.reduceAdd]
  | succ m ih =>
    intro nn hn q e T b w s n v k a8 hq he hb hw
    have hq60 := QI_le hq
    by_cases hq0 : q.1 = 0
    · rw [clL_0 (m + 1) nn q hq0]
      refine ⟨e, T, b, w, s, n, v, k, rfl, he, hb, hw, ?_⟩
      rw [hq0, st_X5_search_43]
      simp (disch := omega) only [st_X5_search_45, st_X5_search_47, st_X5_search_50, st_X5_search_52, st_X5_search_127, nn_lt, show nn < (N + 1) ^ S by omega, if_true, nn_lz, Nat.lt_irrefl, if_false, Nat.reduceAdd]
    · have ec := c_chooseP (d := d + 4) (t := t) (g := g) (e := e) (T := T) (b := b) (w := w) (s := s) (n := n) (v := v) (k := k) (cn := 0) (sn := 0) (C := N + 1) (S := S) (nn := nn) (by omega) (by omega) h4 (by omega)
      obtain ⟨q1, q2, -⟩ := chO_spec (C := N + 1) S nn 0 T
      unfold clL
      have hok : (chO (N + 1) S nn 0 (fun _ => 0)).1 = (chO (N + 1) S nn 0 T).1 := by
        rw [Bool.eq_iff_iff, chO_ok, chO_ok]
      rw [hok]
      cases hc : (chO (N + 1) S nn 0 T).1 with
      | false =>
        rw [hc] at ec
        obtain ⟨e', T', b', w', s', n', v', k', r1, r2, r3, r4, r5⟩ := ih (nn + 1) (by omega) q e (chO (N + 1) S nn 0 T).2 b w s n v k a8 hq he hb hw
        rw [if_neg (by simp)]
        refine ⟨e', T', b', w', s', n', v', k', r1, r2, r3, r4, ?_⟩
        rw [← r5, st_X5_search_43]
        simp (disch := omega) only [st_X5_search_45, st_X5_search_47, st_X5_search_50, st_X5_search_52, st_X5_search_55, st_X5_search_56, st_X5_search_58, st_X5_search_59, st_X5_search_62, st_X5_search_67, st_X5_search_121, st_X5_search_124, st_X5_search_64 (p := 41) hq_41 ps_, ec, nn_lt, show nn < (N + 1) ^ S by omega, if_true, nn_lz, show 0 < q.1 by omega, bM_some, hg_16_11, gQ_11, hSS, b01, cond_false, bC_inl, Option.toList, List.cons_append, List.nil_append, Nat.add_zero, lc_r, lc_i, nn_r1, Nat.reduceAdd]
      | true =>
        rw [hc] at ec
        have hT := q2 hc
        have hP : ∀ e, e < S → (chO (N + 1) S nn 0 T).2 e = -1 ∨ (0 ≤ ((chO (N + 1) S nn 0 T).2 e).toInt ∧ ((chO (N + 1) S nn 0 T).2 e).toInt < N) := fun e he => by rw [hT e he]; exact tup_b h8
        generalize (chO (N + 1) S nn 0 T).2 = T1 at ec hT hP
        have eT : ∀ e, e < S → T1 e = tupR (N + 1) S nn e := hT
        have es := c_setOut (d := d + 3) (t := t) (g := g) (e := e) (T := T1) (b := b) (w := w) (s := s) (n := n) (v := v) (k := k) (cn := 0) (sn := 0) hK hP hz hw
        obtain ⟨s1, s2⟩ := stR_RI hP h4 h8 hR'
        have hz1 : Z54 (stR N S T1 (g.1 29)) := fun i hi => by rw [s2 i (by omega)]; exact hz i hi
        obtain ⟨w1, s1', n1, v1, k1, hw1, er⟩ := c_readyMinute (d := d) (t := t) (g := g) (e := e) (T := T1) (b := b) (w := stR N S T1 (g.1 29)) (s := s) (n := n) (v := v) (k := k) (cn := 0) (sn := 0) hK hO hd (last := q.1) hq60 hz1
        rw [rdL_seek hK hO hd q.1 1 _ 9999 s1 (by omega) (by rw [s2 _ (by omega)]; exact h0)] at er
        rw [if_pos rfl, ← lfS_congr T1 (tupR (N + 1) S nn) q eT]
        have hq' := lfS_QI (f := minR (kC g) N D L) (N := N) (S := S) (dd := dd) (w := g.1 29) (P := T1) hq
        unfold lfS at hq' ⊢
        by_cases hv : seekR (minR (kC g) N D L) (fun _ w' => bR w' dd) q.1 1 (stR N S T1 (g.1 29)) = -1
        · rw [hv] at er
          rw [if_pos hv]
          obtain ⟨e', T', b', w', s', n', v', k', r1, r2, r3, r4, r5⟩ := ih (nn + 1) (by omega) q e T1 b w1 s1' n1 v1 k1 (some (.int (-1))) hq he hb hw1
          refine ⟨e', T', b', w', s', n', v', k', r1, r2, r3, r4, ?_⟩
          rw [← r5, st_X5_search_43]
          simp (disch := omega) only [st_X5_search_45, st_X5_search_47, st_X5_search_50, st_X5_search_52, st_X5_search_55, st_X5_search_56, st_X5_search_58, st_X5_search_59, st_X5_search_62, st_X5_search_67, st_X5_search_70, st_X5_search_71, st_X5_search_72, st_X5_search_76, st_X5_search_77, st_X5_search_78, st_X5_search_79, st_X5_search_84, st_X5_search_86, st_X5_search_88, st_X5_search_89, st_X5_search_121, st_X5_search_124, st_X5_search_64 (p := 41) hq_41 ps_, st_X5_search_73 (p := 41) hq_41 ps_, st_X5_search_81 (p := 41) hq_41 ps_, ec, es, er, nn_lt, show nn < (N + 1) ^ S by omega, if_true, if_false, nn_lz, show 0 < q.1 by omega, bM_some, hg_16_11, gQ_11, hSS, b01, cond_true, nn_one0, bC_inl, Option.toList, List.cons_append, List.nil_append, Nat.add_zero, lc_r, lc_i, nn_r1, Nat.reduceAdd]
        · rw [if_neg hv] at hq'
          rw [if_neg hv]
          rcases seekR_b (f := minR (kC g) N D L) (P := fun _ w' => bR w' dd) q.1 1 (stR N S T1 (g.1 29)) with z | ⟨u, u1, u2, u3⟩
          · exact absurd z hv
          · rw [u3] at er hv hq' ⊢
            rw [nn_clamp (by omega)] at hq' ⊢
            obtain ⟨e', T', b', w', s', n', v', k', r1, r2, r3, r4, r5⟩ := ih (nn + 1) (by omega) (u - 1, Int32.ofNat u, fun i => if i < S then T1 i else q.2.2 i) (upd e 3 (Int32.ofNat u)) T1 (va_cpy T1 b (0 : Int32).toNatClampNeg (0 : Int32).toNatClampNeg (Int32.ofNat S).toNatClampNeg) w1 s1' n1 v1 k1 (some (.int (Int32.ofNat u))) hq' upd_same (fun i hi => by
              rw [cpS h4]
              dsimp only
              by_cases hiS : i < S
              · rw [if_pos hiS, if_pos hiS]
              · rw [if_neg hiS, if_neg hiS]; exact hb i hi) hw1
            refine ⟨e', T', b', w', s', n', v', k', by rw [r1, upd_oth (by decide)], r2, r3, r4, ?_⟩
            dsimp only at r5
            rw [← r5, st_X5_search_43]
            simp (disch := omega) only [st_X5_search_45, st_X5_search_47, st_X5_search_50, st_X5_search_52, st_X5_search_55, st_X5_search_56, st_X5_search_58, st_X5_search_59, st_X5_search_62, st_X5_search_67, st_X5_search_70, st_X5_search_71, st_X5_search_72, st_X5_search_76, st_X5_search_77, st_X5_search_78, st_X5_search_79, st_X5_search_84, st_X5_search_86, st_X5_search_88, st_X5_search_89, st_X5_search_92, st_X5_search_93, st_X5_search_95, st_X5_search_98, st_X5_search_100, st_X5_search_101, st_X5_search_102, st_X5_search_104, st_X5_search_105, st_X5_search_108, st_X5_search_109, st_X5_search_110, st_X5_search_113, st_X5_search_114, st_X5_search_115, st_X5_search_118, st_X5_search_121, st_X5_search_124, st_X5_search_64 (p := 41) hq_41 ps_, st_X5_search_73 (p := 41) hq_41 ps_, st_X5_search_81 (p := 41) hq_41 ps_, ec, es, er, nn_lt, show nn < (N + 1) ^ S by omega, if_true, if_false, nn_lz, show 0 < q.1 by omega, bM_some, bP_some, hg_16_11, hg_41_1, hg_41_2, hs_41_3, hcp_43_44, cpokS h4, gQ_11, gQ_43, gQ_44, gQ_i41, gQ_r44, hSS, b01, cond_true, nn_one0, nn_nneg, nn_p1, bC_inl, Option.toList, List.cons_append, List.nil_append, Nat.add_zero, lc_r, lc_i, nn_r1, Nat.reduceAdd]
set_option maxHeartbeats 4000000 in
theorem sr_rows (hK : KN (kC g) N S D L) (a7 a8 : Option Value) : ∀ m j : Nat, j + m = S →
    bc (d + 5) M_X5_search none 14 [some (.ref 41), some (.ref 16), some (.ref 29), some (.int (Int32.ofNat dd)), some (.int (Int32.ofNat (N + 1))), some (.int (Int32.ofNat ((N + 1) ^ j))), some (.int (Int32.ofNat j)), a7, a8] [] (hp t (gQ g e T b w s n v k)) cn sn =
    bc (d + 5) M_X5_search none 36 [some (.ref 41), some (.ref 16), some (.ref 29), some (.int (Int32.ofNat dd)), some (.int (Int32.ofNat (N + 1))), some (.int (Int32.ofNat ((N + 1) ^ S))), some (.int (Int32.ofNat S)), a7, a8] [] (hp t (gQ g e T b w s n v k)) cn sn := by
  have h4 := hK.2.2.2.1
  have hSS : g.1 16 11 = Int32.ofNat S := hK.2.2.1
  intro m
  induction m with
  | zero =>
    intro j hj
    obtain rfl : j = S := by omega
    rw [st_X5_search_14]
    simp (disch := omega) only [st_X5_search_16, st_X5_search_17, st_X5_search_20, bM_some, hg_16_11, gQ_11, hSS, nn_lt, Nat.lt_irrefl, if_false, Nat.reduceAdd]
  | succ m ih =>
    intro j hj
    rw [← ih (j + 1) (by omega), st_X5_search_14, Nat.pow_succ]
    simp (disch := omega) only [st_X5_search_16, st_X5_search_17, st_X5_search_20, st_X5_search_23, st_X5_search_25, st_X5_search_27, st_X5_search_28, st_X5_search_30, st_X5_search_33, bM_some, hg_16_11, gQ_11, hSS, nn_lt, show j < S by omega, if_true, nn_mul, lc_r, lc_i, nn_r1, Nat.reduceAdd]
/-- what the Planner knows of a dish -/
def plOk (K : Kt) (N S D L dd : Nat) (w e b : Rw) : Prop := e 3 = (plA K N S D L dd w).2.1 ∧ ∀ i, i < S → b i = (plA K N S D L dd w).2.2 i
set_option maxHeartbeats 8000000 in
theorem c_plan (hK : KN (kC g) N S D L) (hO : KO (kC g) N S D L) (hR' : RI (kC g) N S 9999 (g.1 29)) (hd : dd < D) (hz : Z54 (g.1 29)) (hw : Z54 (g.1 42)) (hk : g.1 41 4 = Int32.ofNat dd → plOk (kC g) N S D L dd (g.1 29) (g.1 41) (g.1 44)) : ∃ (e' T' b' w' : Rw) (s' : Int32) (n' : Int64) (v' k' : Rw), e' 4 = Int32.ofNat dd ∧ plOk (kC g) N S D L dd (g.1 29) e' b' ∧ Z54 w' ∧
    bc (d + 6) M_X5_plan none 0 [some (.ref 41), some (.ref 16), some (.ref 29), some (.int (Int32.ofNat dd))] [] (hp t g) cn sn = some (.inl none, hp t (gQ g e' T' b' w' s' n' v' k'), cn, sn) := by
  have h8 := hK.2.1
  have h4 := hK.2.2.2.1
  have h5 := hK.2.2.2.2.2.1
  have hN : g.1 16 10 = Int32.ofNat N := hK.1
  have g1 : g = gQ g (g.1 41) (g.1 43) (g.1 44) (g.1 42) (g.1 16 14) (g.2.1 16 13) (g.1 28) (g.1 27) := gQ_eta.symm
  have g2 : ∀ cn sn : Nat, bc (d + 6) M_X5_plan none 0 [some (.ref 41), some (.ref 16), some (.ref 29), some (.int (Int32.ofNat dd))] [] (hp t g) cn sn = bc (d + 6) M_X5_plan none 0 [some (.ref 41), some (.ref 16), some (.ref 29), some (.int (Int32.ofNat dd))] [] (hp t (gQ g (g.1 41) (g.1 43) (g.1 44) (g.1 42) (g.1 16 14) (g.2.1 16 13) (g.1 28) (g.1 27))) cn sn := fun cn sn => by rw [gQ_eta]
  by_cases hkn : g.1 41 4 = Int32.ofNat dd
  · refine ⟨g.1 41, g.1 43, g.1 44, g.1 42, g.1 16 14, g.2.1 16 13, g.1 28, g.1 27, hkn, hk hkn, hw, ?_⟩
    rw [g2]
    simp (disch := omega) only [st_X5_plan_0, st_X5_plan_1, st_X5_plan_4, st_X5_plan_5, st_X5_plan_8, bM_some, hg_41_4, gQ_41, eq_true hkn, if_true, Nat.reduceAdd]
  · have ef : bc (d + 5) M_J7_fill_53178 none 0 [some (.ref 44), some (.int (-1)), none, none] [] (hp t (gQ g (upd (upd (g.1 41) 4 (Int32.ofNat dd)) 3 (-1)) (g.1 43) (g.1 44) (g.1 42) (g.1 16 14) (g.2.1 16 13) (g.1 28) (g.1 27))) 0 0 = some (.inl none, hp t (gQ g (upd (upd (g.1 41) 4 (Int32.ofNat dd)) 3 (-1)) (g.1 43) (filF (-1) 4 0 (g.1 44)) (g.1 42) (g.1 16 14) (g.2.1 16 13) (g.1 28) (g.1 27)), 0, 0) := by
      rw [fill_44, gQ_r44]; rfl
    have hbf : ∀ i, i < 4 → filF (-1) 4 0 (g.1 44) i = -1 := fun i hi => by unfold filF; rw [if_pos (by omega)]
    by_cases h0 : g.1 29 (48 + dd) = -1
    · obtain ⟨e', T', b', w', s', n', v', k', r1, r2, r3, r4, r5⟩ := sr_l (d := d) (t := t) (g := g) (cn := 0) (sn := 0) hK hO hR' hd hz h0 ((N + 1) ^ S) 0 (by omega) (60, -1, fun _ => -1) (upd (upd (g.1 41) 4 (Int32.ofNat dd)) 3 (-1)) (g.1 43) (filF (-1) 4 0 (g.1 44)) (g.1 42) (g.1 16 14) (g.2.1 16 13) (g.1 28) (g.1 27) none (Or.inl ⟨rfl, rfl⟩) upd_same hbf hw
      have e1 := sr_rows (d := d) (t := t) (g := g) (e := upd (upd (g.1 41) 4 (Int32.ofNat dd)) 3 (-1)) (T := g.1 43) (b := filF (-1) 4 0 (g.1 44)) (w := g.1 42) (s := g.1 16 14) (n := g.2.1 16 13) (v := g.1 28) (k := g.1 27) (dd := dd) (cn := 0) (sn := 0) hK none none S 0 (by omega)
      rw [Nat.pow_zero, show Int32.ofNat 0 = (0 : Int32) from rfl, show Int32.ofNat 1 = (1 : Int32) from rfl] at e1
      dsimp only at r5
      rw [show Int32.ofNat 0 = (0 : Int32) from rfl, show Int32.ofNat 60 = (60 : Int32) from rfl] at r5
      have e2 : bc (d + 5) M_X5_search none 0 [some (.ref 41), some (.ref 16), some (.ref 29), some (.int (Int32.ofNat dd)), none, none, none, none, none] [] (hp t (gQ g (upd (upd (g.1 41) 4 (Int32.ofNat dd)) 3 (-1)) (g.1 43) (filF (-1) 4 0 (g.1 44)) (g.1 42) (g.1 16 14) (g.2.1 16 13) (g.1 28) (g.1 27))) 0 0 = some (.inl none, hp t (gQ g e' T' b' w' s' n' v' k'), 0, 0) := by
        simp (disch := omega) only [st_X5_search_0, st_X5_search_1, st_X5_search_4, st_X5_search_5, st_X5_search_6, st_X5_search_8, st_X5_search_9, st_X5_search_11, st_X5_search_12, bM_some, hg_16_10, gQ_10, hN, nn_r1, lc_r, lc_i, lc_n, Nat.reduceAdd]
        refine Eq.trans e1 (Eq.trans ?_ r5)
        simp (disch := omega) only [st_X5_search_36, st_X5_search_38, st_X5_search_40, st_X5_search_41, lc_r, lc_i, lc_n, Nat.reduceAdd]
      have ep : plA (kC g) N S D L dd (g.1 29) = clL (lfS (minR (kC g) N D L) N S dd (g.1 29)) (N + 1) S ((N + 1) ^ S) 0 (60, -1, fun _ => -1) := by unfold plA; rw [if_pos h0]
      refine ⟨e', T', b', w', s', n', v', k', by rw [r1, upd_oth (by decide), upd_same], ⟨by rw [ep]; exact r2, fun i hi => by rw [ep]; exact r3 i (by omega)⟩, r4, ?_⟩
      rw [g2]
      simp (disch := omega) only [st_X5_plan_0, st_X5_plan_1, st_X5_plan_4, st_X5_plan_5, st_X5_plan_9, st_X5_plan_10, st_X5_plan_11, st_X5_plan_14, st_X5_plan_15, st_X5_plan_16, st_X5_plan_19, st_X5_plan_20, st_X5_plan_23, st_X5_plan_27, st_X5_plan_28, st_X5_plan_30, st_X5_plan_31, st_X5_plan_32, st_X5_plan_33, st_X5_plan_34, st_X5_plan_37, st_X5_plan_38, st_X5_plan_39, st_X5_plan_40, st_X5_plan_44, st_X5_plan_24 ps_, st_X5_plan_41 (p := 41) hq_41 ps_, bM_some, hg_41_4, hg_41_2, hs_41_4, hs_41_3, gQ_41, gQ_i41, gQ_29, hkn, if_false, ef, e2, ha_29, nn_48, nn_out, nn_clamp, cond_false, h0, if_true, bC_inl, Option.toList, List.nil_append, Nat.add_zero, Nat.reduceAdd]
    · have ep : plA (kC g) N S D L dd (g.1 29) = (60, -1, fun _ => -1) := by unfold plA; rw [if_neg h0]
      refine ⟨upd (upd (g.1 41) 4 (Int32.ofNat dd)) 3 (-1), g.1 43, filF (-1) 4 0 (g.1 44), g.1 42, g.1 16 14, g.2.1 16 13, g.1 28, g.1 27, by rw [upd_oth (by decide), upd_same], ⟨by rw [ep, upd_same], fun i hi => by rw [ep]; exact hbf i (by omega)⟩, hw, ?_⟩
      rw [g2]
      simp (disch := omega) only [st_X5_plan_0, st_X5_plan_1, st_X5_plan_4, st_X5_plan_5, st_X5_plan_9, st_X5_plan_10, st_X5_plan_11, st_X5_plan_14, st_X5_plan_15, st_X5_plan_16, st_X5_plan_19, st_X5_plan_20, st_X5_plan_23, st_X5_plan_27, st_X5_plan_28, st_X5_plan_30, st_X5_plan_31, st_X5_plan_32, st_X5_plan_33, st_X5_plan_34, st_X5_plan_44, st_X5_plan_24 ps_, bM_some, hg_41_4, hg_41_2, hs_41_4, hs_41_3, gQ_41, gQ_i41, gQ_29, hkn, if_false, ef, ha_29, nn_48, nn_out, nn_clamp, cond_false, h0, bC_inl, Option.toList, List.nil_append, Nat.add_zero, Nat.reduceAdd]
set_option maxHeartbeats 4000000 in
theorem c_soonest (hK : KN (kC g) N S D L) (hO : KO (kC g) N S D L) (hR' : RI (kC g) N S 9999 (g.1 29)) (hd : dd < D) (hz : Z54 (g.1 29)) (hw : Z54 (g.1 42)) (hk : g.1 41 4 = Int32.ofNat dd → plOk (kC g) N S D L dd (g.1 29) (g.1 41) (g.1 44)) (hx : x = -1 ∨ (0 ≤ x.toInt ∧ x.toInt < S)) : ∃ (e' T' b' w' : Rw) (s' : Int32) (n' : Int64) (v' k' : Rw), e' 4 = Int32.ofNat dd ∧ plOk (kC g) N S D L dd (g.1 29) e' b' ∧ Z54 w' ∧
    bc (d + 7) M_X9_soonest none 0 [some (.ref 0), some (.int (Int32.ofNat dd)), some (.int x)] [] (hp t g) cn sn = some (.inl (some (.int (if x = -1 then (plA (kC g) N S D L dd (g.1 29)).2.1 else (plA (kC g) N S D L dd (g.1 29)).2.2 x.toNatClampNeg))), hp t (gQ g e' T' b' w' s' n' v' k'), cn, sn) := by
  have h4 := hK.2.2.2.1
  obtain ⟨e', T', b', w', s', n', v', k', r1, r2, r3, r4⟩ := c_plan (d := d) (t := t) (g := g) (cn := 0) (sn := 0) hK hO hR' hd hz hw hk
  refine ⟨e', T', b', w', s', n', v', k', r1, r2, r3, ?_⟩
  by_cases h : x = -1
  · subst h
    simp (disch := omega) only [st_X9_soonest_0, st_X9_soonest_1, st_X9_soonest_5, st_X9_soonest_6, st_X9_soonest_7, st_X9_soonest_15, st_X9_soonest_16, st_X9_soonest_19, st_X9_soonest_20, st_X9_soonest_23, st_X9_soonest_24, st_X9_soonest_27, st_X9_soonest_31, st_X9_soonest_32, st_X9_soonest_33, st_X9_soonest_36, st_X9_soonest_37, st_X9_soonest_40, st_X9_soonest_43, st_X9_soonest_55, st_X9_soonest_2 (p := 0) hq_0 ps_, st_X9_soonest_28 (p := 41) hq_41 ps_, nd_y hK hd, r4, r2.1, bM_some, hg_0_8, hg_0_1, hg_0_2, hg_41_3, gQ_41, if_true, bC_inl, Option.toList, List.nil_append, Nat.add_zero, Nat.reduceAdd]
  · rcases hx with hx | hx
    · exact absurd hx h
    · have hc := ii_clamp (a := x)
      have ex : x = Int32.ofNat x.toNatClampNeg := (ii_nat hx.1).symm
      have ens := ns_y (d := d + 6) (t := t) (cn := 0) (sn := 0) hK (j := x.toNatClampNeg) (by omega)
      rw [← ex] at ens
      have ho : px_out x 4 = false := ii_out hx.1 (by omega)
      simp (disch := omega) only [st_X9_soonest_0, st_X9_soonest_1, st_X9_soonest_5, st_X9_soonest_6, st_X9_soonest_7, st_X9_soonest_10, st_X9_soonest_11, st_X9_soonest_15, st_X9_soonest_16, st_X9_soonest_19, st_X9_soonest_20, st_X9_soonest_23, st_X9_soonest_24, st_X9_soonest_27, st_X9_soonest_31, st_X9_soonest_32, st_X9_soonest_33, st_X9_soonest_46, st_X9_soonest_47, st_X9_soonest_50, st_X9_soonest_53, st_X9_soonest_54, st_X9_soonest_55, st_X9_soonest_2 (p := 0) hq_0 ps_, st_X9_soonest_12 (p := 0) hq_0 ps_, st_X9_soonest_28 (p := 41) hq_41 ps_, nd_y hK hd, ens, r4, r2.2 x.toNatClampNeg (by omega), bM_some, hg_0_8, hg_0_1, hg_0_2, hg_41_2, ha_44, gQ_44, ho, cond_false, h, if_false, bC_inl, Option.toList, List.nil_append, Nat.add_zero, Nat.reduceAdd]
theorem c_soonest_n1 (hK : KN (kC g) N S D L) {y : Int32} (hx : ¬ (0 ≤ x.toInt ∧ x.toInt < D)) : bc (d + 13) M_X9_soonest none 0 [some (.ref 0), some (.int x), some (.int y)] [] (hp t g) cn sn = some (.inr 1, hp t g, cn + 1, sn + 6) := by
  simp (disch := omega) only [st_X9_soonest_0, st_X9_soonest_1, st_X9_soonest_2 (p := 0) hq_0 ps_, nd_n hK hx, bC_inr, Nat.zero_add]
theorem c_soonest_n2 (hK : KN (kC g) N S D L) (hd : dd < D) (hx : ¬ (x = -1 ∨ (0 ≤ x.toInt ∧ x.toInt < S))) : bc (d + 13) M_X9_soonest none 0 [some (.ref 0), some (.int (Int32.ofNat dd)), some (.int x)] [] (hp t g) cn sn = some (.inr 1, hp t g, cn + 1, sn + 6) := by
  have h1 : ¬ x = -1 := fun z => hx (Or.inl z)
  have h2 : ¬ (0 ≤ x.toInt ∧ x.toInt < S) := fun z => hx (Or.inr z)
  simp (disch := omega) only [st_X9_soonest_0, st_X9_soonest_1, st_X9_soonest_5, st_X9_soonest_6, st_X9_soonest_7, st_X9_soonest_10, st_X9_soonest_11, st_X9_soonest_2 (p := 0) hq_0 ps_, st_X9_soonest_12 (p := 0) hq_0 ps_, nd_y hK hd, ns_n hK h2, h1, if_false, bC_inl, bC_inr, Option.toList, List.nil_append, Nat.add_zero, Nat.zero_add, Nat.reduceAdd]
end PLAN3
