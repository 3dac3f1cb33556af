/-! ===== chord: the class, whole ===== -/
/-- totals of cups by which the chord of dish dd is sung -/
def chP (K : Kt) (N : Nat) (w : Rw) (dd x : Nat) : Prop := ∃ r, r < 61 ∧ RS ((K 6 dd).toNatClampNeg + 1) N 1000000 (fun i k => coV K w k (ntV K dd r i)) ((K 6 dd).toNatClampNeg + 1) 0 x
section CHORD3
variable {d : Nat} {t : List px_E} {g : hG} {n N S D L T cn sn dd : Nat} {r6 r7 r8 : Rw} {x : Int32}
theorem ntV_le {K : Kt} {root i : Nat} (hO : KO K N S D L) (hd : dd < D) (hr : root < 61) (hi : i < (K 6 dd).toNatClampNeg + 1) : ntV K dd root i ≤ 100 := by
  unfold ntV
  split
  · omega
  · obtain ⟨-, -, h3, -⟩ := hO.2.2.1 dd hd
    have h := h3 (i - 1) (by omega)
    rw [show dd * 3 + i - 1 = dd * 3 + (i - 1) by omega]
    have := ii_clamp (a := K 7 (dd * 3 + (i - 1)))
    omega
set_option maxHeartbeats 4000000 in
theorem lc_in {root : Nat} (hO : KO (kC g) N S D L) (hd : dd < D) (hD : D ≤ 5) (hr : root < 61) (hn : n = (kC g 6 dd).toNatClampNeg + 1) (hn4 : n ≤ 4) (a4 : Option Value) : ∀ m i : Nat, i + m = n → 1 ≤ i → ∀ r6 : Rw, (∀ e, e < i → r6 e = Int32.ofNat (ntV (kC g) dd root e)) → ∃ (c6 : Rw) (b7 : Option Value), (∀ e, e < n → c6 e = Int32.ofNat (ntV (kC g) dd root e)) ∧
    bc (d + 4) M_X8_leastCups none 35 [some (.ref 45), some (.ref 16), some (.ref 29), some (.int (Int32.ofNat dd)), a4, some (.int (Int32.ofNat n)), some (.int (Int32.ofNat root)), some (.int (Int32.ofNat i))] [] (hp t (gNt g r6 r7 r8)) cn sn =
    bc (d + 4) M_X8_leastCups none 77 [some (.ref 45), some (.ref 16), some (.ref 29), some (.int (Int32.ofNat dd)), a4, some (.int (Int32.ofNat n)), some (.int (Int32.ofNat root)), b7] [] (hp t (gNt g c6 r7 r8)) cn sn := by
  intro m
  induction m with
  | zero =>
    intro i hi h1 r6 h6
    refine ⟨r6, some (.int (Int32.ofNat i)), fun e he => h6 e (by omega), ?_⟩
    rw [st_X8_leastCups_35]
    simp (disch := omega) only [st_X8_leastCups_37, st_X8_leastCups_39, nn_lt, show ¬ i < n by omega, if_false, Nat.reduceAdd]
  | succ m ih =>
    intro i hi h1 r6 h6
    obtain ⟨-, -, h3, -⟩ := hO.2.2.1 dd hd
    have hst := h3 (i - 1) (by omega)
    rw [show dd * 3 + (i - 1) = dd * 3 + i - 1 by omega] at hst
    have es : g.1 24 (dd * 3 + i - 1) = Int32.ofNat (kC g 7 (dd * 3 + i - 1)).toNatClampNeg := by
      show kC g 7 (dd * 3 + i - 1) = _
      exact (ii_nat (by have := hst.1; omega)).symm
    have ev : Int32.ofNat (root + (kC g 7 (dd * 3 + i - 1)).toNatClampNeg) = Int32.ofNat (ntV (kC g) dd root i) := by unfold ntV; rw [if_neg (by omega)]
    obtain ⟨c6, b7, e1, e2⟩ := ih (i + 1) (by omega) (by omega) (upd r6 i (Int32.ofNat (ntV (kC g) dd root i))) (fun e he => by
      rw [upd_at]
      split
      · next h => rw [h]
      · exact h6 e (by omega))
    refine ⟨c6, b7, e1, ?_⟩
    rw [← e2, st_X8_leastCups_35]
    simp (disch := omega) only [st_X8_leastCups_37, st_X8_leastCups_39, st_X8_leastCups_42, st_X8_leastCups_44, st_X8_leastCups_45, st_X8_leastCups_48, st_X8_leastCups_49, st_X8_leastCups_52, st_X8_leastCups_54, st_X8_leastCups_56, st_X8_leastCups_57, st_X8_leastCups_60, st_X8_leastCups_61, st_X8_leastCups_62, st_X8_leastCups_63, st_X8_leastCups_65, st_X8_leastCups_66, st_X8_leastCups_67, st_X8_leastCups_68, st_X8_leastCups_69, st_X8_leastCups_70, st_X8_leastCups_71, st_X8_leastCups_74, nn_lt, nn_l4, show i < n by omega, show i < 4 by omega, if_true, bM_some, hg_45_0, hg_16_7, ha_24, hw_46, gNt_24, gNt_6, nn_t3, nn_add, nn_p1, es, ev, nn_out, nn_clamp, cond_false, lc_r, lc_i, nn_r1, Nat.reduceAdd]
set_option maxHeartbeats 4000000 in
theorem lc_out (hK : KN (kC g) N S D L) (hO : KO (kC g) N S D L) (hR' : RI (kC g) N S T (g.1 29)) (hd : dd < D) (hn : n = (kC g 6 dd).toNatClampNeg + 1) (hn4 : n ≤ 4) : ∀ m root : Nat, root + m = 61 → ∀ (v : Nat) (r6 r7 r8 : Rw) (a7 : Option Value), Best (fun x => ∃ r, r < root ∧ WS n 1000000 (fun i k => coV (kC g) (g.1 29) k (ntV (kC g) dd r i)) N (2 ^ n - 1) x) 1000000 v → ∃ (c6 c7 c8 : Rw) (v' : Nat), Best (fun x => ∃ r, r < 61 ∧ WS n 1000000 (fun i k => coV (kC g) (g.1 29) k (ntV (kC g) dd r i)) N (2 ^ n - 1) x) 1000000 v' ∧
    bc (d + 4) M_X8_leastCups none 17 [some (.ref 45), some (.ref 16), some (.ref 29), some (.int (Int32.ofNat dd)), some (.int (Int32.ofNat v)), some (.int (Int32.ofNat n)), some (.int (Int32.ofNat root)), a7] [] (hp t (gNt g r6 r7 r8)) cn sn = some (.inl (some (.int (if v' = 1000000 then -1 else Int32.ofNat v'))), hp t (gNt g c6 c7 c8), cn, sn) := by
  have hD := hK.2.2.2.2.2.1
  intro m
  induction m with
  | zero =>
    intro root hr v r6 r7 r8 a7 hB
    obtain rfl : root = 61 := by omega
    refine ⟨r6, r7, r8, v, hB, ?_⟩
    have hle := hB.1
    have e6 : (Int32.ofNat v = 1000000) = (v = 1000000) := nn_inj (b := 1000000) (by omega) (by omega)
    rw [st_X8_leastCups_17]
    by_cases h : v = 1000000
    · have e7 := e6.trans (eq_true h)
      rw [if_pos h]
      simp (disch := omega) only [st_X8_leastCups_19, st_X8_leastCups_21, st_X8_leastCups_102, st_X8_leastCups_104, st_X8_leastCups_106, st_X8_leastCups_109, st_X8_leastCups_110, st_X8_leastCups_113, st_X8_leastCups_115, nn_g60, show 60 < 61 by omega, if_true, e7, Nat.reduceAdd]
    · have e7 := e6.trans (eq_false h)
      rw [if_neg h]
      simp (disch := omega) only [st_X8_leastCups_19, st_X8_leastCups_21, st_X8_leastCups_102, st_X8_leastCups_104, st_X8_leastCups_106, st_X8_leastCups_109, st_X8_leastCups_110, st_X8_leastCups_113, st_X8_leastCups_115, nn_g60, show 60 < 61 by omega, if_true, if_false, e7, Nat.reduceAdd]
  | succ m ih =>
    intro root hr v r6 r7 r8 a7 hB
    have hle := hB.1
    obtain ⟨c6, b7, e1, e2⟩ := lc_in (d := d) (t := t) (g := g) (r7 := r7) (r8 := r8) (cn := cn) (sn := sn) (root := root) hO hd hD (by omega) hn hn4 (some (.int (Int32.ofNat v))) (n - 1) 1 (by omega) (by omega) (upd r6 0 (Int32.ofNat root)) (fun e he => by
      obtain rfl : e = 0 := by omega
      rw [upd_same]; rfl)
    obtain ⟨c7, c8, v1, f1, f2⟩ := c_cupsFor (d := d) (t := t) (g := g) (r6 := c6) (r7 := r7) (r8 := r8) (cn := 0) (sn := 0) (nt := ntV (kC g) dd root) hK hO hR' hn4 (fun i hi => ⟨e1 i hi, ntV_le hO hd (by omega) (by omega)⟩)
    have hle1 := f1.1
    obtain ⟨d6, d7, d8, v2, g1, g2⟩ := ih (root + 1) (by omega) (min v v1) c6 c7 c8 b7 (Best_iff (fun x => by
      constructor
      · intro q
        rcases q with ⟨r, h1, h2⟩ | q
        · exact ⟨r, by omega, h2⟩
        · exact ⟨root, by omega, q⟩
      · intro ⟨r, h1, h2⟩
        by_cases h : r = root
        · subst h; exact Or.inr h2
        · exact Or.inl ⟨r, by omega, h2⟩) (Best_or hB f1))
    refine ⟨d6, d7, d8, v2, g1, ?_⟩
    rw [← g2, st_X8_leastCups_17]
    rw [show Int32.ofNat 1 = (1 : Int32) from rfl] at e2
    simp (disch := omega) only [st_X8_leastCups_19, st_X8_leastCups_21, st_X8_leastCups_24, st_X8_leastCups_25, st_X8_leastCups_28, st_X8_leastCups_29, st_X8_leastCups_31, st_X8_leastCups_32, st_X8_leastCups_33, nn_g60, show ¬ 60 < root by omega, if_false, bM_some, hg_45_0, hw_46, gNt_6, nn_oc0, nn_c0, cond_false, lc_r, lc_i, Nat.reduceAdd]
    refine Eq.trans e2 ?_
    have em : px_min (Int32.ofNat n) 4 = Int32.ofNat n := by rw [show (4 : Int32) = Int32.ofNat 4 from rfl, nn_min (by omega) (by omega), Nat.min_eq_left hn4]
    simp (disch := omega) only [st_X8_leastCups_77, st_X8_leastCups_79, st_X8_leastCups_80, st_X8_leastCups_81, st_X8_leastCups_82, st_X8_leastCups_84, st_X8_leastCups_85, st_X8_leastCups_91, st_X8_leastCups_94, st_X8_leastCups_96, st_X8_leastCups_99, st_X8_leastCups_88 (p := 45) hq_45 ps_i, bP_some, m2_rrri, m2_, em, f2, nn_min, bC_inl, Option.toList, List.cons_append, List.nil_append, Nat.add_zero, lc_r, lc_i, nn_r1, Nat.reduceAdd]
set_option maxHeartbeats 4000000 in
theorem c_chord (hK : KN (kC g) N S D L) (hO : KO (kC g) N S D L) (hR' : RI (kC g) N S T (g.1 29)) (hd : dd < D) : ∃ (c6 c7 c8 : Rw) (v : Nat), Best (chP (kC g) N (g.1 29) dd) 1000000 v ∧
    bc (d + 5) M_X9_chord none 0 [some (.ref 0), some (.int (Int32.ofNat dd))] [] (hp t g) cn sn = some (.inl (some (.int (if v = 1000000 then -1 else Int32.ofNat v))), hp t (gNt g c6 c7 c8), cn, sn) := by
  have hD := hK.2.2.2.2.2.1
  obtain ⟨h1, h2, -, -⟩ := hO.2.2.1 dd hd
  obtain ⟨M, hM, hM3⟩ := hK.2.2.2.2.2.2.2.2 dd hd
  have e6 : g.1 23 dd = Int32.ofNat (kC g 6 dd).toNatClampNeg := by
    show kC g 6 dd = _
    rw [hM, nn_clamp (by omega)]
  obtain ⟨c6, c7, c8, v, e1, e2⟩ := lc_out (d := d) (t := t) (g := g) (cn := 0) (sn := 0) hK hO hR' hd (n := (kC g 6 dd).toNatClampNeg + 1) rfl (by omega) 61 0 (by omega) 1000000 (g.1 46) (g.1 47) (g.1 48) none (Best_iff (fun x => ⟨fun q => q.elim, fun ⟨r, h, _⟩ => by omega⟩) Best_no)
  rw [gNt_eta] at e2
  refine ⟨c6, c7, c8, v, Best_iff (fun x => ?_) e1, ?_⟩
  · constructor
    · intro ⟨r, q1, q2⟩; exact ⟨r, q1, (WS_RS (by omega)).mp q2⟩
    · intro ⟨r, q1, q2⟩; exact ⟨r, q1, (WS_RS (by omega)).mpr q2⟩
  · have e3 : bc (d + 4) M_X8_leastCups none 0 [some (.ref 45), some (.ref 16), some (.ref 29), some (.int (Int32.ofNat dd)), none, none, none, none] [] (hp t g) 0 0 = some (.inl (some (.int (if v = 1000000 then -1 else Int32.ofNat v))), hp t (gNt g c6 c7 c8), 0, 0) := by
      refine Eq.trans ?_ e2
      rw [show Int32.ofNat 0 = (0 : Int32) from rfl, show Int32.ofNat 1000000 = (1000000 : Int32) from rfl]
      simp (disch := omega) only [st_X8_leastCups_0, st_X8_leastCups_2, st_X8_leastCups_4, st_X8_leastCups_5, st_X8_leastCups_8, st_X8_leastCups_9, st_X8_leastCups_10, st_X8_leastCups_11, st_X8_leastCups_12, st_X8_leastCups_14, st_X8_leastCups_15, bM_some, hg_16_6, ha_23, e6, nn_r1, nn_out, nn_clamp, cond_false, lc_r, lc_i, lc_n, Nat.reduceAdd]
    simp (disch := omega) only [st_X9_chord_0, st_X9_chord_1, st_X9_chord_5, st_X9_chord_6, st_X9_chord_9, st_X9_chord_10, st_X9_chord_13, st_X9_chord_14, st_X9_chord_17, st_X9_chord_21, st_X9_chord_2 (p := 0) hq_0 ps_, st_X9_chord_18 (p := 45) hq_45 ps_, nd_y hK hd, e3, bM_some, hg_0_9, hg_0_1, hg_0_2, bC_inl, Option.toList, List.cons_append, List.nil_append, Nat.add_zero, Nat.reduceAdd]
theorem c_chord_n (hK : KN (kC g) N S D L) (hx : ¬ (0 ≤ x.toInt ∧ x.toInt < D)) : bc (d + 13) M_X9_chord none 0 [some (.ref 0), some (.int x)] [] (hp t g) cn sn = some (.inr 1, hp t g, cn + 1, sn + 6) := by
  simp (disch := omega) only [st_X9_chord_0, st_X9_chord_1, st_X9_chord_2 (p := 0) hq_0 ps_, nd_n hK hx, bC_inr, Nat.zero_add]
end CHORD3
