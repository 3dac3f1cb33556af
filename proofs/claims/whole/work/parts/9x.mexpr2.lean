/-! ===== the reference: expressions, whole ===== -/
section MEXPR2
variable {d D : Nat} {t : List px_E} {g : hG} {n cn sn dep : Nat} {b r q : Rw} {x y : Int32} {σ σ' : Sg} {p rc : Sg → Sg}
theorem sum_err (h0 : ¬ σ.1 0 = 0) : pSum b n rc σ = σ := by
  have e2 : pProd b n rc σ = σ := by
    unfold pProd
    rw [part_err h0]
    exact loopW_err (by rw [isS_err h0, isS_err h0]; rfl) 600
  unfold pSum
  rw [e2]
  exact loopW_err (by rw [isS_err h0, isS_err h0]; rfl) 600
theorem itN_err (h0 : ¬ σ.1 0 = 0) : ∀ m : Nat, itN (pAdd x) m σ = σ := by
  intro m
  induction m with
  | zero => rfl
  | succ m ih => show itN (pAdd x) m (pAdd x σ) = σ; rw [add_err h0]; exact ih
set_option maxHeartbeats 4000000 in
/-- the nots: 7 of them, and a fault, if there are too many -/
theorem jn_1 (a3 : Option Value) : ∀ f kk : Nat, kk + f = 6 → ∀ (σ : Sg) (g : hG), MQr b n q σ g → ∃ (g' : hG) (K : Nat), K ≤ 7 ∧ SmM g g' ∧ ((notN b n f kk σ = 6 ∧ pIsW b wNot (notS b n f σ) = true ∧ MQr b n q (pFl 2 (notS b n f σ)) g') ∨ (¬ (notN b n f kk σ = 6 ∧ pIsW b wNot (notS b n f σ) = true) ∧ K = notN b n f kk σ ∧ MQr b n q (notS b n f σ) g')) ∧
    bc (D + 13) M_X10_readNot none 2 [some (.ref 49), some (.int (Int32.ofNat dep)), some (.int (Int32.ofNat kk)), a3] [] (hp t g) cn sn =
    bc (D + 13) M_X10_readNot none 39 [some (.ref 49), some (.int (Int32.ofNat dep)), some (.int (Int32.ofNat K)), a3] [] (hp t g') cn sn := by
  intro f
  induction f with
  | zero =>
    intro kk hk σ g h
    obtain rfl : kk = 6 := by omega
    have s1 := j_is (d := D) (t := t) (cn := 0) (sn := 0) tx_47 (by decide) asc_not h
    have f0 := bad_e h
    show ∃ (g' : hG) (K : Nat), K ≤ 7 ∧ SmM g g' ∧ ((6 = 6 ∧ pIsW b wNot σ = true ∧ MQr b n q (pFl 2 σ) g') ∨ (¬ (6 = 6 ∧ pIsW b wNot σ = true) ∧ K = 6 ∧ MQr b n q σ g')) ∧ _
    cases hw : pIsW b wNot σ with
    | true =>
      rw [hw] at s1
      have h0 := (isW_t hw).1
      obtain ⟨g1, c1, m1, e1⟩ := j_wrong (d := D + 12) (t := t) (cn := 0) (sn := 0) (c := 2) h (by omega)
      rw [show Int32.ofNat 2 = (2 : Int32) from rfl] at e1
      have hz : ¬ (pFl 2 σ).1 0 = 0 := by rw [pFl_0, if_pos h0]; omega
      have f1 := bad_e c1
      have s2 := e_is (d := D) (t := t) (cn := 0) (sn := 0) tx_47 (by decide) asc_not c1 hz
      refine ⟨g1, 7, by omega, m1, Or.inl ⟨rfl, rfl, c1⟩, ?_⟩
      rw [st_X10_readNot_2]
      simp (disch := omega) only [st_X10_readNot_3, st_X10_readNot_8, st_X10_readNot_11, st_X10_readNot_12, st_X10_readNot_14, st_X10_readNot_17, st_X10_readNot_18, st_X10_readNot_22, st_X10_readNot_25, st_X10_readNot_26, st_X10_readNot_29, st_X10_readNot_5 (p := 49) hq_49 ps_, st_X10_readNot_19 (p := 49) hq_49 ps_, bM_some, hg_49_22, s1, e1, f1.trans (eq_false hz), show (Int32.ofNat 6 = 6) = True from eq_true rfl, b01, cond_true, nn_one0, if_true, if_false, nn_r1, bC_inl, Option.toList, List.cons_append, List.nil_append, Nat.add_zero, lc_r, lc_i, Nat.reduceAdd]
      rw [st_X10_readNot_2]
      simp (disch := omega) only [st_X10_readNot_3, st_X10_readNot_8, st_X10_readNot_5 (p := 49) hq_49 ps_, s2, if_true, bC_inl, Option.toList, List.cons_append, List.nil_append, Nat.add_zero, Nat.reduceAdd]
    | false =>
      rw [hw] at s1
      refine ⟨g, 6, by omega, SmM.refl, Or.inr ⟨by simp, rfl, h⟩, ?_⟩
      rw [st_X10_readNot_2]
      simp (disch := omega) only [st_X10_readNot_3, st_X10_readNot_8, st_X10_readNot_5 (p := 49) hq_49 ps_, s1, b01, cond_false, if_true, bC_inl, Option.toList, List.cons_append, List.nil_append, Nat.add_zero, Nat.reduceAdd]
  | succ f ih =>
    intro kk hk σ g h
    have s1 := j_is (d := D) (t := t) (cn := 0) (sn := 0) tx_47 (by decide) asc_not h
    have f0 := bad_e h
    have k6 : (Int32.ofNat kk = 6) = False := by rw [show (6 : Int32) = Int32.ofNat 6 from rfl, nn_inj (by omega) (by omega)]; exact eq_false (by omega)
    cases hw : pIsW b wNot σ with
    | true =>
      have en : notN b n (f + 1) kk σ = notN b n f (kk + 1) (pAdv b n σ) := by show (if pIsW b wNot σ = true then _ else _) = _; rw [hw, if_pos rfl]
      have es : notS b n (f + 1) σ = notS b n f (pAdv b n σ) := by show (if pIsW b wNot σ = true then _ else _) = _; rw [hw, if_pos rfl]
      rw [hw] at s1
      have h0 := (isW_t hw).1
      obtain ⟨g1, c1, m1, e1⟩ := j_adv (d := D + 11) (t := t) (cn := 0) (sn := 0) h h0
      obtain ⟨g2, K, k7, m2, c2, e2⟩ := ih (kk + 1) (by omega) _ g1 c1
      rw [en, es]
      refine ⟨g2, K, k7, m1.trans m2, c2, ?_⟩
      rw [← e2, st_X10_readNot_2]
      simp (disch := omega) only [st_X10_readNot_3, st_X10_readNot_8, st_X10_readNot_11, st_X10_readNot_12, st_X10_readNot_14, st_X10_readNot_22, st_X10_readNot_25, st_X10_readNot_26, st_X10_readNot_29, st_X10_readNot_32, st_X10_readNot_36, st_X10_readNot_5 (p := 49) hq_49 ps_, st_X10_readNot_33 (p := 49) hq_49 ps_, bM_some, hg_49_22, s1, e1, f0.trans (eq_true h0), k6, b01, cond_true, nn_one0, if_true, if_false, nn_r1, bC_inl, Option.toList, List.cons_append, List.nil_append, Nat.add_zero, lc_r, lc_i, Nat.reduceAdd]
    | false =>
      have en : notN b n (f + 1) kk σ = kk := by show (if pIsW b wNot σ = true then _ else _) = _; rw [hw, if_neg (by simp)]
      have es : notS b n (f + 1) σ = σ := by show (if pIsW b wNot σ = true then _ else _) = _; rw [hw, if_neg (by simp)]
      rw [hw] at s1
      rw [en, es]
      refine ⟨g, kk, by omega, SmM.refl, Or.inr ⟨by omega, rfl, h⟩, ?_⟩
      rw [st_X10_readNot_2]
      simp (disch := omega) only [st_X10_readNot_3, st_X10_readNot_8, st_X10_readNot_5 (p := 49) hq_49 ps_, s1, b01, cond_false, if_true, bC_inl, Option.toList, List.cons_append, List.nil_append, Nat.add_zero, Nat.reduceAdd]
set_option maxHeartbeats 4000000 in
theorem jn_2 {K : Nat} (hK : K < 100) : ∀ m i : Nat, i + m = K → ∀ (σ : Sg) (g : hG), MQr b n q σ g → (σ.1 0 = 0 → σ.1 9 + m ≤ 600) → ∃ g' : hG, MQr b n q (itN (pAdd 10007) m σ) g' ∧ SmM g g' ∧
    bc (D + 1) M_X10_readNot none 95 [some (.ref 49), some (.int (Int32.ofNat dep)), some (.int (Int32.ofNat K)), some (.int (Int32.ofNat i))] [] (hp t g) cn sn = some (.inl none, hp t g', cn, sn) := by
  intro m
  induction m with
  | zero =>
    intro i hi σ g h hL
    refine ⟨g, h, SmM.refl, ?_⟩
    rw [st_X10_readNot_95]
    simp (disch := omega) only [st_X10_readNot_96, st_X10_readNot_97, st_X10_readNot_112, nn_lt, show ¬ i < K by omega, if_false, Nat.reduceAdd]
  | succ m ih =>
    intro i hi σ g h hL
    obtain ⟨g1, c1, m1, e1⟩ := j_lay (d := D) (t := t) (x := 10007) (y := -28) (cn := 0) (sn := 0) h (fun z => by have := hL z; omega) (by decide)
    obtain ⟨g2, c2, m2, e2⟩ := ih (i + 1) (by omega) _ g1 c1 (fun z => by rw [pAdd_1] at z; have := hL z; have := pAdd_9 (x := 10007) (σ := σ); omega)
    refine ⟨g2, c2, m1.trans m2, ?_⟩
    rw [← e2, st_X10_readNot_95]
    simp (disch := omega) only [st_X10_readNot_96, st_X10_readNot_97, st_X10_readNot_100, st_X10_readNot_101, st_X10_readNot_106, st_X10_readNot_109, st_X10_readNot_103 (p := 49) hq_49 ps_, nn_lt, show i < K by omega, if_true, e1, bC_inl, Option.toList, List.nil_append, Nat.add_zero, lc_r, lc_i, nn_r1, Nat.reduceAdd]
set_option maxHeartbeats 8000000 in
theorem j_not (hp1 : jP b n q (D + 12) M_X10_readSum [some (.ref 49), some (.int (Int32.ofNat dep)), none] (pSum b n rc)) (hpx : PX b n rc 0 0) : jP b n q (D + 13) M_X10_readNot [some (.ref 49), some (.int (Int32.ofNat dep)), none, none] (pTest b n rc) := by
  intro σ g t cn sn h hG
  obtain ⟨g1, K, k7, m1, c1, e1⟩ := jn_1 (D := D) (t := t) (dep := dep) (cn := cn) (sn := sn) none 6 0 (by omega) σ g h
  rw [show Int32.ofNat 0 = (0 : Int32) from rfl] at e1
  obtain ⟨w1, e, en, ge⟩ := PX_not (b := b) (n := n) 6 0 σ h.2.1
  rw [Nat.zero_add] at en
  have start : ∀ z, bc (D + 13) M_X10_readNot none 39 [some (.ref 49), some (.int (Int32.ofNat dep)), some (.int (Int32.ofNat K)), none] [] (hp t g1) cn sn = z → bc (D + 13) M_X10_readNot none 0 [some (.ref 49), some (.int (Int32.ofNat dep)), none, none] [] (hp t g) cn sn = z := by
    intro z hz
    simp (disch := omega) only [st_X10_readNot_0, st_X10_readNot_1, lc_r, lc_i, lc_n, Nat.reduceAdd]
    exact Eq.trans e1 hz
  unfold pTest
  rcases c1 with ⟨n6, nw, c1⟩ | ⟨nn', hKK, c1⟩
  · rw [if_pos ⟨n6, nw⟩]
    have hz : ¬ (pFl 2 (notS b n 6 σ)).1 0 = 0 := by rw [pFl_0, if_pos (isW_t nw).1]; omega
    obtain ⟨g2, c2, m2, e2⟩ := hp1 _ g1 t 0 0 c1 (fun z => absurd z hz)
    rw [sum_err hz] at c2
    have s60 := e_mk (d := D + 12) (t := t) (x := 60) (cn := 0) (sn := 0) (by decide) c2 hz
    have s61 := e_mk (d := D + 12) (t := t) (x := 61) (cn := 0) (sn := 0) (by decide) c2 hz
    obtain ⟨g3, c3, m3, e3⟩ := jn_2 (D := D + 12) (t := t) (dep := dep) (cn := cn) (sn := sn) (K := K) (by omega) K 0 (by omega) _ g2 c2 (fun z => absurd z hz)
    rw [itN_err hz] at c3
    rw [show Int32.ofNat 0 = (0 : Int32) from rfl] at e3
    refine ⟨g3, c3, m1.trans (m2.trans m3), start _ (Eq.trans ?_ e3)⟩
    simp (disch := omega) only [st_X10_readNot_39, st_X10_readNot_40, st_X10_readNot_44, st_X10_readNot_45, st_X10_readNot_50, st_X10_readNot_53, st_X10_readNot_54, st_X10_readNot_59, st_X10_readNot_93, st_X10_readNot_94, st_X10_readNot_41 (p := 49) hq_49 ps_, st_X10_readNot_47 (p := 49) hq_49 ps_, st_X10_readNot_56 (p := 49) hq_49 ps_, e2, s60, s61, if_true, bC_inl, Option.toList, List.cons_append, List.nil_append, Nat.add_zero, lc_r, lc_i, lc_n, Nat.reduceAdd]
  · rw [if_neg nn', ← hKK]
    rw [← hKK] at en
    subst en
    obtain ⟨g2, c2, m2, e2⟩ := hp1 _ g1 t 0 0 c1 (GI_gn (gn_weak ge (Nat.le_refl _) (Nat.zero_le _)) hG)
    obtain ⟨w2, gs⟩ := PX_sum hpx _ w1
    have s60 := j_isMarked (d := D + 12) (t := t) (x := 60) (cn := 0) (sn := 0) (by decide) c2
    have s61 := j_isMarked (d := D + 12) (t := t) (x := 61) (cn := 0) (sn := 0) (by decide) c2
    obtain ⟨w3, gc⟩ := PX_cmp hpx _ w2
    have gall := gn_trans ge (gn_trans gs gc)
    have hL : (pCmp b n rc (pSum b n rc (notS b n 6 σ))).1 0 = 0 → (pCmp b n rc (pSum b n rc (notS b n 6 σ))).1 9 + K ≤ 600 := by
      intro z
      obtain ⟨a0, a1, a2⟩ := gall z
      have := hG a0
      obtain ⟨u1, u2, u3, u4, u5, u6⟩ := w3.2.2 z
      have := w3.1
      omega
    by_cases hc : (pIsS b 60 (pSum b n rc (notS b n 6 σ)) || pIsS b 61 (pSum b n rc (notS b n 6 σ))) = true
    · have ec : pCmp b n rc (pSum b n rc (notS b n 6 σ)) = pAdd (if pIsS b 60 (pSum b n rc (notS b n 6 σ)) = true then 10010 else 10011) (pSum b n rc (pAdv b n (pSum b n rc (notS b n 6 σ)))) := by unfold pCmp; rw [if_pos hc]
      rw [ec] at hL ⊢
      obtain ⟨h0, h3⟩ := sgn_t hc
      have gS := gn_trans ge gs
      have hGS : GI (pSum b n rc (notS b n 6 σ)) := GI_gn (gn_weak gS (Nat.le_refl _) (Nat.zero_le _)) hG
      obtain ⟨g3, c3, m3, e3⟩ := j_adv (d := D + 11) (t := t) (cn := 0) (sn := 0) c2 h0
      have gA := gn_adv w2 (show ¬ (pSum b n rc (notS b n 6 σ)).1 3 = 0 by omega)
      obtain ⟨g4, c4, m4, e4⟩ := hp1 _ g3 t 0 0 c3 (GI_gn (gn_weak gA (Nat.le_refl 1) (Nat.zero_le 1)) hGS)
      obtain ⟨wB, gB⟩ := adv_add (PX_sum hpx) w2 (show ¬ (pSum b n rc (notS b n 6 σ)).1 3 = 0 by omega)
      obtain ⟨g5, c5, m5, e5⟩ := j_lay (d := D + 12) (t := t) (x := if pIsS b 60 (pSum b n rc (notS b n 6 σ)) = true then 10010 else 10011) (y := if pIsS b 60 (pSum b n rc (notS b n 6 σ)) = true then -24 else -25) (cn := 0) (sn := 0) c4 (gn_lt wB gB hGS) (by split <;> decide)
      obtain ⟨g6, c6, m6, e7⟩ := jn_2 (D := D + 12) (t := t) (dep := dep) (cn := cn) (sn := sn) (K := K) (by omega) K 0 (by omega) _ g5 c5 hL
      rw [show Int32.ofNat 0 = (0 : Int32) from rfl] at e7
      refine ⟨g6, c6, m1.trans (m2.trans (m3.trans (m4.trans (m5.trans m6)))), start _ (Eq.trans ?_ e7)⟩
      cases q1 : pIsS b 60 (pSum b n rc (notS b n 6 σ)) with
      | true =>
        rw [q1] at s60 e5
        rw [if_pos rfl] at e5
        simp (disch := omega) only [st_X10_readNot_39, st_X10_readNot_40, st_X10_readNot_44, st_X10_readNot_45, st_X10_readNot_50, st_X10_readNot_62, st_X10_readNot_63, st_X10_readNot_68, st_X10_readNot_71, st_X10_readNot_73, st_X10_readNot_78, st_X10_readNot_79, st_X10_readNot_83, st_X10_readNot_84, st_X10_readNot_88, st_X10_readNot_89, st_X10_readNot_93, st_X10_readNot_94, st_X10_readNot_41 (p := 49) hq_49 ps_, st_X10_readNot_47 (p := 49) hq_49 ps_, st_X10_readNot_65 (p := 49) hq_49 ps_, st_X10_readNot_80 (p := 49) hq_49 ps_, st_X10_readNot_85 (p := 49) hq_49 ps_, st_X10_readNot_90 (p := 49) hq_49 ps_, e2, s60, e3, e4, e5, b01, cond_true, nn_one0, if_false, bC_inl, Option.toList, List.cons_append, List.nil_append, Nat.add_zero, lc_r, lc_i, lc_n, Nat.reduceAdd]
      | false =>
        rw [q1, Bool.false_or] at hc
        rw [q1] at s60 e5
        rw [hc] at s61
        rw [if_neg (by simp)] at e5
        simp (disch := omega) only [st_X10_readNot_39, st_X10_readNot_40, st_X10_readNot_44, st_X10_readNot_45, st_X10_readNot_50, st_X10_readNot_53, st_X10_readNot_54, st_X10_readNot_59, st_X10_readNot_62, st_X10_readNot_63, st_X10_readNot_68, st_X10_readNot_76, st_X10_readNot_78, st_X10_readNot_79, st_X10_readNot_83, st_X10_readNot_84, st_X10_readNot_88, st_X10_readNot_89, st_X10_readNot_93, st_X10_readNot_94, st_X10_readNot_41 (p := 49) hq_49 ps_, st_X10_readNot_47 (p := 49) hq_49 ps_, st_X10_readNot_56 (p := 49) hq_49 ps_, st_X10_readNot_65 (p := 49) hq_49 ps_, st_X10_readNot_80 (p := 49) hq_49 ps_, st_X10_readNot_85 (p := 49) hq_49 ps_, st_X10_readNot_90 (p := 49) hq_49 ps_, e2, s60, s61, e3, e4, e5, b01, cond_true, cond_false, nn_one0, if_false, if_true, bC_inl, Option.toList, List.cons_append, List.nil_append, Nat.add_zero, lc_r, lc_i, lc_n, Nat.reduceAdd]
    · have ec : pCmp b n rc (pSum b n rc (notS b n 6 σ)) = pSum b n rc (notS b n 6 σ) := by unfold pCmp; rw [if_neg hc]
      rw [ec] at hL ⊢
      obtain ⟨g6, c6, m6, e7⟩ := jn_2 (D := D + 12) (t := t) (dep := dep) (cn := cn) (sn := sn) (K := K) (by omega) K 0 (by omega) _ g2 c2 hL
      rw [show Int32.ofNat 0 = (0 : Int32) from rfl] at e7
      refine ⟨g6, c6, m1.trans (m2.trans m6), start _ (Eq.trans ?_ e7)⟩
      have hc' := Bool.eq_false_iff.mpr hc
      rw [Bool.or_eq_false_iff] at hc'
      rw [hc'.1] at s60
      rw [hc'.2] at s61
      simp (disch := omega) only [st_X10_readNot_39, st_X10_readNot_40, st_X10_readNot_44, st_X10_readNot_45, st_X10_readNot_50, st_X10_readNot_53, st_X10_readNot_54, st_X10_readNot_59, st_X10_readNot_93, st_X10_readNot_94, st_X10_readNot_41 (p := 49) hq_49 ps_, st_X10_readNot_47 (p := 49) hq_49 ps_, st_X10_readNot_56 (p := 49) hq_49 ps_, e2, s60, s61, b01, cond_false, if_true, bC_inl, Option.toList, List.cons_append, List.nil_append, Nat.add_zero, lc_r, lc_i, lc_n, Nat.reduceAdd]
set_option maxHeartbeats 4000000 in
theorem e_And (h : MQr b n q σ g) (h0 : ¬ σ.1 0 = 0) : bc (d + 15) M_X10_readAnd none 0 [some (.ref 49), some (.int y)] [] (hp t g) cn sn = some (.inl none, hp t g, cn, sn) := by
  have s1 := e_is (d := d + 1) (t := t) (cn := 0) (sn := 0) tx_47 (by decide) asc_not h h0
  have s2 := e_is (d := d + 2) (t := t) (cn := 0) (sn := 0) tx_48 (by decide) asc_and h h0
  have s60 := e_mk (d := d + 13) (t := t) (x := 60) (cn := 0) (sn := 0) (by decide) h h0
  have s61 := e_mk (d := d + 13) (t := t) (x := 61) (cn := 0) (sn := 0) (by decide) h h0
  have es := e_Sum (d := d + 10) (t := t) (y := y) (cn := 0) (sn := 0) h h0
  have en : ∀ cn sn : Nat, bc (d + 14) M_X10_readNot none 0 [some (.ref 49), some (.int y), none, none] [] (hp t g) cn sn = some (.inl none, hp t g, cn, sn) := by
    intro cn sn
    simp (disch := omega) only [st_X10_readNot_0, st_X10_readNot_1, lc_r, lc_i, lc_n, Nat.reduceAdd]
    rw [st_X10_readNot_2]
    simp (disch := omega) only [st_X10_readNot_3, st_X10_readNot_8, st_X10_readNot_39, st_X10_readNot_40, st_X10_readNot_44, st_X10_readNot_45, st_X10_readNot_50, st_X10_readNot_53, st_X10_readNot_54, st_X10_readNot_59, st_X10_readNot_93, st_X10_readNot_94, st_X10_readNot_5 (p := 49) hq_49 ps_, st_X10_readNot_41 (p := 49) hq_49 ps_, st_X10_readNot_47 (p := 49) hq_49 ps_, st_X10_readNot_56 (p := 49) hq_49 ps_, s1, es, s60, s61, if_true, bC_inl, Option.toList, List.cons_append, List.nil_append, Nat.add_zero, lc_r, lc_i, lc_n, Nat.reduceAdd]
    rw [st_X10_readNot_95]
    simp (disch := omega) only [st_X10_readNot_96, st_X10_readNot_97, st_X10_readNot_112, show ((0 : Int32) < 0) = False by decide, if_false, Nat.reduceAdd]
  simp (disch := omega) only [st_X10_readAnd_0, st_X10_readAnd_1, st_X10_readAnd_2 (p := 49) hq_49 ps_, en, bC_inl, Option.toList, List.nil_append, Nat.add_zero, Nat.reduceAdd]
  rw [st_X10_readAnd_5]
  simp (disch := omega) only [st_X10_readAnd_6, st_X10_readAnd_12, st_X10_readAnd_33, st_X10_readAnd_9 (p := 49) hq_49 ps_, s2, if_true, bC_inl, Option.toList, List.cons_append, List.nil_append, Nat.add_zero, Nat.reduceAdd]
set_option maxHeartbeats 4000000 in
theorem j_and_l (hp1 : jP b n q (D + 12) M_X10_readNot [some (.ref 49), some (.int (Int32.ofNat dep)), none, none] p) (hpx : PX b n p 1 0) : ∀ f : Nat, ∀ (σ : Sg) (g : hG), MQr b n q σ g → GI σ → (σ.1 0 = 0 → n ≤ σ.1 2 + f) → ∃ g' : hG, MQr b n q (loopW (pIsW b wAnd) (fun s => pAdd 10009 (p (pAdv b n s))) f σ) g' ∧ SmM g g' ∧
    bc (D + 13) M_X10_readAnd none 5 [some (.ref 49), some (.int (Int32.ofNat dep))] [] (hp t g) cn sn = some (.inl none, hp t g', cn, sn) := by
  intro f
  induction f with
  | zero =>
    intro σ g h hG hf
    have s1 := j_is (d := D) (t := t) (cn := 0) (sn := 0) tx_48 (by decide) asc_and h
    have no : pIsW b wAnd σ = false := by
      cases hb : pIsW b wAnd σ with
      | false => rfl
      | true =>
        obtain ⟨h0, h3⟩ := isW_t hb
        obtain ⟨w1, w2, w3, w4, w5, w6⟩ := h.2.1.2.2 h0
        have := w5 (by omega)
        have := hf h0
        omega
    rw [no] at s1
    refine ⟨g, h, SmM.refl, ?_⟩
    rw [st_X10_readAnd_5]
    simp (disch := omega) only [st_X10_readAnd_6, st_X10_readAnd_12, st_X10_readAnd_33, st_X10_readAnd_9 (p := 49) hq_49 ps_, s1, b01, cond_false, if_true, bC_inl, Option.toList, List.cons_append, List.nil_append, Nat.add_zero, Nat.reduceAdd]
  | succ f ih =>
    intro σ g h hG hf
    have s1 := j_is (d := D) (t := t) (cn := 0) (sn := 0) tx_48 (by decide) asc_and h
    unfold loopW
    cases hT : pIsW b wAnd σ with
    | true =>
      rw [hT] at s1
      obtain ⟨h0, h3⟩ := isW_t hT
      obtain ⟨g1, c1, m1, e1⟩ := j_adv (d := D + 11) (t := t) (cn := 0) (sn := 0) h h0
      have gA := gn_adv h.2.1 (show ¬ σ.1 3 = 0 by omega)
      obtain ⟨g2, c2, m2, e2⟩ := hp1 (pAdv b n σ) g1 t 0 0 c1 (GI_gn (gn_weak gA (Nat.le_refl 1) (Nat.zero_le 1)) hG)
      obtain ⟨wB, gB⟩ := adv_add hpx h.2.1 (show ¬ σ.1 3 = 0 by omega)
      obtain ⟨g3, c3, m3, e3⟩ := j_lay (d := D + 12) (t := t) (x := 10009) (y := -26) (cn := 0) (sn := 0) c2 (gn_lt wB gB hG) (by decide)
      have gC := gn_add (x := 10009) gB
      obtain ⟨g4, c4, m4, e4⟩ := ih _ g3 c3 (GI_gn gC hG) (fun z => by have := gC z; have := hf h0; omega)
      refine ⟨g4, by rw [if_pos rfl]; exact c4, m1.trans (m2.trans (m3.trans m4)), ?_⟩
      rw [← e4, st_X10_readAnd_5]
      simp (disch := omega) only [st_X10_readAnd_6, st_X10_readAnd_12, st_X10_readAnd_15, st_X10_readAnd_19, st_X10_readAnd_20, st_X10_readAnd_24, st_X10_readAnd_25, st_X10_readAnd_30, st_X10_readAnd_9 (p := 49) hq_49 ps_, st_X10_readAnd_16 (p := 49) hq_49 ps_, st_X10_readAnd_21 (p := 49) hq_49 ps_, st_X10_readAnd_27 (p := 49) hq_49 ps_, s1, e1, e2, e3, b01, cond_true, nn_one0, if_false, bC_inl, Option.toList, List.cons_append, List.nil_append, Nat.add_zero, Nat.reduceAdd]
    | false =>
      rw [hT] at s1
      refine ⟨g, by rw [if_neg (by simp)]; exact h, SmM.refl, ?_⟩
      rw [st_X10_readAnd_5]
      simp (disch := omega) only [st_X10_readAnd_6, st_X10_readAnd_12, st_X10_readAnd_33, st_X10_readAnd_9 (p := 49) hq_49 ps_, s1, b01, cond_false, if_true, bC_inl, Option.toList, List.cons_append, List.nil_append, Nat.add_zero, Nat.reduceAdd]
theorem j_and (hp1 : jP b n q (D + 12) M_X10_readNot [some (.ref 49), some (.int (Int32.ofNat dep)), none, none] (pTest b n rc)) (hpx : PX b n rc 0 0) : jP b n q (D + 13) M_X10_readAnd [some (.ref 49), some (.int (Int32.ofNat dep))] (pBoth b n rc) := by
  intro σ g t cn sn h hG
  obtain ⟨g1, c1, m1, e1⟩ := hp1 σ g t 0 0 h hG
  obtain ⟨pw, pg⟩ := PX_test hpx σ h.2.1
  obtain ⟨g2, c2, m2, e2⟩ := j_and_l (t := t) (cn := cn) (sn := sn) (dep := dep) hp1 (PX_test hpx) 600 (pTest b n rc σ) g1 c1 (GI_gn pg hG) (fun _ => by have := h.2.1.1; omega)
  refine ⟨g2, c2, m1.trans m2, Eq.trans ?_ e2⟩
  simp (disch := omega) only [st_X10_readAnd_0, st_X10_readAnd_1, st_X10_readAnd_2 (p := 49) hq_49 ps_, e1, bC_inl, Option.toList, List.nil_append, Nat.add_zero, Nat.reduceAdd]
set_option maxHeartbeats 4000000 in
theorem j_or_l {a2 : Option Value} (hp1 : jP b n q (D + 12) M_X10_readAnd [some (.ref 49), some (.int (Int32.ofNat dep))] p) (hpx : PX b n p 1 0) : ∀ f : Nat, ∀ (σ : Sg) (g : hG), MQr b n q σ g → GI σ → (σ.1 0 = 0 → n ≤ σ.1 2 + f) → ∃ g' : hG, MQr b n q (loopW (pIsW b wOr) (fun s => pAdd 10008 (p (pAdv b n s))) f σ) g' ∧ SmM g g' ∧
    bc (D + 13) M_X10_readExpression none 67 [some (.ref 49), some (.int (Int32.ofNat dep)), a2] [] (hp t g) cn sn = some (.inl none, hp t g', cn, sn) := by
  intro f
  induction f with
  | zero =>
    intro σ g h hG hf
    have s1 := j_is (d := D) (t := t) (cn := 0) (sn := 0) tx_49 (by decide) asc_or h
    have no : pIsW b wOr σ = false := by
      cases hb : pIsW b wOr σ with
      | false => rfl
      | true =>
        obtain ⟨h0, h3⟩ := isW_t hb
        obtain ⟨w1, w2, w3, w4, w5, w6⟩ := h.2.1.2.2 h0
        have := w5 (by omega)
        have := hf h0
        omega
    rw [no] at s1
    refine ⟨g, h, SmM.refl, ?_⟩
    rw [st_X10_readExpression_67]
    simp (disch := omega) only [st_X10_readExpression_68, st_X10_readExpression_74, st_X10_readExpression_95, st_X10_readExpression_71 (p := 49) hq_49 ps_, s1, b01, cond_false, if_true, bC_inl, Option.toList, List.cons_append, List.nil_append, Nat.add_zero, Nat.reduceAdd]
  | succ f ih =>
    intro σ g h hG hf
    have s1 := j_is (d := D) (t := t) (cn := 0) (sn := 0) tx_49 (by decide) asc_or h
    unfold loopW
    cases hT : pIsW b wOr σ with
    | true =>
      rw [hT] at s1
      obtain ⟨h0, h3⟩ := isW_t hT
      obtain ⟨g1, c1, m1, e1⟩ := j_adv (d := D + 11) (t := t) (cn := 0) (sn := 0) h h0
      have gA := gn_adv h.2.1 (show ¬ σ.1 3 = 0 by omega)
      obtain ⟨g2, c2, m2, e2⟩ := hp1 (pAdv b n σ) g1 t 0 0 c1 (GI_gn (gn_weak gA (Nat.le_refl 1) (Nat.zero_le 1)) hG)
      obtain ⟨wB, gB⟩ := adv_add hpx h.2.1 (show ¬ σ.1 3 = 0 by omega)
      obtain ⟨g3, c3, m3, e3⟩ := j_lay (d := D + 12) (t := t) (x := 10008) (y := -27) (cn := 0) (sn := 0) c2 (gn_lt wB gB hG) (by decide)
      have gC := gn_add (x := 10008) gB
      obtain ⟨g4, c4, m4, e4⟩ := ih _ g3 c3 (GI_gn gC hG) (fun z => by have := gC z; have := hf h0; omega)
      refine ⟨g4, by rw [if_pos rfl]; exact c4, m1.trans (m2.trans (m3.trans m4)), ?_⟩
      rw [← e4, st_X10_readExpression_67]
      simp (disch := omega) only [st_X10_readExpression_68, st_X10_readExpression_74, st_X10_readExpression_77, st_X10_readExpression_81, st_X10_readExpression_82, st_X10_readExpression_86, st_X10_readExpression_87, st_X10_readExpression_92, st_X10_readExpression_71 (p := 49) hq_49 ps_, st_X10_readExpression_78 (p := 49) hq_49 ps_, st_X10_readExpression_83 (p := 49) hq_49 ps_, st_X10_readExpression_89 (p := 49) hq_49 ps_, s1, e1, e2, e3, b01, cond_true, nn_one0, if_false, bC_inl, Option.toList, List.cons_append, List.nil_append, Nat.add_zero, Nat.reduceAdd]
    | false =>
      rw [hT] at s1
      refine ⟨g, by rw [if_neg (by simp)]; exact h, SmM.refl, ?_⟩
      rw [st_X10_readExpression_67]
      simp (disch := omega) only [st_X10_readExpression_68, st_X10_readExpression_74, st_X10_readExpression_95, st_X10_readExpression_71 (p := 49) hq_49 ps_, s1, b01, cond_false, if_true, bC_inl, Option.toList, List.cons_append, List.nil_append, Nat.add_zero, Nat.reduceAdd]
end MEXPR2
