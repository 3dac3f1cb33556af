/-! ===== soonest: the class ===== -/
def gQ (g : hG) (e T b w : Rw) (s : Int32) (n : Int64) (v k : Rw) : hG := gP (hR (hR (hR g 41 e) 43 T) 44 b) 42 w s n v k
section GQ
variable {g : hG} {e T b w x' : Rw} {s : Int32} {n : Int64} {v k : Rw} {i : Nat} {x : Int32}
theorem gQ_r41 : hR (gQ g e T b w s n v k) 41 x' = gQ g x' T b w s n v k := by
  apply hG_ext
  · intro c j
    simp only [gQ, gP, hR_at, hI_at, hJ_at, hR_2, hI_2, hJ_1, hJ_22]
    (repeat' split) <;> first | rfl | (exfalso; omega)
  · intro c j; rfl
  · rfl
theorem gQ_r43 : hR (gQ g e T b w s n v k) 43 x' = gQ g e x' b w s n v k := by
  apply hG_ext
  · intro c j
    simp only [gQ, gP, hR_at, hI_at, hJ_at, hR_2, hI_2, hJ_1, hJ_22]
    (repeat' split) <;> first | rfl | (exfalso; omega)
  · intro c j; rfl
  · rfl
theorem gQ_r44 : hR (gQ g e T b w s n v k) 44 x' = gQ g e T x' w s n v k := by
  apply hG_ext
  · intro c j
    simp only [gQ, gP, hR_at, hI_at, hJ_at, hR_2, hI_2, hJ_1, hJ_22]
    (repeat' split) <;> first | rfl | (exfalso; omega)
  · intro c j; rfl
  · rfl
theorem gQ_r42 : hR (gQ g e T b w s n v k) 42 x' = gQ g e T b x' s n v k := by
  apply hG_ext
  · intro c j
    simp only [gQ, gP, hR_at, hI_at, hJ_at, hR_2, hI_2, hJ_1, hJ_22]
    (repeat' split) <;> first | rfl | (exfalso; omega)
  · intro c j; rfl
  · rfl
theorem gQ_i41 : hI (gQ g e T b w s n v k) 41 i x = gQ g (upd e i x) T b w s n v k := by rw [hI_R, gQ_r41]; rfl
theorem gQ_i43 : hI (gQ g e T b w s n v k) 43 i x = gQ g e (upd T i x) b w s n v k := by rw [hI_R, gQ_r43]; rfl
theorem gQ_i42 : hI (gQ g e T b w s n v k) 42 i x = gQ g e T b (upd w i x) s n v k := by rw [hI_R, gQ_r42]; rfl
theorem gQ_41 : (gQ g e T b w s n v k).1 41 = e := rfl
theorem gQ_43 : (gQ g e T b w s n v k).1 43 = T := rfl
theorem gQ_44 : (gQ g e T b w s n v k).1 44 = b := rfl
theorem gQ_42 : (gQ g e T b w s n v k).1 42 = w := rfl
theorem gQ_29 : (gQ g e T b w s n v k).1 29 = g.1 29 := rfl
theorem gQ_10 : (gQ g e T b w s n v k).1 16 10 = g.1 16 10 := rfl
theorem gQ_11 : (gQ g e T b w s n v k).1 16 11 = g.1 16 11 := rfl
theorem gQ_23 : (gQ g e T b w s n v k).1 23 = g.1 23 := rfl
theorem gQ_eta : gQ g (g.1 41) (g.1 43) (g.1 44) (g.1 42) (g.1 16 14) (g.2.1 16 13) (g.1 28) (g.1 27) = g := by
  unfold gQ
  rw [hR_self, hR_self, hR_self]
  exact gP_eta
end GQ
section PLAN2
variable {d : Nat} {t : List px_E} {g : hG} {C N S D L Tm cn sn dd nn : Nat} {e T b w v k : Rw} {s x : Int32} {n : Int64}
theorem bit_and8 : ∀ u : Nat, u < 256 → ∀ q : Nat, q < 8 → ((Int32.ofNat u &&& ((1 : Int32) <<< (Int32.ofNat q &&& 31))) = 0) = (u.testBit q = false) := by
  have h : ∀ u : Nat, u < 256 → ∀ q : Nat, q < 8 → (((Int32.ofNat u &&& ((1 : Int32) <<< (Int32.ofNat q &&& 31))) = 0) ↔ (u.testBit q = false)) := by decide +kernel
  intro u hu q hq
  exact propext (h u hu q hq)
set_option maxHeartbeats 8000000 in
theorem c_chooseP_l (hC : 0 < C) (hC9 : C ≤ 9) (hS : S ≤ 4) : ∀ m : Nat, m ≤ S → ∀ (r u : Nat) (T : Rw) (a7 : Option Value), r < 100000 → u < 256 →
    bc d M_X5_choose none 11 [some (.ref 41), some (.int (Int32.ofNat nn)), some (.int (Int32.ofNat S)), some (.int (Int32.ofNat C)), some (.int (Int32.ofNat r)), some (.int (Int32.ofNat u)), some (.int (svI m)), a7] [] (hp t (hR g 43 T)) cn sn = some (.inl (some (.int (b01 (chO C m r u T).1))), hp t (hR g 43 (chO C m r u T).2), cn, sn) := by
  have hC0 : (Int32.ofNat C = 0) = False := by rw [nn_e0 (by omega)]; exact eq_false (by omega)
  have f1 : ∀ (T : Rw) (i : Nat) (x : Int32), hI (hR g 43 T) 43 i x = hR g 43 (upd T i x) := fun T i x => by rw [hI_R, hR_same, hR_hR]
  have f2 : ∀ T : Rw, (hR g 43 T).1 43 = T := fun T => rfl
  intro m
  induction m with
  | zero =>
    intro hm r u T a7 hr hu
    rw [show svI 0 = -1 from rfl, st_X5_choose_11]
    simp (disch := omega) only [st_X5_choose_13, st_X5_choose_100, st_X5_choose_101b, show ((-1 : Int32) < 0) = True by decide, if_true, chO, b01, cond_true, Nat.reduceAdd]
  | succ m ih =>
    intro hm r u T a7 hr hu
    have hrc : r / C < 100000 := Nat.lt_of_le_of_lt (Nat.div_le_self r C) hr
    have hmod : r % C < C := Nat.mod_lt _ hC
    have erem : Int32.ofNat r - Int32.ofNat (r / C) * Int32.ofNat C = Int32.ofNat (r % C) := by rw [← nn_div (by omega) (by omega) hC, nn_rem (by omega) (by omega) hC]
    have es : Int32.ofNat m + -1 = svI m := by
      unfold svI
      by_cases h0 : m = 0
      · rw [if_pos h0, h0]; rfl
      · rw [if_neg h0, nn_q1 (by omega)]
    rw [show svI (m + 1) = Int32.ofNat m from rfl, st_X5_choose_11]
    unfold chO
    by_cases h0 : r % C = 0
    · rw [if_pos h0, ← ih (by omega) (r / C) u (upd T m (Int32.ofNat (r % C) - 1)) (some (.int 0)) hrc hu, h0, show Int32.ofNat 0 - 1 = (-1 : Int32) from by decide]
      simp (disch := omega) only [st_X5_choose_13, st_X5_choose_16, st_X5_choose_17, st_X5_choose_20, st_X5_choose_22, st_X5_choose_23, st_X5_choose_26, st_X5_choose_28, st_X5_choose_30, st_X5_choose_31, st_X5_choose_32, st_X5_choose_36, st_X5_choose_37, st_X5_choose_38, st_X5_choose_41, st_X5_choose_43, st_X5_choose_45, st_X5_choose_49, st_X5_choose_51, st_X5_choose_52, st_X5_choose_55, st_X5_choose_57, st_X5_choose_58, st_X5_choose_59, st_X5_choose_62, st_X5_choose_63, st_X5_choose_75, st_X5_choose_77, st_X5_choose_79, st_X5_choose_81, st_X5_choose_82, st_X5_choose_87, st_X5_choose_89, st_X5_choose_91, st_X5_choose_92, st_X5_choose_94, st_X5_choose_97, st_X5_choose_29v, st_X5_choose_44v, nn_l0, Nat.not_lt_zero, nn_lz, hC, hC0, if_true, if_false, bM_some, hg_41_1, hw_43, ha_43, f1, f2, erem, nn_div, h0, show Int32.ofNat 0 - 1 = (-1 : Int32) from by decide, upd_same, nn_out, nn_clamp, cond_false, Int32.and_zero, Int32.or_zero, in_m1, es, lc_r, lc_i, lc_n, Nat.reduceAdd]
    · rw [if_neg h0]
      have e1 : Int32.ofNat (r % C) - 1 = Int32.ofNat (r % C - 1) := nn_p1 (by omega)
      have hq : r % C - 1 < 8 := by omega
      have e2 := bit_and8 u hu (r % C - 1) hq
      obtain ⟨e3, e4⟩ := bit_or8 u hu (r % C - 1) hq
      have e5 : (Int32.ofNat (r % C - 1) = -1) = False := nn_nneg (by omega)
      by_cases h1 : u.testBit (r % C - 1) = true
      · rw [if_pos h1]
        have h1' : (u.testBit (r % C - 1) = false) = False := by rw [h1]; exact eq_false (by decide)
        simp (disch := omega) only [st_X5_choose_13, st_X5_choose_16, st_X5_choose_17, st_X5_choose_20, st_X5_choose_22, st_X5_choose_23, st_X5_choose_26, st_X5_choose_28, st_X5_choose_30, st_X5_choose_31, st_X5_choose_32, st_X5_choose_36, st_X5_choose_37, st_X5_choose_38, st_X5_choose_41, st_X5_choose_43, st_X5_choose_45, st_X5_choose_49, st_X5_choose_51, st_X5_choose_52, st_X5_choose_55, st_X5_choose_57, st_X5_choose_58, st_X5_choose_59, st_X5_choose_66, st_X5_choose_67, st_X5_choose_68, st_X5_choose_71, st_X5_choose_73, st_X5_choose_74, st_X5_choose_75, st_X5_choose_77, st_X5_choose_79, st_X5_choose_81, st_X5_choose_82, st_X5_choose_85, st_X5_choose_86, st_X5_choose_29v, st_X5_choose_44v, nn_l0, Nat.not_lt_zero, nn_lz, hC, hC0, if_true, if_false, bM_some, hg_41_1, hw_43, ha_43, f1, f2, erem, nn_div, e1, e2, e5, h1', upd_same, nn_out, nn_clamp, cond_false, b01, lc_r, lc_i, lc_n, Nat.reduceAdd]
      · rw [if_neg h1, ← ih (by omega) (r / C) (u ||| 2 ^ (r % C - 1)) (upd T m (Int32.ofNat (r % C) - 1)) (some (.int ((1 : Int32) <<< (Int32.ofNat (r % C - 1) &&& 31)))) hrc e4]
        have h1' : (u.testBit (r % C - 1) = false) = True := eq_true (Bool.eq_false_iff.mpr h1)
        simp (disch := omega) only [st_X5_choose_13, st_X5_choose_16, st_X5_choose_17, st_X5_choose_20, st_X5_choose_22, st_X5_choose_23, st_X5_choose_26, st_X5_choose_28, st_X5_choose_30, st_X5_choose_31, st_X5_choose_32, st_X5_choose_36, st_X5_choose_37, st_X5_choose_38, st_X5_choose_41, st_X5_choose_43, st_X5_choose_45, st_X5_choose_49, st_X5_choose_51, st_X5_choose_52, st_X5_choose_55, st_X5_choose_57, st_X5_choose_58, st_X5_choose_59, st_X5_choose_66, st_X5_choose_67, st_X5_choose_68, st_X5_choose_71, st_X5_choose_73, st_X5_choose_74, st_X5_choose_75, st_X5_choose_77, st_X5_choose_79, st_X5_choose_81, st_X5_choose_82, st_X5_choose_87, st_X5_choose_89, st_X5_choose_91, st_X5_choose_92, st_X5_choose_94, st_X5_choose_97, st_X5_choose_29v, st_X5_choose_44v, nn_l0, Nat.not_lt_zero, nn_lz, hC, hC0, if_true, if_false, bM_some, hg_41_1, hw_43, ha_43, f1, f2, erem, nn_div, e1, e2, e3, e5, h1', upd_same, nn_out, nn_clamp, cond_false, in_m1, es, lc_r, lc_i, lc_n, Nat.reduceAdd]
theorem c_chooseP (hC : 0 < C) (hC9 : C ≤ 9) (hS : S ≤ 4) (hn : nn < 100000) : bc d M_X5_choose none 0 [some (.ref 41), some (.int (Int32.ofNat nn)), some (.int (Int32.ofNat S)), some (.int (Int32.ofNat C)), none, none, none, none] [] (hp t (gQ g e T b w s n v k)) cn sn = some (.inl (some (.int (b01 (chO C S nn 0 T).1))), hp t (gQ g e (chO C S nn 0 T).2 b w s n v k), cn, sn) := by
  have e1 := c_chooseP_l (d := d) (t := t) (g := gQ g e T b w s n v k) (cn := cn) (sn := sn) (nn := nn) hC hC9 hS S (Nat.le_refl S) nn 0 T none hn (by omega)
  rw [gQ_r43, gQ_r43, show Int32.ofNat 0 = (0 : Int32) from rfl] at e1
  refine Eq.trans ?_ e1
  have es : Int32.ofNat S - 1 = svI S := by
    unfold svI
    by_cases h0 : S = 0
    · rw [if_pos h0, h0]; rfl
    · rw [if_neg h0, nn_p1 (by omega)]
  simp (disch := omega) only [st_X5_choose_0, st_X5_choose_1, st_X5_choose_3, st_X5_choose_4, st_X5_choose_6, st_X5_choose_7, st_X5_choose_8, st_X5_choose_9, in_m1, es, lc_r, lc_i, lc_n, Nat.reduceAdd]
theorem stK_suc {j : Nat} : stK (j + 1) w = upd (stK j w) j (-1) := by
  funext i
  unfold stK
  rw [upd_at]
  by_cases h : i = j
  · rw [if_pos h, if_pos (by omega)]
  · rw [if_neg h]
    by_cases h2 : i < j
    · rw [if_pos h2, if_pos (by omega)]
    · rw [if_neg h2, if_neg (by omega)]
set_option maxHeartbeats 4000000 in
theorem so_1 (hK : KN (kC g) N S D L) {w0 : Rw} : ∀ m j : Nat, j + m = N →
    bc (d + 1) M_X5_setOut none 14 [some (.ref 41), some (.ref 16), some (.ref 29), some (.int (Int32.ofNat j))] [] (hp t (gQ g e T b (stK j w0) s n v k)) cn sn =
    bc (d + 1) M_X5_setOut none 37 [some (.ref 41), some (.ref 16), some (.ref 29), some (.int (Int32.ofNat N))] [] (hp t (gQ g e T b (stK N w0) s n v k)) cn sn := by
  have hN : g.1 16 10 = Int32.ofNat N := hK.1
  have h8 := hK.2.1
  intro m
  induction m with
  | zero =>
    intro j hj
    obtain rfl : j = N := by omega
    rw [st_X5_setOut_14]
    simp (disch := omega) only [st_X5_setOut_15, st_X5_setOut_16, st_X5_setOut_19, bM_some, hg_16_10, gQ_10, hN, nn_lt, Nat.lt_irrefl, if_false, Nat.reduceAdd]
  | succ m ih =>
    intro j hj
    rw [← ih (j + 1) (by omega), st_X5_setOut_14, stK_suc]
    simp (disch := omega) only [st_X5_setOut_15, st_X5_setOut_16, st_X5_setOut_19, st_X5_setOut_22, st_X5_setOut_23, st_X5_setOut_26, st_X5_setOut_27, st_X5_setOut_28, st_X5_setOut_29, st_X5_setOut_30, st_X5_setOut_31, st_X5_setOut_34, bM_some, hg_16_10, hg_41_0, gQ_10, hN, nn_lt, show j < N by omega, if_true, Int32.zero_add, hw_42, gQ_i42, nn_out, nn_clamp, cond_false, lc_r, lc_i, nn_r1, Nat.reduceAdd]
set_option maxHeartbeats 4000000 in
theorem so_2 (hK : KN (kC g) N S D L) (hP : ∀ e, e < S → T e = -1 ∨ (0 ≤ (T e).toInt ∧ (T e).toInt < N)) : ∀ m i : Nat, i + m = S → ∀ w : Rw,
    bc (d + 1) M_X5_setOut none 39 [some (.ref 41), some (.ref 16), some (.ref 29), some (.int (Int32.ofNat i))] [] (hp t (gQ g e T b w s n v k)) cn sn = some (.inl none, hp t (gQ g e T b (stP m i T w) s n v k), cn, sn) := by
  have hSS : g.1 16 11 = Int32.ofNat S := hK.2.2.1
  have h4 := hK.2.2.2.1
  have h8 := hK.2.1
  intro m
  induction m with
  | zero =>
    intro i hi w
    rw [st_X5_setOut_39]
    simp (disch := omega) only [st_X5_setOut_40, st_X5_setOut_41, st_X5_setOut_44, st_X5_setOut_77, bM_some, hg_16_11, gQ_11, hSS, nn_lt, show ¬ i < S by omega, if_false, stP, Nat.reduceAdd]
  | succ m ih =>
    intro i hi w
    unfold stP
    rw [← ih (i + 1) (by omega), st_X5_setOut_39]
    by_cases h : T i = -1
    · simp (disch := omega) only [st_X5_setOut_40, st_X5_setOut_41, st_X5_setOut_44, st_X5_setOut_47, st_X5_setOut_48, st_X5_setOut_51, st_X5_setOut_52, st_X5_setOut_53, st_X5_setOut_54, st_X5_setOut_71, st_X5_setOut_74, bM_some, hg_16_11, hg_41_1, gQ_11, gQ_43, hSS, nn_lt, show i < S by omega, if_true, ha_43, nn_out, nn_clamp, cond_false, h, lc_r, lc_i, nn_r1, Nat.reduceAdd]
    · rcases hP i (by omega) with q | q
      · exact absurd q h
      · have ho : px_out (T i) 54 = false := ii_out q.1 (by omega)
        simp (disch := omega) only [st_X5_setOut_40, st_X5_setOut_41, st_X5_setOut_44, st_X5_setOut_47, st_X5_setOut_48, st_X5_setOut_51, st_X5_setOut_52, st_X5_setOut_53, st_X5_setOut_54, st_X5_setOut_57, st_X5_setOut_58, st_X5_setOut_61, st_X5_setOut_62, st_X5_setOut_63, st_X5_setOut_66, st_X5_setOut_67, st_X5_setOut_68, st_X5_setOut_69, st_X5_setOut_70, st_X5_setOut_71, st_X5_setOut_74, bM_some, hg_16_11, hg_41_0, hg_41_1, gQ_11, gQ_43, hSS, nn_lt, show i < S by omega, if_true, if_false, ha_43, hw_42, gQ_i42, Int32.zero_add, ho, nn_out, nn_clamp, cond_false, h, lc_r, lc_i, nn_r1, Nat.reduceAdd]
set_option maxHeartbeats 4000000 in
theorem c_setOut (hK : KN (kC g) N S D L) (hP : ∀ e, e < S → T e = -1 ∨ (0 ≤ (T e).toInt ∧ (T e).toInt < N)) (hz : Z54 (g.1 29)) (hw : Z54 w) : bc (d + 1) M_X5_setOut none 0 [some (.ref 41), some (.ref 16), some (.ref 29), none] [] (hp t (gQ g e T b w s n v k)) cn sn = some (.inl none, hp t (gQ g e T b (stR N S T (g.1 29)) s n v k), cn, sn) := by
  have e1 := so_1 (d := d) (t := t) (g := g) (e := e) (T := T) (b := b) (s := s) (n := n) (v := v) (k := k) (cn := cn) (sn := sn) hK (w0 := g.1 29) N 0 (by omega)
  have e2 := so_2 (d := d) (t := t) (g := g) (e := e) (T := T) (b := b) (s := s) (n := n) (v := v) (k := k) (cn := cn) (sn := sn) hK hP S 0 (by omega) (stK N (g.1 29))
  have e0 : stK 0 (g.1 29) = g.1 29 := by funext i; unfold stK; rw [if_neg (by omega)]
  rw [e0, show Int32.ofNat 0 = (0 : Int32) from rfl] at e1
  rw [show Int32.ofNat 0 = (0 : Int32) from rfl] at e2
  unfold stR
  rw [← e2]
  simp (disch := omega) only [st_X5_setOut_0, st_X5_setOut_1, st_X5_setOut_2, st_X5_setOut_3, st_X5_setOut_6, st_X5_setOut_7, st_X5_setOut_9, st_X5_setOut_12, st_X5_setOut_13, bM_some, bP_some, hg_41_0, hcp_29_42, show px_cpok 0 0 54 54 54 = true by decide, cond_true, gQ_29, gQ_42, cp54 hz hw, gQ_r42, lc_r, lc_i, lc_n, Nat.reduceAdd]
  refine Eq.trans e1 ?_
  simp (disch := omega) only [st_X5_setOut_37, st_X5_setOut_38, lc_r, lc_i, Nat.reduceAdd]
set_option maxHeartbeats 4000000 in
theorem ev_l (hK : KN (kC g) N S D L) (hd : dd < D) : ∀ m j : Nat, j + m = N → ∀ a5 : Option Value,
    bc (d + 1) M_X5_enoughVoices none 5 [some (.ref 41), some (.ref 16), some (.int (Int32.ofNat dd)), some (.int (Int32.ofNat (cntN (vcB (kC g) w) j))), some (.int (Int32.ofNat j)), a5] [] (hp t (gQ g e T b w s n v k)) cn sn = some (.inl (some (.int (b01 (decide ((kC g 6 dd).toNatClampNeg < cntN (vcB (kC g) w) N))))), hp t (gQ g e T b w s n v k), cn, sn) := by
  have hN : g.1 16 10 = Int32.ofNat N := hK.1
  have h8 := hK.2.1
  have h5 := hK.2.2.2.2.2.1
  obtain ⟨M, hM, hM3⟩ := hK.2.2.2.2.2.2.2.2 dd hd
  have e6 : g.1 23 dd = Int32.ofNat (kC g 6 dd).toNatClampNeg := by
    show kC g 6 dd = _
    rw [hM, nn_clamp (by omega)]
  have e7 : (kC g 6 dd).toNatClampNeg ≤ 3 := by rw [hM, nn_clamp (by omega)]; exact hM3
  have hcl := cntN_le (b := vcB (kC g) w)
  intro m
  induction m with
  | zero =>
    intro j hj a5
    obtain rfl : j = N := by omega
    have hcj := hcl j
    rw [st_X5_enoughVoices_5]
    by_cases h : (kC g 6 dd).toNatClampNeg < cntN (vcB (kC g) w) j
    · rw [decide_eq_true h]
      simp (disch := omega) only [st_X5_enoughVoices_7, st_X5_enoughVoices_8, st_X5_enoughVoices_11, st_X5_enoughVoices_81, st_X5_enoughVoices_82, st_X5_enoughVoices_83, st_X5_enoughVoices_86, st_X5_enoughVoices_87, st_X5_enoughVoices_88, st_X5_enoughVoices_91, st_X5_enoughVoices_92, st_X5_enoughVoices_96b, bM_some, hg_16_10, hg_16_6, gQ_10, gQ_23, hN, e6, nn_lt, Nat.lt_irrefl, if_false, ha_23, nn_out, nn_clamp, cond_false, h, if_true, b01, cond_true, Nat.reduceAdd]
    · rw [decide_eq_false h]
      simp (disch := omega) only [st_X5_enoughVoices_7, st_X5_enoughVoices_8, st_X5_enoughVoices_11, st_X5_enoughVoices_81, st_X5_enoughVoices_82, st_X5_enoughVoices_83, st_X5_enoughVoices_86, st_X5_enoughVoices_87, st_X5_enoughVoices_88, st_X5_enoughVoices_95, st_X5_enoughVoices_96, bM_some, hg_16_10, hg_16_6, gQ_10, gQ_23, hN, e6, nn_lt, Nat.lt_irrefl, if_false, ha_23, nn_out, nn_clamp, cond_false, h, b01, Nat.reduceAdd]
  | succ m ih =>
    intro j hj a5
    have ec : bc d M_X4_couldSing none 0 [some (.ref 16), some (.ref 42), some (.int (Int32.ofNat j)), none] [] (hp t (gQ g e T b w s n v k)) 0 0 = some (.inl (some (.int (couldR (kC g) j w))), hp t (gQ g e T b w s n v k), 0, 0) := c_couldSing (g := hR (hR (hR g 41 e) 43 T) 44 b) h42 (by omega)
    have ev : cntN (vcB (kC g) w) (j + 1) = cntN (vcB (kC g) w) j + (bif vcB (kC g) w j then 1 else 0) := rfl
    rw [st_X5_enoughVoices_5]
    by_cases h1 : w j = -1
    · by_cases h2 : 100 < w (8 + j)
      · by_cases h3 : couldR (kC g) j w = 0
        · have hb : vcB (kC g) w j = false := by unfold vcB; rw [decide_eq_true h3]; simp
          replace ev : cntN (vcB (kC g) w) (j + 1) = cntN (vcB (kC g) w) j := by rw [ev, hb]; rfl
          have ih' := ih (j + 1) (by omega) (some (.int 1))
          rw [ev] at ih'
          simp (disch := omega) only [st_X5_enoughVoices_7, st_X5_enoughVoices_8, st_X5_enoughVoices_11, st_X5_enoughVoices_14, st_X5_enoughVoices_15, st_X5_enoughVoices_18, st_X5_enoughVoices_19, st_X5_enoughVoices_21, st_X5_enoughVoices_22, st_X5_enoughVoices_23, st_X5_enoughVoices_24, st_X5_enoughVoices_27, st_X5_enoughVoices_28, st_X5_enoughVoices_31, st_X5_enoughVoices_33, st_X5_enoughVoices_35, st_X5_enoughVoices_36, st_X5_enoughVoices_37, st_X5_enoughVoices_39, st_X5_enoughVoices_42, st_X5_enoughVoices_43, st_X5_enoughVoices_47, st_X5_enoughVoices_49, st_X5_enoughVoices_50, st_X5_enoughVoices_52, st_X5_enoughVoices_55, st_X5_enoughVoices_56, st_X5_enoughVoices_57, st_X5_enoughVoices_60, st_X5_enoughVoices_65, st_X5_enoughVoices_72, st_X5_enoughVoices_73, st_X5_enoughVoices_74, st_X5_enoughVoices_75, st_X5_enoughVoices_78, st_X5_enoughVoices_62 (p := 16) hq_16 ps_i, ec, bM_some, hg_16_10, hg_41_0, gQ_10, gQ_42, hN, nn_lt, show j < N by omega, if_true, if_false, nn_one0, ha_42, Int32.zero_add, Int32.add_zero, nn_8, nn_out, nn_clamp, cond_false, h1, h2, h3, bC_inl, Option.toList, List.cons_append, List.nil_append, Nat.add_zero, lc_r, lc_i, nn_r1, Nat.reduceAdd, ih']
        · have hb : vcB (kC g) w j = true := by unfold vcB; rw [decide_eq_false h3, decide_eq_true h2]; simp
          rw [hb, cond_true] at ev
          have ih' := ih (j + 1) (by omega) (some (.int 1))
          rw [ev] at ih'
          simp (disch := omega) only [st_X5_enoughVoices_7, st_X5_enoughVoices_8, st_X5_enoughVoices_11, st_X5_enoughVoices_14, st_X5_enoughVoices_15, st_X5_enoughVoices_18, st_X5_enoughVoices_19, st_X5_enoughVoices_21, st_X5_enoughVoices_22, st_X5_enoughVoices_23, st_X5_enoughVoices_24, st_X5_enoughVoices_27, st_X5_enoughVoices_28, st_X5_enoughVoices_31, st_X5_enoughVoices_33, st_X5_enoughVoices_35, st_X5_enoughVoices_36, st_X5_enoughVoices_37, st_X5_enoughVoices_39, st_X5_enoughVoices_42, st_X5_enoughVoices_43, st_X5_enoughVoices_47, st_X5_enoughVoices_49, st_X5_enoughVoices_50, st_X5_enoughVoices_52, st_X5_enoughVoices_55, st_X5_enoughVoices_56, st_X5_enoughVoices_57, st_X5_enoughVoices_60, st_X5_enoughVoices_65, st_X5_enoughVoices_68, st_X5_enoughVoices_69, st_X5_enoughVoices_73, st_X5_enoughVoices_74, st_X5_enoughVoices_75, st_X5_enoughVoices_78, st_X5_enoughVoices_62 (p := 16) hq_16 ps_i, ec, bM_some, hg_16_10, hg_41_0, gQ_10, gQ_42, hN, nn_lt, show j < N by omega, if_true, if_false, nn_one0, ha_42, Int32.zero_add, nn_8, nn_out, nn_clamp, cond_false, h1, h2, h3, bC_inl, Option.toList, List.cons_append, List.nil_append, Nat.add_zero, lc_r, lc_i, nn_r1, Nat.reduceAdd, ih']
      · have hb : vcB (kC g) w j = false := by unfold vcB; rw [decide_eq_true h1, decide_eq_false h2]; simp
        replace ev : cntN (vcB (kC g) w) (j + 1) = cntN (vcB (kC g) w) j := by rw [ev, hb]; rfl
        have ih' := ih (j + 1) (by omega) (some (.int 0))
        rw [ev] at ih'
        simp (disch := omega) only [st_X5_enoughVoices_7, st_X5_enoughVoices_8, st_X5_enoughVoices_11, st_X5_enoughVoices_14, st_X5_enoughVoices_15, st_X5_enoughVoices_18, st_X5_enoughVoices_19, st_X5_enoughVoices_21, st_X5_enoughVoices_22, st_X5_enoughVoices_23, st_X5_enoughVoices_24, st_X5_enoughVoices_27, st_X5_enoughVoices_28, st_X5_enoughVoices_31, st_X5_enoughVoices_33, st_X5_enoughVoices_35, st_X5_enoughVoices_36, st_X5_enoughVoices_37, st_X5_enoughVoices_39, st_X5_enoughVoices_46, st_X5_enoughVoices_47, st_X5_enoughVoices_49, st_X5_enoughVoices_50, st_X5_enoughVoices_52, st_X5_enoughVoices_72, st_X5_enoughVoices_73, st_X5_enoughVoices_74, st_X5_enoughVoices_75, st_X5_enoughVoices_78, bM_some, hg_16_10, hg_41_0, gQ_10, gQ_42, hN, nn_lt, show j < N by omega, if_true, if_false, ha_42, Int32.zero_add, Int32.add_zero, nn_8, nn_out, nn_clamp, cond_false, h1, h2, lc_r, lc_i, nn_r1, Nat.reduceAdd, ih']
    · by_cases h3 : couldR (kC g) j w = 0
      · have hb : vcB (kC g) w j = false := by unfold vcB; rw [decide_eq_true h3]; simp
        replace ev : cntN (vcB (kC g) w) (j + 1) = cntN (vcB (kC g) w) j := by rw [ev, hb]; rfl
        have ih' := ih (j + 1) (by omega) (some (.int 1))
        rw [ev] at ih'
        simp (disch := omega) only [st_X5_enoughVoices_7, st_X5_enoughVoices_8, st_X5_enoughVoices_11, st_X5_enoughVoices_14, st_X5_enoughVoices_15, st_X5_enoughVoices_18, st_X5_enoughVoices_19, st_X5_enoughVoices_21, st_X5_enoughVoices_22, st_X5_enoughVoices_23, st_X5_enoughVoices_24, st_X5_enoughVoices_42, st_X5_enoughVoices_43, st_X5_enoughVoices_47, st_X5_enoughVoices_49, st_X5_enoughVoices_50, st_X5_enoughVoices_52, st_X5_enoughVoices_55, st_X5_enoughVoices_56, st_X5_enoughVoices_57, st_X5_enoughVoices_60, st_X5_enoughVoices_65, st_X5_enoughVoices_72, st_X5_enoughVoices_73, st_X5_enoughVoices_74, st_X5_enoughVoices_75, st_X5_enoughVoices_78, st_X5_enoughVoices_62 (p := 16) hq_16 ps_i, ec, bM_some, hg_16_10, hg_41_0, gQ_10, gQ_42, hN, nn_lt, show j < N by omega, if_true, if_false, nn_one0, ha_42, Int32.zero_add, Int32.add_zero, nn_out, nn_clamp, cond_false, h1, h3, bC_inl, Option.toList, List.cons_append, List.nil_append, Nat.add_zero, lc_r, lc_i, nn_r1, Nat.reduceAdd, ih']
      · have hb : vcB (kC g) w j = true := by unfold vcB; rw [decide_eq_false h3, decide_eq_false h1]; simp
        rw [hb, cond_true] at ev
        have ih' := ih (j + 1) (by omega) (some (.int 1))
        rw [ev] at ih'
        simp (disch := omega) only [st_X5_enoughVoices_7, st_X5_enoughVoices_8, st_X5_enoughVoices_11, st_X5_enoughVoices_14, st_X5_enoughVoices_15, st_X5_enoughVoices_18, st_X5_enoughVoices_19, st_X5_enoughVoices_21, st_X5_enoughVoices_22, st_X5_enoughVoices_23, st_X5_enoughVoices_24, st_X5_enoughVoices_42, st_X5_enoughVoices_43, st_X5_enoughVoices_47, st_X5_enoughVoices_49, st_X5_enoughVoices_50, st_X5_enoughVoices_52, st_X5_enoughVoices_55, st_X5_enoughVoices_56, st_X5_enoughVoices_57, st_X5_enoughVoices_60, st_X5_enoughVoices_65, st_X5_enoughVoices_68, st_X5_enoughVoices_69, st_X5_enoughVoices_73, st_X5_enoughVoices_74, st_X5_enoughVoices_75, st_X5_enoughVoices_78, st_X5_enoughVoices_62 (p := 16) hq_16 ps_i, ec, bM_some, hg_16_10, hg_41_0, gQ_10, gQ_42, hN, nn_lt, show j < N by omega, if_true, if_false, nn_one0, ha_42, Int32.zero_add, nn_out, nn_clamp, cond_false, h1, h3, bC_inl, Option.toList, List.cons_append, List.nil_append, Nat.add_zero, lc_r, lc_i, nn_r1, Nat.reduceAdd, ih']
theorem c_enough (hK : KN (kC g) N S D L) (hd : dd < D) : bc (d + 1) M_X5_enoughVoices none 0 [some (.ref 41), some (.ref 16), some (.int (Int32.ofNat dd)), none, none, none] [] (hp t (gQ g e T b w s n v k)) cn sn = some (.inl (some (.int (b01 (decide ((kC g 6 dd).toNatClampNeg < cntN (vcB (kC g) w) N))))), hp t (gQ g e T b w s n v k), cn, sn) := by
  have e1 := ev_l (d := d) (t := t) (g := g) (e := e) (T := T) (b := b) (w := w) (s := s) (n := n) (v := v) (k := k) (cn := cn) (sn := sn) hK hd N 0 (by omega) none
  rw [show cntN (vcB (kC g) w) 0 = 0 from rfl, show Int32.ofNat 0 = (0 : Int32) from rfl] at e1
  refine Eq.trans ?_ e1
  simp (disch := omega) only [st_X5_enoughVoices_0, st_X5_enoughVoices_1, st_X5_enoughVoices_2, st_X5_enoughVoices_3, lc_r, lc_i, lc_n, Nat.reduceAdd]
set_option maxHeartbeats 4000000 in
theorem rm_l (hK : KN (kC g) N S D L) (hO : KO (kC g) N S D L) (hd : dd < D) {last : Nat} (hl : last ≤ 60) : ∀ m i : Nat, i + m = last + 1 → ∀ (w : Rw) (s : Int32) (n : Int64) (v k : Rw), Z54 w → ∃ (w' : Rw) (s' : Int32) (n' : Int64) (v' k' : Rw), Z54 w' ∧
    bc (d + 4) M_X5_readyMinute none 3 [some (.ref 41), some (.ref 16), some (.int (Int32.ofNat dd)), some (.int (Int32.ofNat last)), some (.int (Int32.ofNat i))] [] (hp t (gQ g e T b w s n v k)) cn sn = some (.inl (some (.int (rdL (kC g) N D L dd m i w))), hp t (gQ g e T b w' s' n' v' k'), cn, sn) := by
  have h5 := hK.2.2.2.2.2.1
  intro m
  induction m with
  | zero =>
    intro i hi w s n v k hz
    refine ⟨w, s, n, v, k, hz, ?_⟩
    rw [st_X5_readyMinute_3]
    simp (disch := omega) only [st_X5_readyMinute_5, st_X5_readyMinute_6, st_X5_readyMinute_48, st_X5_readyMinute_49, nn_lt, show last < i by omega, if_true, rdL, Nat.reduceAdd]
  | succ m ih =>
    intro i hi w s n v k hz
    have en := c_enough (d := d + 2) (t := t) (g := g) (e := e) (T := T) (b := b) (w := w) (s := s) (n := n) (v := v) (k := k) (cn := 0) (sn := 0) hK hd
    unfold rdL
    by_cases h : (kC g 6 dd).toNatClampNeg < cntN (vcB (kC g) w) N
    · rw [decide_eq_true h] at en
      obtain ⟨v1, k1, ep⟩ := c_min (d := d) (t := t) (g := hR (hR (hR g 41 e) 43 T) 44 b) (cn := 0) (sn := 0) (w := w) (s := s) (n := n) (v := v) (k := k) h42 hK hO
      have ep' : bc (d + 3) M_X4_pass none 0 [some (.ref 16), some (.ref 42), none, none, none] [] (hp t (gQ g e T b w s n v k)) 0 0 = some (.inl none, hp t (gQ g e T b (minR (kC g) N D L w) (Int32.ofNat (cntN (bS (minR (kC g) N D L w)) N)) (notesN (minR (kC g) N D L w) N) v1 k1), 0, 0) := ep
      rw [if_pos h]
      by_cases h1 : minR (kC g) N D L w (48 + dd) = -1
      · obtain ⟨w', s', n', v', k', hz', e'⟩ := ih (i + 1) (by omega) (minR (kC g) N D L w) (Int32.ofNat (cntN (bS (minR (kC g) N D L w)) N)) (notesN (minR (kC g) N D L w) N) v1 k1 (Z54_min hK hO hz)
        refine ⟨w', s', n', v', k', hz', ?_⟩
        rw [if_pos h1, ← e', st_X5_readyMinute_3]
        simp (disch := omega) only [st_X5_readyMinute_5, st_X5_readyMinute_6, st_X5_readyMinute_9, st_X5_readyMinute_10, st_X5_readyMinute_11, st_X5_readyMinute_15, st_X5_readyMinute_18, st_X5_readyMinute_19, st_X5_readyMinute_20, st_X5_readyMinute_26, st_X5_readyMinute_27, st_X5_readyMinute_30, st_X5_readyMinute_32, st_X5_readyMinute_33, st_X5_readyMinute_34, st_X5_readyMinute_35, st_X5_readyMinute_36, st_X5_readyMinute_42, st_X5_readyMinute_45, st_X5_readyMinute_12 (p := 41) hq_41 ps_, st_X5_readyMinute_23 (p := 16) hq_16 ps_, en, ep', nn_lt, show ¬ last < i by omega, if_false, if_true, b01, cond_true, nn_one0, bM_some, hg_41_0, ha_42, gQ_42, nn_48, nn_out, nn_clamp, cond_false, h1, bC_inl, Option.toList, List.cons_append, List.nil_append, Nat.add_zero, lc_r, lc_i, nn_r1, Nat.reduceAdd]
      · refine ⟨minR (kC g) N D L w, Int32.ofNat (cntN (bS (minR (kC g) N D L w)) N), notesN (minR (kC g) N D L w) N, v1, k1, Z54_min hK hO hz, ?_⟩
        rw [if_neg h1, st_X5_readyMinute_3]
        simp (disch := omega) only [st_X5_readyMinute_5, st_X5_readyMinute_6, st_X5_readyMinute_9, st_X5_readyMinute_10, st_X5_readyMinute_11, st_X5_readyMinute_15, st_X5_readyMinute_18, st_X5_readyMinute_19, st_X5_readyMinute_20, st_X5_readyMinute_26, st_X5_readyMinute_27, st_X5_readyMinute_30, st_X5_readyMinute_32, st_X5_readyMinute_33, st_X5_readyMinute_34, st_X5_readyMinute_35, st_X5_readyMinute_36, st_X5_readyMinute_39, st_X5_readyMinute_41, st_X5_readyMinute_12 (p := 41) hq_41 ps_, st_X5_readyMinute_23 (p := 16) hq_16 ps_, en, ep', nn_lt, show ¬ last < i by omega, if_false, b01, cond_true, nn_one0, bM_some, hg_41_0, ha_42, gQ_42, nn_48, nn_out, nn_clamp, cond_false, h1, bC_inl, Option.toList, List.cons_append, List.nil_append, Nat.add_zero, lc_r, lc_i, nn_r1, Nat.reduceAdd]
    · rw [decide_eq_false h] at en
      refine ⟨w, s, n, v, k, hz, ?_⟩
      rw [if_neg h, st_X5_readyMinute_3]
      simp (disch := omega) only [st_X5_readyMinute_5, st_X5_readyMinute_6, st_X5_readyMinute_9, st_X5_readyMinute_10, st_X5_readyMinute_11, st_X5_readyMinute_15, st_X5_readyMinute_48, st_X5_readyMinute_49, st_X5_readyMinute_12 (p := 41) hq_41 ps_, en, nn_lt, show ¬ last < i by omega, if_false, if_true, b01, cond_false, bC_inl, Option.toList, List.cons_append, List.nil_append, Nat.add_zero, Nat.reduceAdd]
theorem c_readyMinute (hK : KN (kC g) N S D L) (hO : KO (kC g) N S D L) (hd : dd < D) {last : Nat} (hl : last ≤ 60) (hz : Z54 w) : ∃ (w' : Rw) (s' : Int32) (n' : Int64) (v' k' : Rw), Z54 w' ∧
    bc (d + 4) M_X5_readyMinute none 0 [some (.ref 41), some (.ref 16), some (.int (Int32.ofNat dd)), some (.int (Int32.ofNat last)), none] [] (hp t (gQ g e T b w s n v k)) cn sn = some (.inl (some (.int (rdL (kC g) N D L dd last 1 w))), hp t (gQ g e T b w' s' n' v' k'), cn, sn) := by
  obtain ⟨w', s', n', v', k', hz', e1⟩ := rm_l (d := d) (t := t) (g := g) (e := e) (T := T) (b := b) (cn := cn) (sn := sn) hK hO hd hl last 1 (by omega) w s n v k hz
  refine ⟨w', s', n', v', k', hz', Eq.trans ?_ e1⟩
  rw [show Int32.ofNat 1 = (1 : Int32) from rfl]
  simp (disch := omega) only [st_X5_readyMinute_0, st_X5_readyMinute_1, lc_r, lc_i, lc_n, Nat.reduceAdd]
end PLAN2
