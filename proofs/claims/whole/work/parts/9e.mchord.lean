/-! ===== chord: the reference ===== -/
section MCHORD
variable {d : Nat} {t : List px_E} {g : hG} {N S D L T cn sn dd : Nat} {w a k : Rw} {x : Int32} {K : Kt}
theorem tb32_n : ∀ u : Nat, u < 256 → ∀ q : Nat, q < 8 → tb32 (Int32.ofNat u) q = u.testBit q := by unfold tb32; decide +kernel
theorem bit_or8 : ∀ u : Nat, u < 256 → ∀ q : Nat, q < 8 → (Int32.ofNat u ||| ((1 : Int32) <<< (Int32.ofNat q &&& 31)) = Int32.ofNat (u ||| 2 ^ q) ∧ u ||| 2 ^ q < 256) := by decide +kernel
/-- totals by the kettles below q for note n - (m + 1) -/
def PK (n N : Nat) (co : Nat → Nat → Nat) (m u q x : Nat) : Prop := ∃ e, e < q ∧ u.testBit e = false ∧ co (n - (m + 1)) e < 1000000 ∧ ∃ y, RS n N 1000000 co m (u ||| 2 ^ e) y ∧ x = co (n - (m + 1)) e + y
theorem PK_skip {n m u q : Nat} {co : Nat → Nat → Nat} (h : u.testBit q = true ∨ co (n - (m + 1)) q = 1000000) (x : Nat) : PK n N co m u q x ↔ PK n N co m u (q + 1) x := by
  unfold PK
  constructor
  · intro ⟨e, h1, h2⟩; exact ⟨e, by omega, h2⟩
  · intro ⟨e, h1, h2, h3, h4⟩
    by_cases he : e = q
    · subst he
      rcases h with h | h
      · rw [h] at h2; cases h2
      · omega
    · exact ⟨e, by omega, h2, h3, h4⟩
theorem PK_take {n m u q : Nat} {co : Nat → Nat → Nat} (h : u.testBit q = false) (hc : co (n - (m + 1)) q < 1000000) (x : Nat) : (PK n N co m u q x ∨ ∃ y, RS n N 1000000 co m (u ||| 2 ^ q) y ∧ x = co (n - (m + 1)) q + y) ↔ PK n N co m u (q + 1) x := by
  unfold PK
  constructor
  · intro z
    rcases z with ⟨e, h1, h2⟩ | ⟨y, h1, h2⟩
    · exact ⟨e, by omega, h2⟩
    · exact ⟨q, by omega, h, hc, y, h1, h2⟩
  · intro ⟨e, h1, h2, h3, y, h4, h5⟩
    by_cases he : e = q
    · subst he; exact Or.inr ⟨y, h4, h5⟩
    · exact Or.inl ⟨e, by omega, h2, h3, y, h4, h5⟩
set_option maxHeartbeats 8000000 in
theorem m_cf_l (hM : MK K N S D L g) (hK : KN K N S D L) (hO : KO K N S D L) (hR' : RI K N S T w) {n base m i : Nat} (hi : i = n - (m + 1)) (hmn : m + 1 ≤ n) (hb : base < 61) (hnt : ∀ e, e < n → ntV K dd base e ≤ 100)
    (ih : ∀ u : Nat, u < 256 → ∃ r, Best (RS n N 1000000 (fun i k => coV K w k (ntV K dd base i)) m u) 100000 r ∧ bc (d + 3 + m) M_X10_chordFrom none 0 [some (.ref 49), some (.int (Int32.ofNat dd)), some (.int (Int32.ofNat base)), some (.int (Int32.ofNat (i + 1))), some (.int (Int32.ofNat u)), none, none, none, none] [] (hp t (gM g w a k)) 0 0 = some (.inl (some (.int (Int32.ofNat r))), hp t (gM g w a k), 0, 0)) {u : Nat} (hu : u < 256) :
    ∀ mm q : Nat, q + mm = N → ∀ (best : Nat) (a8 : Option Value), Best (PK n N (fun i k => coV K w k (ntV K dd base i)) m u q) 100000 best → ∃ r, Best (PK n N (fun i k => coV K w k (ntV K dd base i)) m u N) 100000 r ∧
    bc (d + 3 + (m + 1)) M_X10_chordFrom none 43 [some (.ref 49), some (.int (Int32.ofNat dd)), some (.int (Int32.ofNat base)), some (.int (Int32.ofNat i)), some (.int (Int32.ofNat u)), some (.int (Int32.ofNat (ntV K dd base i))), some (.int (Int32.ofNat best)), some (.int (Int32.ofNat q)), a8] [] (hp t (gM g w a k)) cn sn = some (.inl (some (.int (Int32.ofNat r))), hp t (gM g w a k), cn, sn) := by
  have h8 := hK.2.1
  have hiN : i < n := by omega
  have hv := hnt i hiN
  rw [show d + 3 + (m + 1) = (d + 3 + m) + 1 from rfl]
  intro mm
  induction mm with
  | zero =>
    intro q hq best a8 hB
    obtain rfl : q = N := by omega
    refine ⟨best, hB, ?_⟩
    rw [st_X10_chordFrom_43]
    simp (disch := omega) only [st_X10_chordFrom_45, st_X10_chordFrom_46, st_X10_chordFrom_49, st_X10_chordFrom_50, st_X10_chordFrom_51, st_X10_chordFrom_137, st_X10_chordFrom_139, bM_some, hg_49_3, ha_52, gM_o, hM.n hK, nn_oc0, nn_c0, cond_false, nn_lt, Nat.lt_irrefl, if_false, Nat.reduceAdd]
  | succ mm ihm =>
    intro q hq best a8 hB
    have hs := (hO.1 q (by omega)).1
    have hf := (hR'.1 q (by omega)).2.2.1
    have htb := tb32_n u hu q (by omega)
    have hle := hB.1
    by_cases h1 : u.testBit q = true
    · obtain ⟨r, r1, r2⟩ := ihm (q + 1) (by omega) best (some (.int (-1))) (Best_iff (PK_skip (Or.inl h1)) hB)
      refine ⟨r, r1, ?_⟩
      rw [← r2, st_X10_chordFrom_43]
      simp (disch := omega) only [st_X10_chordFrom_45, st_X10_chordFrom_46, st_X10_chordFrom_49, st_X10_chordFrom_50, st_X10_chordFrom_51, st_X10_chordFrom_54, st_X10_chordFrom_56, st_X10_chordFrom_61, st_X10_chordFrom_71, st_X10_chordFrom_72, st_X10_chordFrom_83, st_X10_chordFrom_85, st_X10_chordFrom_87, st_X10_chordFrom_88, st_X10_chordFrom_91, st_X10_chordFrom_131, st_X10_chordFrom_134, st_X10_chordFrom_58 ps_, m_isOf_y (q := q) (by omega) (htb.trans h1), bM_some, hg_49_3, ha_52, gM_o, hM.n hK, nn_oc0, nn_c0, cond_false, nn_lt, show q < N by omega, if_true, if_false, nn_one0, bC_inl, Option.toList, List.cons_append, List.nil_append, Nat.add_zero, lc_r, lc_i, nn_r1, Nat.reduceAdd]
    · have h1' : u.testBit q = false := Bool.eq_false_iff.mpr h1
      by_cases h2 : 60 < ntV K dd base i
      · obtain ⟨r, r1, r2⟩ := ihm (q + 1) (by omega) best (some (.int (-1))) (Best_iff (PK_skip (Or.inr (by rw [← hi]; unfold coV; rw [if_pos h2]))) hB)
        refine ⟨r, r1, ?_⟩
        rw [← r2, st_X10_chordFrom_43]
        simp (disch := omega) only [st_X10_chordFrom_45, st_X10_chordFrom_46, st_X10_chordFrom_49, st_X10_chordFrom_50, st_X10_chordFrom_51, st_X10_chordFrom_54, st_X10_chordFrom_56, st_X10_chordFrom_61, st_X10_chordFrom_64, st_X10_chordFrom_66, st_X10_chordFrom_68, st_X10_chordFrom_71, st_X10_chordFrom_72, st_X10_chordFrom_83, st_X10_chordFrom_85, st_X10_chordFrom_87, st_X10_chordFrom_88, st_X10_chordFrom_91, st_X10_chordFrom_131, st_X10_chordFrom_134, st_X10_chordFrom_58 ps_, m_isOf_n (q := q) (by omega) (htb.trans h1'), bM_some, hg_49_3, ha_52, gM_o, hM.n hK, nn_oc0, nn_c0, cond_false, nn_lt, nn_g60, h2, show q < N by omega, if_true, if_false, bC_inl, Option.toList, List.cons_append, List.nil_append, Nat.add_zero, lc_r, lc_i, nn_r1, Nat.reduceAdd]
      · have et := m_tunedTo (d := d + 1 + m) (t := t) (w := w) (a := a) (k := k) (cn := 0) (sn := 0) (v := Int32.ofNat (ntV K dd base i)) hM hK hO (show q < N by omega)
        rw [show d + 1 + m + 2 = d + 3 + m by omega] at et
        by_cases h3 : tunedR K w q (Int32.ofNat (ntV K dd base i)) = -1
        · obtain ⟨r, r1, r2⟩ := ihm (q + 1) (by omega) best (some (.int (-1))) (Best_iff (PK_skip (Or.inr (by rw [← hi]; unfold coV; rw [if_neg h2, if_pos h3]))) hB)
          refine ⟨r, r1, ?_⟩
          rw [h3] at et
          rw [← r2, st_X10_chordFrom_43]
          simp (disch := omega) only [st_X10_chordFrom_45, st_X10_chordFrom_46, st_X10_chordFrom_49, st_X10_chordFrom_50, st_X10_chordFrom_51, st_X10_chordFrom_54, st_X10_chordFrom_56, st_X10_chordFrom_61, st_X10_chordFrom_64, st_X10_chordFrom_66, st_X10_chordFrom_68, st_X10_chordFrom_75, st_X10_chordFrom_76, st_X10_chordFrom_78, st_X10_chordFrom_83, st_X10_chordFrom_85, st_X10_chordFrom_87, st_X10_chordFrom_88, st_X10_chordFrom_91, st_X10_chordFrom_131, st_X10_chordFrom_134, st_X10_chordFrom_58 ps_, st_X10_chordFrom_80 (p := 49) hq_49 ps_, m_isOf_n (q := q) (by omega) (htb.trans h1'), et, bM_some, hg_49_3, ha_52, gM_o, hM.n hK, nn_oc0, nn_c0, cond_false, nn_lt, nn_g60, h2, show q < N by omega, if_true, if_false, bC_inl, Option.toList, List.cons_append, List.nil_append, Nat.add_zero, lc_r, lc_i, nn_r1, Nat.reduceAdd]
        · obtain ⟨o1, o2⟩ := bit_or8 u hu q (by omega)
          obtain ⟨r0, b0, e0⟩ := ih (u ||| 2 ^ q) o2
          have hle0 := b0.1
          obtain ⟨ab1, ab2⟩ := abs_n (v := Int32.ofNat (ntV K dd base i)) hs ⟨hf.1, Int.le_trans hf.2 hs.2⟩ h3
          have ec : coV K w q (ntV K dd base i) = (px_abs (tunedR K w q (Int32.ofNat (ntV K dd base i)) - w (16 + q))).toNatClampNeg := by unfold coV; rw [if_neg h2, if_neg h3]
          obtain ⟨r, r1, r2⟩ := ihm (q + 1) (by omega) (min best (coV K w q (ntV K dd base i) + r0)) (some (.int (tunedR K w q (Int32.ofNat (ntV K dd base i))))) (Best_iff (fun x => by rw [← PK_take h1' (by rw [← hi, ec]; omega), ← hi]) (Best_min hB b0))
          refine ⟨r, r1, ?_⟩
          rw [← ec] at ab1 ab2
          rw [← r2, st_X10_chordFrom_43]
          simp (disch := omega) only [st_X10_chordFrom_45, st_X10_chordFrom_46, st_X10_chordFrom_49, st_X10_chordFrom_50, st_X10_chordFrom_51, st_X10_chordFrom_54, st_X10_chordFrom_56, st_X10_chordFrom_61, st_X10_chordFrom_64, st_X10_chordFrom_66, st_X10_chordFrom_68, st_X10_chordFrom_75, st_X10_chordFrom_76, st_X10_chordFrom_78, st_X10_chordFrom_83, st_X10_chordFrom_85, st_X10_chordFrom_87, st_X10_chordFrom_88, st_X10_chordFrom_94, st_X10_chordFrom_96, st_X10_chordFrom_98, st_X10_chordFrom_99, st_X10_chordFrom_102, st_X10_chordFrom_104, st_X10_chordFrom_105, st_X10_chordFrom_106, st_X10_chordFrom_109, st_X10_chordFrom_110, st_X10_chordFrom_111, st_X10_chordFrom_112, st_X10_chordFrom_113, st_X10_chordFrom_114, st_X10_chordFrom_115, st_X10_chordFrom_117, st_X10_chordFrom_118, st_X10_chordFrom_120, st_X10_chordFrom_121, st_X10_chordFrom_125, st_X10_chordFrom_126, st_X10_chordFrom_129, st_X10_chordFrom_131, st_X10_chordFrom_134, st_X10_chordFrom_58 ps_, st_X10_chordFrom_80 (p := 49) hq_49 ps_, st_X10_chordFrom_122 (p := 49) hq_49 ps_ii, m_isOf_n (q := q) (by omega) (htb.trans h1'), et, e0, o1, bM_some, bP_some, m1_i, m2_, hg_49_3, hg_49_27, ha_52, ha_66, gM_o, gM_66, hM.n hK, nn_oc0, nn_c0, nn_out, nn_clamp, cond_false, nn_lt, nn_g60, h2, h3, show q < N by omega, if_true, if_false, ab1, nn_add, nn_min, bC_inl, Option.toList, List.cons_append, List.nil_append, Nat.add_zero, lc_r, lc_i, nn_r1, Nat.reduceAdd]
set_option maxHeartbeats 4000000 in
theorem m_chordFrom (hM : MK K N S D L g) (hK : KN K N S D L) (hO : KO K N S D L) (hR' : RI K N S T w) (hd : dd < D) {n base : Nat} (hn : n = (K 6 dd).toNatClampNeg + 1) (hb : base < 61) : ∀ m i : Nat, i + m = n → ∀ u : Nat, u < 256 → ∃ r, Best (RS n N 1000000 (fun i k => coV K w k (ntV K dd base i)) m u) 100000 r ∧
    bc (d + 3 + m) M_X10_chordFrom none 0 [some (.ref 49), some (.int (Int32.ofNat dd)), some (.int (Int32.ofNat base)), some (.int (Int32.ofNat i)), some (.int (Int32.ofNat u)), none, none, none, none] [] (hp t (gM g w a k)) cn sn = some (.inl (some (.int (Int32.ofNat r))), hp t (gM g w a k), cn, sn) := by
  have hD := hK.2.2.2.2.2.1
  obtain ⟨h1, h2, h3, -⟩ := hO.2.2.1 dd hd
  obtain ⟨M, hKM, hM3⟩ := hK.2.2.2.2.2.2.2.2 dd hd
  have e6 : g.1 59 dd = Int32.ofNat (K 6 dd).toNatClampNeg := by rw [hM.2.2.2.1 dd hd, hKM, nn_clamp (by omega)]
  have hnt : ∀ e, e < n → ntV K dd base e ≤ 100 := fun e he => ntV_le hO hd hb (by omega)
  intro m
  induction m generalizing cn sn with
  | zero =>
    intro i hi u hu
    refine ⟨0, Best_iff (fun x => Iff.rfl) (Best_0 (by omega)), ?_⟩
    simp (disch := omega) only [st_X10_chordFrom_0, st_X10_chordFrom_1, st_X10_chordFrom_2, st_X10_chordFrom_5, st_X10_chordFrom_6, st_X10_chordFrom_7, st_X10_chordFrom_10, st_X10_chordFrom_11, bM_some, hg_49_10, ha_59, gM_o, e6, nn_out, nn_clamp, cond_false, nn_lt, show (K 6 dd).toNatClampNeg < i by omega, if_true, Nat.reduceAdd]
    rfl
  | succ m ih =>
    intro i hi u hu
    obtain ⟨r, r1, r2⟩ := m_cf_l (d := d) (t := t) (a := a) (k := k) (cn := cn) (sn := sn) (dd := dd) hM hK hO hR' (n := n) (base := base) (m := m) (i := i) (by omega) (by omega) hb hnt (fun u hu => ih (cn := 0) (sn := 0) (i + 1) (by omega) u hu) hu N 0 (by omega) 100000 none (Best_iff (fun x => ⟨fun q => q.elim, fun ⟨e, h, _⟩ => by omega⟩) Best_no)
    refine ⟨r, Best_iff (fun x => ?_) r1, Eq.trans ?_ r2⟩
    · exact Iff.rfl
    · rw [show Int32.ofNat 0 = (0 : Int32) from rfl, show Int32.ofNat 100000 = (100000 : Int32) from rfl, show d + 3 + (m + 1) = (d + 3 + m) + 1 from rfl]
      by_cases h0 : i = 0
      · subst h0
        rw [show ntV K dd base 0 = base from rfl]
        simp (disch := omega) only [st_X10_chordFrom_0, st_X10_chordFrom_1, st_X10_chordFrom_2, st_X10_chordFrom_5, st_X10_chordFrom_6, st_X10_chordFrom_7, st_X10_chordFrom_12, st_X10_chordFrom_13, st_X10_chordFrom_16, st_X10_chordFrom_17, st_X10_chordFrom_34, st_X10_chordFrom_36, st_X10_chordFrom_38, st_X10_chordFrom_40, st_X10_chordFrom_41, bM_some, hg_49_10, ha_59, gM_o, e6, nn_out, nn_clamp, cond_false, nn_lt, nn_e0, show ¬ (K 6 dd).toNatClampNeg < 0 by omega, if_true, if_false, lc_r, lc_i, lc_n, Nat.reduceAdd]
      · have hst := h3 (i - 1) (by omega)
        have es : g.1 60 (3 * dd + (i - 1)) = Int32.ofNat (K 7 (dd * 3 + i - 1)).toNatClampNeg := by
          rw [hM.2.2.2.2.1 dd (i - 1) hd (by omega), show dd * 3 + i - 1 = dd * 3 + (i - 1) by omega]
          exact (ii_nat (by have := hst.1; omega)).symm
        rw [show 3 * dd + (i - 1) = 3 * dd + i - 1 by omega] at es
        rw [show ntV K dd base i = base + (K 7 (dd * 3 + i - 1)).toNatClampNeg by unfold ntV; rw [if_neg h0]]
        simp (disch := omega) only [st_X10_chordFrom_0, st_X10_chordFrom_1, st_X10_chordFrom_2, st_X10_chordFrom_5, st_X10_chordFrom_6, st_X10_chordFrom_7, st_X10_chordFrom_12, st_X10_chordFrom_13, st_X10_chordFrom_20, st_X10_chordFrom_21, st_X10_chordFrom_22, st_X10_chordFrom_25, st_X10_chordFrom_26, st_X10_chordFrom_27, st_X10_chordFrom_28, st_X10_chordFrom_29, st_X10_chordFrom_30, st_X10_chordFrom_31, st_X10_chordFrom_32, st_X10_chordFrom_33, st_X10_chordFrom_34, st_X10_chordFrom_36, st_X10_chordFrom_38, st_X10_chordFrom_40, st_X10_chordFrom_41, bM_some, hg_49_10, hg_49_11, ha_59, ha_60, gM_o, e6, es, nn_m3, nn_add, nn_p1, nn_out, nn_clamp, cond_false, nn_lt, nn_e0, h0, show ¬ (K 6 dd).toNatClampNeg < i by omega, if_false, lc_r, lc_i, lc_n, Nat.reduceAdd]
set_option maxHeartbeats 4000000 in
theorem m_ch_l (hM : MK K N S D L g) (hK : KN K N S D L) (hO : KO K N S D L) (hR' : RI K N S T w) (hd : dd < D) : ∀ m base : Nat, base + m = 61 → ∀ v : Nat, Best (fun x => ∃ r, r < base ∧ RS ((K 6 dd).toNatClampNeg + 1) N 1000000 (fun i k => coV K w k (ntV K dd r i)) ((K 6 dd).toNatClampNeg + 1) 0 x) 100000 v → ∃ v', Best (chP K N w dd) 100000 v' ∧
    bc (d + 9) M_X10_chord none 24 [some (.ref 49), some (.int (Int32.ofNat dd)), some (.int (Int32.ofNat v)), some (.int (Int32.ofNat base))] [] (hp t (gM g w a k)) cn sn = some (.inl (some (.int (if v' = 100000 then -1 else Int32.ofNat v'))), hp t (gM g w a k), cn, sn) := by
  have hD := hK.2.2.2.2.2.1
  obtain ⟨h1, h2, -, -⟩ := hO.2.2.1 dd hd
  intro m
  induction m with
  | zero =>
    intro base hb v hB
    obtain rfl : base = 61 := by omega
    refine ⟨v, hB, ?_⟩
    have hle := hB.1
    have e6 : (Int32.ofNat v < 100000) = (v < 100000) := nn_lt (b := 100000) (by omega) (by omega)
    rw [st_X10_chord_24]
    by_cases h : v < 100000
    · rw [if_neg (show ¬ v = 100000 by omega)]
      simp (disch := omega) only [st_X10_chord_25, st_X10_chord_27, st_X10_chord_49, st_X10_chord_50, st_X10_chord_52, st_X10_chord_59, st_X10_chord_60, nn_g60, show 60 < 61 by omega, if_true, e6, h, Nat.reduceAdd]
    · rw [if_pos (show v = 100000 by omega)]
      simp (disch := omega) only [st_X10_chord_25, st_X10_chord_27, st_X10_chord_49, st_X10_chord_50, st_X10_chord_52, st_X10_chord_55, st_X10_chord_56, st_X10_chord_60, nn_g60, show 60 < 61 by omega, if_true, if_false, e6, h, Nat.reduceAdd]
  | succ m ih =>
    intro base hb v hB
    have hle := hB.1
    obtain ⟨r, r1, r2⟩ := m_chordFrom (d := d + 5 - ((K 6 dd).toNatClampNeg + 1)) (t := t) (a := a) (k := k) (cn := 0) (sn := 0) hM hK hO hR' hd (n := (K 6 dd).toNatClampNeg + 1) (base := base) rfl (by omega) ((K 6 dd).toNatClampNeg + 1) 0 (by omega) 0 (by omega)
    rw [show d + 5 - ((K 6 dd).toNatClampNeg + 1) + 3 + ((K 6 dd).toNatClampNeg + 1) = d + 8 by omega, show Int32.ofNat 0 = (0 : Int32) from rfl] at r2
    have hle1 := r1.1
    obtain ⟨v', g1, g2⟩ := ih (base + 1) (by omega) (min v r) (Best_iff (fun x => by
      constructor
      · intro q
        rcases q with ⟨e, h1, h2⟩ | q
        · exact ⟨e, by omega, h2⟩
        · exact ⟨base, by omega, q⟩
      · intro ⟨e, h1, h2⟩
        by_cases h : e = base
        · subst h; exact Or.inr h2
        · exact Or.inl ⟨e, by omega, h2⟩) (Best_or hB r1))
    refine ⟨v', g1, ?_⟩
    rw [← g2, st_X10_chord_24]
    simp (disch := omega) only [st_X10_chord_25, st_X10_chord_27, st_X10_chord_30, st_X10_chord_31, st_X10_chord_32, st_X10_chord_33, st_X10_chord_34, st_X10_chord_35, st_X10_chord_39, st_X10_chord_42, st_X10_chord_43, st_X10_chord_46, st_X10_chord_36 (p := 49) hq_49 ps_i, nn_g60, show ¬ 60 < base by omega, if_false, bP_some, m2_, r2, nn_min, bC_inl, Option.toList, List.cons_append, List.nil_append, Nat.add_zero, lc_r, lc_i, nn_r1, Nat.reduceAdd]
set_option maxHeartbeats 4000000 in
theorem m_chord (hM : MK K N S D L g) (hK : KN K N S D L) (hO : KO K N S D L) (hR' : RI K N S T w) (hd : dd < D) : ∃ v, Best (chP K N w dd) 100000 v ∧
    bc (d + 9) M_X10_chord none 0 [some (.ref 49), some (.int (Int32.ofNat dd)), none, none] [] (hp t (gM g w a k)) cn sn = some (.inl (some (.int (if v = 100000 then -1 else Int32.ofNat v))), hp t (gM (hI g 49 2 0) w a k), cn, sn) := by
  have hD := hK.2.2.2.2.2.1
  obtain ⟨v, e1, e2⟩ := m_ch_l (d := d) (t := t) (a := a) (k := k) (cn := cn) (sn := sn) (MK_49 (i := 2) (x := 0) hM) hK hO hR' hd 61 0 (by omega) 100000 (Best_iff (fun x => ⟨fun q => q.elim, fun ⟨r, h, _⟩ => by omega⟩) Best_no)
  refine ⟨v, e1, Eq.trans ?_ e2⟩
  rw [show Int32.ofNat 0 = (0 : Int32) from rfl, show Int32.ofNat 100000 = (100000 : Int32) from rfl]
  simp (disch := omega) only [st_X10_chord_0, st_X10_chord_1, st_X10_chord_2, st_X10_chord_5, st_X10_chord_6, st_X10_chord_10, st_X10_chord_19, st_X10_chord_21, st_X10_chord_22, st_X10_chord_23, st_X10_chord_7 (p := 49) hq_49 ps_, bM_some, hs_49_2, gM_hI49, m_isDish_y (MK_49 hM) hK (ofN_b hd (by omega)), nn_one0, if_false, bC_inl, Option.toList, List.cons_append, List.nil_append, Nat.add_zero, lc_r, lc_i, lc_n, Nat.reduceAdd]
theorem m_chord_n (hM : MK K N S D L g) (hK : KN K N S D L) (hx : ¬ (0 ≤ x.toInt ∧ x.toInt < D)) : bc (d + 2) M_X10_chord none 0 [some (.ref 49), some (.int x), none, none] [] (hp t (gM g w a k)) cn sn = some (.inl (some (.int 0)), hp t (gM (hI g 49 2 1) w a k), cn, sn) := by
  simp (disch := omega) only [st_X10_chord_0, st_X10_chord_1, st_X10_chord_2, st_X10_chord_5, st_X10_chord_6, st_X10_chord_10, st_X10_chord_13, st_X10_chord_14, st_X10_chord_18, st_X10_chord_7 (p := 49) hq_49 ps_, st_X10_chord_15 (p := 49) hq_49 ps_, bM_some, hs_49_2, gM_hI49, m_isDish_n (MK_49 hM) hK hx, m_fail, hI_hI, if_true, bC_inl, Option.toList, List.cons_append, List.nil_append, Nat.add_zero, Nat.reduceAdd]
/-- class and reference say the same -/
theorem chord_eq {v r : Nat} (hO : KO K N S D L) (hR' : RI K N S T w) (hd : dd < D) (h1 : Best (chP K N w dd) 1000000 v) (h2 : Best (chP K N w dd) 100000 r) : (if v = 1000000 then -1 else Int32.ofNat v) = (if r = 100000 then -1 else Int32.ofNat r) := by
  obtain ⟨q1, q2, -, -⟩ := hO.2.2.1 dd hd
  have hP : ∀ x, chP K N w dd x → x ≤ 160 := by
    intro x hx
    obtain ⟨r, _, h⟩ := hx
    have : x ≤ 40 * ((K 6 dd).toNatClampNeg + 1) := by
      refine RS_leN ?_ _ _ _ h
      intro i q hq hlt
      rcases coV_b (v := ntV K dd r i) (hO.1 q hq).1 (w := w) ⟨(hR'.1 q hq).2.2.1.1, Int.le_trans (hR'.1 q hq).2.2.1.2 (hO.1 q hq).1.2⟩ with h | h <;> omega
    omega
  rcases Best_two (by omega) (by omega) hP h1 h2 with ⟨e1, e2⟩ | ⟨e1, e2⟩
  · rw [if_neg (by omega), if_neg (by omega), e1]
  · rw [if_pos e1, if_pos e2]
end MCHORD
