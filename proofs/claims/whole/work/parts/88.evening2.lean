/-! ===== evenings ===== -/
section EVE2
variable {d : Nat} {t : List px_E} {g : hG} {h : px_H} {j q N S D L T cn sn c : Nat} {w a k v : Rw} {x y p s : Int32} {K : Kt} {n : Int64}
theorem meddR_o {i b : Nat} (hj : j < 8) (hi : 8 ≤ i) : meddR N S w j b i = w i := by
  unfold meddR
  repeat' split
  · exact upd_oth (by omega)
  · exact upd_oth (by omega)
  · rfl
  · rfl
theorem freeR_b : ∀ m j : Nat, freeR w N m j = -1 ∨ ∃ u : Nat, j ≤ u ∧ u < j + m ∧ freeR w N m j = Int32.ofNat u := by
  intro m
  induction m with
  | zero => intro j; exact Or.inl rfl
  | succ m ih =>
    intro j
    unfold freeR
    split
    · exact Or.inr ⟨j, by omega, by omega, rfl⟩
    · rcases ih (j + 1) with e | ⟨u, h1, h2, e⟩
      · exact Or.inl e
      · exact Or.inr ⟨u, by omega, by omega, e⟩
theorem RI_med (hS : S ≤ 4) {b : Nat} (hj : j < 8) (hri : RI K N S T w) : RI K N S T (meddR N S w j b) := by
  refine ⟨fun i hi => ?_, ?_⟩
  · obtain ⟨q1, q2, q3, q4, q5⟩ := hri.1 i hi
    rw [meddR_o (i := 8 + i) hj (by omega), meddR_o (i := 16 + i) hj (by omega), meddR_o (i := 24 + i) hj (by omega), meddR_o (i := 40 + i) hj (by omega)]
    refine ⟨?_, q2, q3, q4, q5⟩
    have key : ∀ z : Int32, (z = -1 ∨ (0 ≤ z.toInt ∧ z.toInt < S)) → (upd w j z i = -1 ∨ (0 ≤ (upd w j z i).toInt ∧ (upd w j z i).toInt < S)) := by
      intro z hz
      rw [upd_at]
      split
      · exact hz
      · exact q1
    unfold meddR
    repeat' split
    · exact key _ (Or.inl rfl)
    · apply key
      rcases freeR_b (w := w) (N := N) S 0 with e | ⟨u, h1, h2, e⟩
      · exact Or.inl e
      · right; rw [e, ii_ofNat (by omega)]; omega
    · exact q1
    · exact q1
  · rw [meddR_o hj (by omega)]; exact hri.2
set_option maxRecDepth 10000 in
theorem bc_all : ∀ x : Nat, x < 32 → (fun x : Int32 => (let a := x - ((x.toUInt32 >>> ((1 : Int32).toUInt32 &&& Int32.toUInt32 31)).toInt32 &&& 1431655765); let b := (a &&& 858993459) + ((a.toUInt32 >>> ((2 : Int32).toUInt32 &&& Int32.toUInt32 31)).toInt32 &&& 858993459); let c := (b + (b.toUInt32 >>> ((4 : Int32).toUInt32 &&& Int32.toUInt32 31)).toInt32) &&& 252645135; let e := c + (c.toUInt32 >>> ((8 : Int32).toUInt32 &&& Int32.toUInt32 31)).toInt32; let f := e + (e.toUInt32 >>> ((16 : Int32).toUInt32 &&& Int32.toUInt32 31)).toInt32; f &&& 63)) (Int32.ofNat x) = bitsL 8 0 (Int32.ofNat x) := by decide +kernel
theorem c_bitCount (b : Nat → Bool) (h5 : N ≤ 5) : bc d M_J6_bitCount_0f7a4 none 0 [some (.int (Int32.ofNat (setN b N)))] [] h cn sn = some (.inl (some (.int (Int32.ofNat (cntN b N)))), h, cn, sn) := by
  rw [← bits_cnt b N (by omega), ← bc_all _ (setN_le b (n := 5) h5)]
  generalize Int32.ofNat (setN b N) = z
  simp only [st_J6_bitCount_0f7a4_0, st_J6_bitCount_0f7a4_1, st_J6_bitCount_0f7a4_2, st_J6_bitCount_0f7a4_3, st_J6_bitCount_0f7a4_4, st_J6_bitCount_0f7a4_7, st_J6_bitCount_0f7a4_8, lc_i, lc_r, lc_n, lc_j, lc_f, st_J6_bitCount_0f7a4_9, st_J6_bitCount_0f7a4_10, st_J6_bitCount_0f7a4_11, st_J6_bitCount_0f7a4_14, st_J6_bitCount_0f7a4_15, st_J6_bitCount_0f7a4_16, st_J6_bitCount_0f7a4_17, st_J6_bitCount_0f7a4_18, st_J6_bitCount_0f7a4_21, st_J6_bitCount_0f7a4_22, st_J6_bitCount_0f7a4_23, st_J6_bitCount_0f7a4_24, st_J6_bitCount_0f7a4_25, st_J6_bitCount_0f7a4_26, st_J6_bitCount_0f7a4_27, st_J6_bitCount_0f7a4_28, st_J6_bitCount_0f7a4_29, st_J6_bitCount_0f7a4_32, st_J6_bitCount_0f7a4_33, st_J6_bitCount_0f7a4_34, st_J6_bitCount_0f7a4_35, st_J6_bitCount_0f7a4_36, st_J6_bitCount_0f7a4_38, st_J6_bitCount_0f7a4_39, st_J6_bitCount_0f7a4_40, st_J6_bitCount_0f7a4_41, st_J6_bitCount_0f7a4_42, st_J6_bitCount_0f7a4_43, st_J6_bitCount_0f7a4_45, st_J6_bitCount_0f7a4_46, st_J6_bitCount_0f7a4_47, st_J6_bitCount_0f7a4_48, st_J6_bitCount_0f7a4_49, st_J6_bitCount_0f7a4_51, st_J6_bitCount_0f7a4_52, Nat.reduceAdd]
theorem gP30_ready (hK : KN (kC g) N S D L) : bc d M_X9_readyDishes none 0 [some (.ref 0), some (.ref 30), none, none] [] (hp t (gP g 30 w s n v k)) cn sn = some (.inl (some (.int (Int32.ofNat (setN (bR w) D)))), hp t (gP g 30 w s n v k), cn, sn) := by
  have := c_ready30 (d := d) (t := t) (g := gP g 30 w s n v k) (N := N) (S := S) (D := D) (L := L) (cn := cn) (sn := sn) hK
  rw [gP_r h30] at this
  exact this
set_option maxHeartbeats 8000000 in
theorem c_eve_l (hK : KN (kC g) N S D L) (hO : KO (kC g) N S D L) (hq : q ≤ 90) (hx : x = 0 ∨ x = 1 ∨ x = 2) : ∀ m i : Nat, i + m = q → ∀ (u : Int32 × Rw) (c : Nat) (hh : Int32) (s : Int32) (n : Int64) (v k : Rw) (a8 : Option Value), Z54 u.2 → 0 ≤ hh.toInt → c ≤ i → ∃ (w' : Rw) (s' : Int32) (n' : Int64) (v' k' : Rw), Z54 w' ∧
    bc (d + 4) M_X9_evening none 57 [some (.ref 0), some (.int y), some (.int (Int32.ofNat q)), some (.int x), some (.int u.1), some (.int (Int32.ofNat c)), some (.int hh), some (.int (Int32.ofNat i)), a8] [] (hp t (gP g 30 u.2 s n v k)) cn sn = some (.inl (some (.int (eveA D (eveR (kC g) N S D L m u c hh) x))), hp t (gP g 30 w' s' n' v' k'), cn, sn) := by
  have h8 := hK.2.1
  have h5 := hK.2.2.2.2.2.1
  intro m
  induction m with
  | zero =>
    intro i hi u c hh s n v k a8 hz h0 hc
    refine ⟨u.2, s, n, v, k, hz, ?_⟩
    rw [st_X9_evening_57]
    unfold eveR eveA
    rcases hx with hx | hx | hx <;> subst hx
    · simp (disch := omega) only [st_X9_evening_59, st_X9_evening_60, st_X9_evening_169, st_X9_evening_170, st_X9_evening_173, st_X9_evening_174, st_X9_evening_175, st_X9_evening_184, st_X9_evening_178 (p := 0) hq_0 ps_, st_X9_evening_181 ps_, bM_some, hg_0_3, nn_lt, show ¬ i < q by omega, if_true, if_false, gP30_ready hK, c_bitCount (bR u.2) h5, bC_inl, Option.toList, List.cons_append, List.nil_append, Nat.add_zero, Nat.reduceAdd]
    · simp (disch := omega) only [st_X9_evening_59, st_X9_evening_60, st_X9_evening_169, st_X9_evening_170, st_X9_evening_185, st_X9_evening_186, st_X9_evening_187, st_X9_evening_190, st_X9_evening_192, st_X9_evening_197, nn_lt, show ¬ i < q by omega, if_true, if_false, nn_one0, Nat.reduceAdd]
    · simp (disch := omega) only [st_X9_evening_59, st_X9_evening_60, st_X9_evening_169, st_X9_evening_170, st_X9_evening_185, st_X9_evening_186, st_X9_evening_187, st_X9_evening_195, st_X9_evening_197, nn_lt, show ¬ i < q by omega, if_false, show ((2 : Int32) = 0) = False by decide, show ((2 : Int32) = 1) = False by decide, Nat.reduceAdd]
  | succ m ih =>
    intro i hi u c hh s n v k a8 hz h0 hc
    have hz1 : Z54 (eveS (kC g) N S D L u).2 := by
      unfold eveS
      split
      · exact Z54_min hK hO hz
      · apply Z54_min hK hO
        intro i' hi'
        rw [meddR_o (by have := Nat.mod_lt (drawV (seedS u.1)) (show 0 < N by omega); omega) (by omega)]
        exact hz i' hi'
    have hg0 := hiF_ge (w := (eveS (kC g) N S D L u).2) N 0 hh h0
    rw [show eveR (kC g) N S D L (m + 1) u c hh = eveR (kC g) N S D L m (eveS (kC g) N S D L u) (c + (bif sang N (eveS (kC g) N S D L u).2 then 1 else 0)) (hiF (eveS (kC g) N S D L u).2 N 0 hh) from rfl]
    have hsum : (if 0 < Int32.ofNat (cntN (bS (eveS (kC g) N S D L u).2) N) then Int32.ofNat c + 1 else Int32.ofNat c + 0) = Int32.ofNat (c + (bif sang N (eveS (kC g) N S D L u).2 then 1 else 0)) := by
      have hcl := cntN_le (bS (eveS (kC g) N S D L u).2) N
      unfold sang
      by_cases hz0 : cntN (bS (eveS (kC g) N S D L u).2) N = 0
      · rw [hz0, decide_eq_true rfl]
        simp only [show (0 < Int32.ofNat 0) = False by decide, if_false, Bool.not_true, cond_false, Int32.add_zero, Nat.add_zero]
      · rw [decide_eq_false hz0, nn_r1]
        have : (0 < Int32.ofNat (cntN (bS (eveS (kC g) N S D L u).2) N)) = True := by rw [nn_g0 (by omega)]; exact eq_true (by omega)
        simp only [this, if_true, Bool.not_false, cond_true]
    by_cases hN : N = 0
    · have hes : eveS (kC g) N S D L u = (u.1, minR (kC g) N D L u.2) := by unfold eveS; rw [if_pos hN]
      obtain ⟨v1, k1, e⟩ := c_min (d := d) (t := t) (cn := 0) (sn := 0) (w := u.2) (s := s) (n := n) (v := v) (k := k) h30 hK hO
      obtain ⟨w', s', n', v', k', hz2, e'⟩ := ih (i + 1) (by omega) (eveS (kC g) N S D L u) (c + (bif sang N (eveS (kC g) N S D L u).2 then 1 else 0)) (hiF (eveS (kC g) N S D L u).2 N 0 hh) (Int32.ofNat (cntN (bS (eveS (kC g) N S D L u).2) N)) (notesN (eveS (kC g) N S D L u).2 N) v1 k1 a8 hz1 hg0 (by cases sang N (eveS (kC g) N S D L u).2 <;> simp only [cond_true, cond_false] <;> omega)
      refine ⟨w', s', n', v', k', hz2, ?_⟩
      rw [← e', st_X9_evening_57]
      rw [hes] at hsum ⊢
      have hk : (gP g 30 u.2 s n v k).1 16 10 = Int32.ofNat N := hK.1
      have hmx : px_max hh (hiF (minR (kC g) N D L u.2) N 0 0) = hiF (minR (kC g) N D L u.2) N 0 hh := by rw [hiF_max, max_0 h0]
      by_cases hp0 : 0 < Int32.ofNat (cntN (bS (minR (kC g) N D L u.2)) N)
      · rw [if_pos hp0] at hsum
        simp (disch := omega) only [st_X9_evening_0, st_X9_evening_1, st_X9_evening_4, st_X9_evening_5, st_X9_evening_6, st_X9_evening_9, st_X9_evening_20, st_X9_evening_21, st_X9_evening_24, st_X9_evening_25, st_X9_evening_27, st_X9_evening_30, st_X9_evening_41, lc_i, lc_r, lc_n, lc_j, lc_f, st_X9_evening_42, st_X9_evening_44, st_X9_evening_45, st_X9_evening_47, st_X9_evening_48, st_X9_evening_50, st_X9_evening_51 (p := 0) hq_0 ps_, bC_inl, Option.toList, List.cons_append, List.nil_append, Nat.add_zero, st_X9_evening_54, st_X9_evening_55, st_X9_evening_59, st_X9_evening_60, st_X9_evening_63, bM_some, hg_0_1, st_X9_evening_64, hg_16_10, st_X9_evening_67, st_X9_evening_70, st_X9_evening_73, st_X9_evening_74, st_X9_evening_76 (p := 0) hq_0 ps_, st_X9_evening_79, st_X9_evening_81, st_X9_evening_82, st_X9_evening_84, st_X9_evening_85, st_X9_evening_88, st_X9_evening_91 (p := 0) hq_0 ps_, st_X9_evening_94, st_X9_evening_96, st_X9_evening_97, st_X9_evening_99 (p := 0) hq_0 ps_, st_X9_evening_102, st_X9_evening_104, st_X9_evening_105, st_X9_evening_107, st_X9_evening_108, st_X9_evening_110, st_X9_evening_111 (p := 0) hq_0 ps_ir, st_X9_evening_114 (p := 0) hq_0 ps_, st_X9_evening_117, st_X9_evening_118, st_X9_evening_121, hg_0_3, st_X9_evening_122, st_X9_evening_125 (p := 16) hq_16 ps_, st_X9_evening_128, st_X9_evening_130, st_X9_evening_131, hg_16_14, st_X9_evening_134, st_X9_evening_137, st_X9_evening_140, st_X9_evening_141, st_X9_evening_145, st_X9_evening_146, st_X9_evening_148, st_X9_evening_150, st_X9_evening_151, st_X9_evening_152, st_X9_evening_155 (p := 0) hq_0 ps_i, bP_some, m2_, st_X9_evening_158, st_X9_evening_161, st_X9_evening_163, st_X9_evening_166, st_X9_evening_169, st_X9_evening_170, st_X9_evening_173, st_X9_evening_174, st_X9_evening_175, st_X9_evening_178 (p := 0) hq_0 ps_, st_X9_evening_181 ps_, st_X9_evening_184, st_X9_evening_185, st_X9_evening_186, st_X9_evening_187, st_X9_evening_190, st_X9_evening_192, st_X9_evening_197, st_X9_evening_195, st_X9_evening_144, Nat.reduceAdd, nn_lt, show i < q by omega, if_true, if_false, hk, nn_g0 (a := N), show ¬ 0 < N by omega, e, gP_r h30, gP_s h30, gP_n h30, hp0, hsum, c_high hK, hmx, nn_r1]
      · rw [if_neg hp0] at hsum
        simp (disch := omega) only [st_X9_evening_0, st_X9_evening_1, st_X9_evening_4, st_X9_evening_5, st_X9_evening_6, st_X9_evening_9, st_X9_evening_20, st_X9_evening_21, st_X9_evening_24, st_X9_evening_25, st_X9_evening_27, st_X9_evening_30, st_X9_evening_41, lc_i, lc_r, lc_n, lc_j, lc_f, st_X9_evening_42, st_X9_evening_44, st_X9_evening_45, st_X9_evening_47, st_X9_evening_48, st_X9_evening_50, st_X9_evening_51 (p := 0) hq_0 ps_, bC_inl, Option.toList, List.cons_append, List.nil_append, Nat.add_zero, st_X9_evening_54, st_X9_evening_55, st_X9_evening_59, st_X9_evening_60, st_X9_evening_63, bM_some, hg_0_1, st_X9_evening_64, hg_16_10, st_X9_evening_67, st_X9_evening_70, st_X9_evening_73, st_X9_evening_74, st_X9_evening_76 (p := 0) hq_0 ps_, st_X9_evening_79, st_X9_evening_81, st_X9_evening_82, st_X9_evening_84, st_X9_evening_85, st_X9_evening_88, st_X9_evening_91 (p := 0) hq_0 ps_, st_X9_evening_94, st_X9_evening_96, st_X9_evening_97, st_X9_evening_99 (p := 0) hq_0 ps_, st_X9_evening_102, st_X9_evening_104, st_X9_evening_105, st_X9_evening_107, st_X9_evening_108, st_X9_evening_110, st_X9_evening_111 (p := 0) hq_0 ps_ir, st_X9_evening_114 (p := 0) hq_0 ps_, st_X9_evening_117, st_X9_evening_118, st_X9_evening_121, hg_0_3, st_X9_evening_122, st_X9_evening_125 (p := 16) hq_16 ps_, st_X9_evening_128, st_X9_evening_130, st_X9_evening_131, hg_16_14, st_X9_evening_134, st_X9_evening_137, st_X9_evening_140, st_X9_evening_141, st_X9_evening_145, st_X9_evening_146, st_X9_evening_148, st_X9_evening_150, st_X9_evening_151, st_X9_evening_152, st_X9_evening_155 (p := 0) hq_0 ps_i, bP_some, m2_, st_X9_evening_158, st_X9_evening_161, st_X9_evening_163, st_X9_evening_166, st_X9_evening_169, st_X9_evening_170, st_X9_evening_173, st_X9_evening_174, st_X9_evening_175, st_X9_evening_178 (p := 0) hq_0 ps_, st_X9_evening_181 ps_, st_X9_evening_184, st_X9_evening_185, st_X9_evening_186, st_X9_evening_187, st_X9_evening_190, st_X9_evening_192, st_X9_evening_197, st_X9_evening_195, st_X9_evening_144, Nat.reduceAdd, nn_lt, show i < q by omega, if_true, if_false, hk, nn_g0 (a := N), show ¬ 0 < N by omega, e, gP_r h30, gP_s h30, gP_n h30, hp0, hsum, c_high hK, hmx, nn_r1]
    · have hes : eveS (kC g) N S D L u = (seedS (seedS u.1), minR (kC g) N D L (meddR N S u.2 (drawV (seedS u.1) % N) (drawV (seedS (seedS u.1)) % 4))) := by unfold eveS; rw [if_neg hN]
      have hd1 := Nat.mod_lt (drawV (seedS u.1)) (show 0 < N by omega)
      have hd2 := Nat.mod_lt (drawV (seedS (seedS u.1))) (show 0 < 4 by omega)
      obtain ⟨v1, k1, e⟩ := c_min (d := d) (t := t) (cn := 0) (sn := 0) (w := meddR N S u.2 (drawV (seedS u.1) % N) (drawV (seedS (seedS u.1)) % 4)) (s := s) (n := n) (v := v) (k := k) h30 hK hO
      obtain ⟨w', s', n', v', k', hz2, e'⟩ := ih (i + 1) (by omega) (eveS (kC g) N S D L u) (c + (bif sang N (eveS (kC g) N S D L u).2 then 1 else 0)) (hiF (eveS (kC g) N S D L u).2 N 0 hh) (Int32.ofNat (cntN (bS (eveS (kC g) N S D L u).2) N)) (notesN (eveS (kC g) N S D L u).2 N) v1 k1 (some (.int (Int32.ofNat (drawV (seedS u.1) % N)))) hz1 hg0 (by cases sang N (eveS (kC g) N S D L u).2 <;> simp only [cond_true, cond_false] <;> omega)
      refine ⟨w', s', n', v', k', hz2, ?_⟩
      rw [← e', st_X9_evening_57]
      rw [hes] at hsum ⊢
      have hk : (gP g 30 u.2 s n v k).1 16 10 = Int32.ofNat N := hK.1
      have hm := c_meddle (d := d + 1) (t := t) (g := g) (w := u.2) (s := s) (n := n) (v := v) (k := k) (cn := 0) (sn := 0) (j := drawV (seedS u.1) % N) (q := drawV (seedS (seedS u.1)) % 4) hK (by omega) hd2
      have hdr : bc (d + 3) M_X9_draw none 0 [some (.ref 0), some (.int (seedS (seedS u.1))), some (.int 4)] [] (hp t (gP g 30 u.2 s n v k)) 0 0 = some (.inl (some (.int (Int32.ofNat (drawV (seedS (seedS u.1)) % 4)))), hp t (gP g 30 u.2 s n v k), 0, 0) := c_draw (q := 4) (by omega) (by omega)
      generalize minR (kC g) N D L (meddR N S u.2 (drawV (seedS u.1) % N) (drawV (seedS (seedS u.1)) % 4)) = w1 at *
      have hmx : px_max hh (hiF w1 N 0 0) = hiF w1 N 0 hh := by rw [hiF_max, max_0 h0]
      by_cases hp0 : 0 < Int32.ofNat (cntN (bS w1) N)
      · rw [if_pos hp0] at hsum
        simp (disch := omega) only [st_X9_evening_0, st_X9_evening_1, st_X9_evening_4, st_X9_evening_5, st_X9_evening_6, st_X9_evening_9, st_X9_evening_20, st_X9_evening_21, st_X9_evening_24, st_X9_evening_25, st_X9_evening_27, st_X9_evening_30, st_X9_evening_41, lc_i, lc_r, lc_n, lc_j, lc_f, st_X9_evening_42, st_X9_evening_44, st_X9_evening_45, st_X9_evening_47, st_X9_evening_48, st_X9_evening_50, st_X9_evening_51 (p := 0) hq_0 ps_, bC_inl, Option.toList, List.cons_append, List.nil_append, Nat.add_zero, st_X9_evening_54, st_X9_evening_55, st_X9_evening_59, st_X9_evening_60, st_X9_evening_63, bM_some, hg_0_1, st_X9_evening_64, hg_16_10, st_X9_evening_67, st_X9_evening_70, st_X9_evening_73, st_X9_evening_74, st_X9_evening_76 (p := 0) hq_0 ps_, st_X9_evening_79, st_X9_evening_81, st_X9_evening_82, st_X9_evening_84, st_X9_evening_85, st_X9_evening_88, st_X9_evening_91 (p := 0) hq_0 ps_, st_X9_evening_94, st_X9_evening_96, st_X9_evening_97, st_X9_evening_99 (p := 0) hq_0 ps_, st_X9_evening_102, st_X9_evening_104, st_X9_evening_105, st_X9_evening_107, st_X9_evening_108, st_X9_evening_110, st_X9_evening_111 (p := 0) hq_0 ps_ir, st_X9_evening_114 (p := 0) hq_0 ps_, st_X9_evening_117, st_X9_evening_118, st_X9_evening_121, hg_0_3, st_X9_evening_122, st_X9_evening_125 (p := 16) hq_16 ps_, st_X9_evening_128, st_X9_evening_130, st_X9_evening_131, hg_16_14, st_X9_evening_134, st_X9_evening_137, st_X9_evening_140, st_X9_evening_141, st_X9_evening_145, st_X9_evening_146, st_X9_evening_148, st_X9_evening_150, st_X9_evening_151, st_X9_evening_152, st_X9_evening_155 (p := 0) hq_0 ps_i, bP_some, m2_, st_X9_evening_158, st_X9_evening_161, st_X9_evening_163, st_X9_evening_166, st_X9_evening_169, st_X9_evening_170, st_X9_evening_173, st_X9_evening_174, st_X9_evening_175, st_X9_evening_178 (p := 0) hq_0 ps_, st_X9_evening_181 ps_, st_X9_evening_184, st_X9_evening_185, st_X9_evening_186, st_X9_evening_187, st_X9_evening_190, st_X9_evening_192, st_X9_evening_197, st_X9_evening_195, st_X9_evening_144, Nat.reduceAdd, nn_lt, show i < q by omega, if_true, if_false, hk, nn_g0 (a := N), show 0 < N by omega, c_nextSeed, c_draw (q := N) (by omega) (by omega), hdr, hm, e, gP_r h30, gP_s h30, gP_n h30, hp0, hsum, c_high hK, hmx, nn_r1]
      · rw [if_neg hp0] at hsum
        simp (disch := omega) only [st_X9_evening_0, st_X9_evening_1, st_X9_evening_4, st_X9_evening_5, st_X9_evening_6, st_X9_evening_9, st_X9_evening_20, st_X9_evening_21, st_X9_evening_24, st_X9_evening_25, st_X9_evening_27, st_X9_evening_30, st_X9_evening_41, lc_i, lc_r, lc_n, lc_j, lc_f, st_X9_evening_42, st_X9_evening_44, st_X9_evening_45, st_X9_evening_47, st_X9_evening_48, st_X9_evening_50, st_X9_evening_51 (p := 0) hq_0 ps_, bC_inl, Option.toList, List.cons_append, List.nil_append, Nat.add_zero, st_X9_evening_54, st_X9_evening_55, st_X9_evening_59, st_X9_evening_60, st_X9_evening_63, bM_some, hg_0_1, st_X9_evening_64, hg_16_10, st_X9_evening_67, st_X9_evening_70, st_X9_evening_73, st_X9_evening_74, st_X9_evening_76 (p := 0) hq_0 ps_, st_X9_evening_79, st_X9_evening_81, st_X9_evening_82, st_X9_evening_84, st_X9_evening_85, st_X9_evening_88, st_X9_evening_91 (p := 0) hq_0 ps_, st_X9_evening_94, st_X9_evening_96, st_X9_evening_97, st_X9_evening_99 (p := 0) hq_0 ps_, st_X9_evening_102, st_X9_evening_104, st_X9_evening_105, st_X9_evening_107, st_X9_evening_108, st_X9_evening_110, st_X9_evening_111 (p := 0) hq_0 ps_ir, st_X9_evening_114 (p := 0) hq_0 ps_, st_X9_evening_117, st_X9_evening_118, st_X9_evening_121, hg_0_3, st_X9_evening_122, st_X9_evening_125 (p := 16) hq_16 ps_, st_X9_evening_128, st_X9_evening_130, st_X9_evening_131, hg_16_14, st_X9_evening_134, st_X9_evening_137, st_X9_evening_140, st_X9_evening_141, st_X9_evening_145, st_X9_evening_146, st_X9_evening_148, st_X9_evening_150, st_X9_evening_151, st_X9_evening_152, st_X9_evening_155 (p := 0) hq_0 ps_i, bP_some, m2_, st_X9_evening_158, st_X9_evening_161, st_X9_evening_163, st_X9_evening_166, st_X9_evening_169, st_X9_evening_170, st_X9_evening_173, st_X9_evening_174, st_X9_evening_175, st_X9_evening_178 (p := 0) hq_0 ps_, st_X9_evening_181 ps_, st_X9_evening_184, st_X9_evening_185, st_X9_evening_186, st_X9_evening_187, st_X9_evening_190, st_X9_evening_192, st_X9_evening_197, st_X9_evening_195, st_X9_evening_144, Nat.reduceAdd, nn_lt, show i < q by omega, if_true, if_false, hk, nn_g0 (a := N), show 0 < N by omega, c_nextSeed, c_draw (q := N) (by omega) (by omega), hdr, hm, e, gP_r h30, gP_s h30, gP_n h30, hp0, hsum, c_high hK, hmx, nn_r1]
set_option maxHeartbeats 2000000 in
theorem c_evening (hK : KN (kC g) N S D L) (hO : KO (kC g) N S D L) (hz : Z54 (g.1 29)) (hz' : Z54 (g.1 30)) (hq : q ≤ 90) (hx : x = 0 ∨ x = 1 ∨ x = 2) : ∃ (w' : Rw) (s' : Int32) (n' : Int64) (v' k' : Rw), Z54 w' ∧
    bc (d + 4) M_X9_evening none 0 [some (.ref 0), some (.int y), some (.int (Int32.ofNat q)), some (.int x), none, none, none, none, none] [] (hp t g) cn sn = some (.inl (some (.int (eveA D (eveR (kC g) N S D L q (y, g.1 29) 0 0) x))), hp t (gP g 30 w' s' n' v' k'), cn, sn) := by
  obtain ⟨w', s', n', v', k', h2, e⟩ := c_eve_l (d := d) (t := t) (cn := cn) (sn := sn) (y := y) hK hO hq hx q 0 (by omega) (y, g.1 29) 0 0 (g.1 16 14) (g.2.1 16 13) (g.1 28) (g.1 27) none hz (by decide) (by omega)
  refine ⟨w', s', n', v', k', h2, ?_⟩
  rw [← e]
  dsimp only
  rw [gP_tr]
  have x1 : ¬ x < 0 := by rcases hx with hx | hx | hx <;> subst hx <;> decide
  have x2 : ¬ 2 < x := by rcases hx with hx | hx | hx <;> subst hx <;> decide
  simp (disch := omega) only [st_X9_evening_0, st_X9_evening_1, st_X9_evening_4, st_X9_evening_5, st_X9_evening_6, st_X9_evening_20, st_X9_evening_21, st_X9_evening_24, st_X9_evening_25, st_X9_evening_27, st_X9_evening_41, st_X9_evening_42, st_X9_evening_44, st_X9_evening_45, st_X9_evening_47, st_X9_evening_48, st_X9_evening_50, st_X9_evening_54, st_X9_evening_55, st_X9_evening_51 (p := 0) hq_0 ps_, x1, x2, nn_l0, nn_g90, Nat.not_lt_zero, show ¬ 90 < q by omega, if_false, c_trial hz hz', bC_inl, Option.toList, List.nil_append, Nat.add_zero, lc_i, Nat.reduceAdd]
  rfl
theorem c_evening_n1 (hx : ¬ (0 ≤ x.toInt ∧ x.toInt ≤ 2)) {z u : Int32} : bc (d + 13) M_X9_evening none 0 [some (.ref 0), some (.int z), some (.int u), some (.int x), none, none, none, none, none] [] (hp t g) cn sn = some (.inr 1, hp t g, cn + 1, sn + 6) := by
  by_cases h1 : x < 0
  · simp only [st_X9_evening_0, st_X9_evening_1, st_X9_evening_9, h1, if_true, Nat.reduceAdd]
  · have h2 : 2 < x := by rw [ii_lt, ti_0] at h1; rw [ii_lt, ti_2]; omega
    simp only [st_X9_evening_0, st_X9_evening_1, st_X9_evening_4, st_X9_evening_5, st_X9_evening_6, st_X9_evening_9, h1, h2, if_true, if_false, Nat.reduceAdd]
theorem c_evening_n2 (hx : 0 ≤ x.toInt ∧ x.toInt ≤ 2) {z u : Int32} (hu : ¬ (0 ≤ u.toInt ∧ u.toInt ≤ 90)) : bc (d + 13) M_X9_evening none 0 [some (.ref 0), some (.int z), some (.int u), some (.int x), none, none, none, none, none] [] (hp t g) cn sn = some (.inr 0, hp t g, cn + 1, sn + 6) := by
  have x1 : ¬ x < 0 := by rw [ii_lt, ti_0]; omega
  have x2 : ¬ 2 < x := by rw [ii_lt, ti_2]; omega
  by_cases h1 : u < 0
  · simp only [st_X9_evening_0, st_X9_evening_1, st_X9_evening_4, st_X9_evening_5, st_X9_evening_6, st_X9_evening_20, st_X9_evening_21, st_X9_evening_30, x1, x2, h1, if_true, if_false, Nat.reduceAdd]
  · have h2 : 90 < u := by rw [ii_lt, ti_0] at h1; rw [ii_lt, ti_90]; omega
    simp only [st_X9_evening_0, st_X9_evening_1, st_X9_evening_4, st_X9_evening_5, st_X9_evening_6, st_X9_evening_20, st_X9_evening_21, st_X9_evening_24, st_X9_evening_25, st_X9_evening_27, st_X9_evening_30, x1, x2, h1, h2, if_true, if_false, Nat.reduceAdd]
end EVE2
