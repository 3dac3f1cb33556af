/-! ===== the tape ===== -/
def b8 (x s : Int32) : Int32 := (x >>> (s &&& 31)).toInt8.toInt32
def app4 (f : Rw) (n : Nat) (x : Int32) : Rw := upd (upd (upd (upd f n (b8 x 24)) (n + 1) (b8 x 16)) (n + 2) (b8 x 8)) (n + 3) (b8 x 0)
def wordF (a b c d e : Int32) (k : Nat) : Int32 := if k < 4 then a else if k < 8 then b else if k < 12 then c else if k < 16 then d else e
def rB (a b c d e : Int32) (k : Nat) : Int32 := (wordF a b c d e k >>> (Int32.ofNat (24 - 8 * (k % 4)) &&& 31)) &&& 255
/-- a byte as the class and as the reference have it -/
def byteRel (b r : Int32) : Prop := (0 ≤ r.toInt ∧ r.toInt ≤ 255) ∧ (r.toInt < 128 → b = r) ∧ (128 ≤ r.toInt → b.toInt < 0)
theorem and255 (x : Int32) : (x &&& 255).toInt = x.toInt % 256 := by
  have h0 : (x &&& 255).toBitVec.toNat = x.toBitVec.toNat % 256 := by
    rw [Int32.toBitVec_and, BitVec.toNat_and]
    exact Nat.and_two_pow_sub_one_eq_mod x.toBitVec.toNat 8
  have h2 : (x &&& 255).toInt = (x &&& 255).toBitVec.toInt := rfl
  have h3 : x.toInt = x.toBitVec.toInt := rfl
  rw [h2, BitVec.toInt_eq_toNat_of_lt (by omega), h0, h3, BitVec.toInt_eq_toNat_cond]
  split <;> omega
theorem byte_rel (x : Int32) : byteRel x.toInt8.toInt32 (x &&& 255) := by
  have h1 := and255 x
  have h2 : (x.toInt8.toInt32).toInt = x.toInt.bmod 256 := by
    rw [Int8.toInt_toInt32, Int32.toInt_toInt8]
  have h3 : x.toInt.bmod 256 = if x.toInt % 256 < 128 then x.toInt % 256 else x.toInt % 256 - 256 := by
    rw [Int.bmod_def]
    simp only [show ((256 : Nat) : Int) = 256 from rfl]
    split <;> split <;> omega
  rw [h3] at h2
  refine ⟨by omega, fun h => ?_, fun h => ?_⟩
  · rw [ii_eq, h2, if_pos (by omega), h1]
  · rw [h2, if_neg (by omega)]; omega
section FEED
variable {d : Nat} {t : List px_E} {g : hG} {n cn sn : Nat} {w a k f : Rw} {x x1 x2 x3 x4 x5 : Int32}
theorem i8_twice {x : Int32} : x.toInt8.toInt32.toInt8.toInt32 = x.toInt8.toInt32 := by
  rw [Int8.toInt8_toInt32]
set_option maxHeartbeats 4000000 in
theorem c_app_1 {s : Int32} (hn : n < 600) (hs : ¬ s < 0) : bc d M_X6_append none 3 [some (.ref 1), some (.int x), some (.int s)] [] (hp t (hI (hR g 2 f) 1 2 (Int32.ofNat n))) cn sn = bc d M_X6_append none 3 [some (.ref 1), some (.int x), some (.int (s + -8))] [] (hp t (hI (hR g 2 (upd f n (b8 x s))) 1 2 (Int32.ofNat (n + 1)))) cn sn := by
  have e : ∀ (y : Int32), hI (hI (hR g 2 f) 1 2 (Int32.ofNat n)) 2 n y = hI (hR g 2 (upd f n y)) 1 2 (Int32.ofNat n) := by
    intro y
    apply hG_ext
    · intro c' j
      simp only [hR_at, hI_at, hJ_at, hR_2, hI_2, hJ_1, hJ_22, upd_at]
      (repeat' split) <;> first | rfl | (exfalso; omega)
    · intro c' j; rfl
    · rfl
  rw [st_X6_append_3]
  unfold b8
  simp (disch := omega) only [st_X6_append_0, lc_i, lc_r, lc_n, lc_j, lc_f, st_X6_append_2, st_X6_append_4, st_X6_append_7, bM_some, hg_1_2, st_X6_append_8, st_X6_append_11, st_X6_append_14, st_X6_append_17, hg_1_0, st_X6_append_18, st_X6_append_21, st_X6_append_22, st_X6_append_25, st_X6_append_26, st_X6_append_27, st_X6_append_28, cond_false, hw_2, st_X6_append_29, st_X6_append_30, st_X6_append_31, st_X6_append_31r, st_X6_append_32, st_X6_append_35, st_X6_append_36, hs_1_2, st_X6_append_37, st_X6_append_40, st_X6_append_43, st_X6_append_46, Nat.reduceAdd, hI_sm, e, hI_hI, in_m8, hs, if_true, if_false, nn_l600, hn, nn_out, nn_clamp, nn_r1, i8_twice]
theorem c_append (hn : n + 4 ≤ 600) : bc d M_X6_append none 0 [some (.ref 1), some (.int x), none] [] (hp t (hI (hR g 2 f) 1 2 (Int32.ofNat n))) cn sn = some (.inl none, hp t (hI (hR g 2 (app4 f n x)) 1 2 (Int32.ofNat (n + 4))), cn, sn) := by
  simp only [st_X6_append_0, st_X6_append_2, lc_i, Nat.reduceAdd]
  rw [c_app_1 (by omega) (by decide), show (24 : Int32) + -8 = 16 by decide, c_app_1 (by omega) (by decide), show (16 : Int32) + -8 = 8 by decide, c_app_1 (by omega) (by decide), show (8 : Int32) + -8 = 0 by decide, c_app_1 (by omega) (by decide), show (0 : Int32) + -8 = -8 by decide, st_X6_append_3]
  simp only [st_X6_append_4, st_X6_append_46, show ((-8 : Int32) < 0) = True by decide, if_true, Nat.reduceAdd]
  rfl
theorem c_feed_y (h : g.1 1 2 = Int32.ofNat n) (hn : n + 20 ≤ 600) : bc (d + 1) M_X9_feed none 0 [some (.ref 0), some (.int x1), some (.int x2), some (.int x3), some (.int x4), some (.int x5)] [] (hp t g) cn sn = some (.inl (some (.int (Int32.ofNat (n + 20)))), hp t (hI (hR g 2 (app4 (app4 (app4 (app4 (app4 (g.1 2) n x1) (n + 4) x2) (n + 8) x3) (n + 12) x4) (n + 16) x5)) 1 2 (Int32.ofNat (n + 20))), cn, sn) := by
  have h0 : hI (hR g 2 (g.1 2)) 1 2 (Int32.ofNat n) = g := by rw [hR_self, ← h]; exact hI_self'
  have e1 := c_append (d := d) (t := t) (g := g) (f := g.1 2) (n := n) (x := x1) (cn := 0) (sn := 0) (by omega)
  rw [h0] at e1
  have e2 := c_append (d := d) (t := t) (g := g) (f := app4 (g.1 2) n x1) (n := n + 4) (x := x2) (cn := 0) (sn := 0) (by omega)
  have e3 := c_append (d := d) (t := t) (g := g) (f := app4 (app4 (g.1 2) n x1) (n + 4) x2) (n := n + 8) (x := x3) (cn := 0) (sn := 0) (by omega)
  have e4 := c_append (d := d) (t := t) (g := g) (f := app4 (app4 (app4 (g.1 2) n x1) (n + 4) x2) (n + 8) x3) (n := n + 12) (x := x4) (cn := 0) (sn := 0) (by omega)
  have e5 := c_append (d := d) (t := t) (g := g) (f := app4 (app4 (app4 (app4 (g.1 2) n x1) (n + 4) x2) (n + 8) x3) (n + 12) x4) (n := n + 16) (x := x5) (cn := 0) (sn := 0) (by omega)
  have nl : ¬ 600 < Int32.ofNat n + 20 := by rw [show Int32.ofNat n + 20 = Int32.ofNat (n + 20) from nn_add (b := 20), nn_g600 (by omega)]; omega
  simp (disch := omega) only [st_X9_feed_0, bM_some, hg_0_0, st_X9_feed_1, hg_1_2, st_X9_feed_4, st_X9_feed_7, st_X9_feed_9, st_X9_feed_10, st_X9_feed_13, st_X9_feed_16, st_X9_feed_17, st_X9_feed_18, st_X9_feed_19, st_X9_feed_22, st_X9_feed_23 (p := 1) hq_1 ps_, bC_inl, Option.toList, List.cons_append, List.nil_append, Nat.add_zero, st_X9_feed_26, st_X9_feed_27, st_X9_feed_30, st_X9_feed_31 (p := 1) hq_1 ps_, st_X9_feed_34, st_X9_feed_35, st_X9_feed_38, st_X9_feed_39 (p := 1) hq_1 ps_, st_X9_feed_42, st_X9_feed_43, st_X9_feed_46, st_X9_feed_48 (p := 1) hq_1 ps_, st_X9_feed_51, st_X9_feed_52, st_X9_feed_55, st_X9_feed_57 (p := 1) hq_1 ps_, st_X9_feed_60, st_X9_feed_61, st_X9_feed_64, st_X9_feed_67, Nat.reduceAdd, h, nl, if_false, e1, e2, e3, e4, e5, hI_sm]
theorem c_feed_n (h : g.1 1 2 = Int32.ofNat n) (hn : ¬ n + 20 ≤ 600) (hb : n ≤ 600) : bc (d + 1) M_X9_feed none 0 [some (.ref 0), some (.int x1), some (.int x2), some (.int x3), some (.int x4), some (.int x5)] [] (hp t g) cn sn = some (.inl (some (.int (-1))), hp t g, cn, sn) := by
  have nl : 600 < Int32.ofNat n + 20 := by rw [show Int32.ofNat n + 20 = Int32.ofNat (n + 20) from nn_add (b := 20), nn_g600 (by omega)]; omega
  simp (disch := omega) only [st_X9_feed_0, bM_some, hg_0_0, st_X9_feed_1, hg_1_2, st_X9_feed_4, st_X9_feed_7, st_X9_feed_9, st_X9_feed_10, st_X9_feed_13, st_X9_feed_16, st_X9_feed_17, st_X9_feed_18, st_X9_feed_19, st_X9_feed_22, st_X9_feed_23 (p := 1) hq_1 ps_, bC_inl, Option.toList, List.cons_append, List.nil_append, Nat.add_zero, st_X9_feed_26, st_X9_feed_27, st_X9_feed_30, st_X9_feed_31 (p := 1) hq_1 ps_, st_X9_feed_34, st_X9_feed_35, st_X9_feed_38, st_X9_feed_39 (p := 1) hq_1 ps_, st_X9_feed_42, st_X9_feed_43, st_X9_feed_46, st_X9_feed_48 (p := 1) hq_1 ps_, st_X9_feed_51, st_X9_feed_52, st_X9_feed_55, st_X9_feed_57 (p := 1) hq_1 ps_, st_X9_feed_60, st_X9_feed_61, st_X9_feed_64, st_X9_feed_67, Nat.reduceAdd, h, nl, if_true]
theorem nn_24s {k : Nat} (hk : k < 4) : (24 : Int32) - Int32.ofNat (8 * k) = Int32.ofNat (24 - 8 * k) := nn_sub (a := 24) (by omega)
theorem nn_rem4 {c : Nat} (hc : c < 1000) : Int32.ofNat c - Int32.ofNat c / 4 * 4 = Int32.ofNat (c % 4) := nn_rem (b := 4) (by omega) (by decide) (by decide)
theorem nn_l'12 {a : Nat} (ha : a < 2147483648) : (Int32.ofNat a < 12) = (a < 12) := nn_lt (b := 12) ha (by decide)
theorem nn_l'16 {a : Nat} (ha : a < 2147483648) : (Int32.ofNat a < 16) = (a < 16) := nn_lt (b := 16) ha (by decide)
set_option maxHeartbeats 4000000 in
theorem m_feed_l (hn : n + 20 ≤ 600) : ∀ m j : Nat, j + m = 20 → ∀ (f : Rw) (a7 : Option Value), g.1 49 15 = g.1 49 15 →
    bc d M_X10_feed none 23 [some (.ref 49), some (.int x1), some (.int x2), some (.int x3), some (.int x4), some (.int x5), some (.int (Int32.ofNat j)), a7] [] (hp t (gM (hI (hR g 63 f) 49 15 (Int32.ofNat (n + j))) w a k)) cn sn = some (.inl (some (.int (Int32.ofNat (n + 20)))), hp t (gM (hI (hR g 63 (loopR (fun i f => upd f (n + i) (rB x1 x2 x3 x4 x5 i)) m j f)) 49 15 (Int32.ofNat (n + 20))) w a k), cn, sn) := by
  intro m
  induction m with
  | zero =>
    intro j hj f a7 _
    obtain rfl : j = 20 := by omega
    rw [st_X10_feed_23]
    simp (disch := omega) only [st_X10_feed_25, st_X10_feed_27, st_X10_feed_120, st_X10_feed_121, st_X10_feed_124, bM_some, hg_49_15, gM_49, hI_sm, nn_l20, Nat.lt_irrefl, if_false, Nat.reduceAdd, loopR]
  | succ m ih =>
    intro j hj f a7 _
    have e : ∀ (y : Int32), hI (hI (hR g 63 f) 49 15 (Int32.ofNat (n + j))) 63 (n + j) y = hI (hR g 63 (upd f (n + j) y)) 49 15 (Int32.ofNat (n + j)) := by
      intro y
      apply hG_ext
      · intro c' j
        simp only [hR_at, hI_at, hJ_at, hR_2, hI_2, hJ_1, hJ_22, upd_at]
        (repeat' split) <;> first | rfl | (exfalso; omega)
      · intro c' j; rfl
      · rfl
    have ih' := fun a7 => ih (j + 1) (by omega) (upd f (n + j) (rB x1 x2 x3 x4 x5 j)) a7 rfl
    unfold loopR
    rw [st_X10_feed_23]
    unfold rB wordF at ih' ⊢
    by_cases q1 : j < 4
    · simp only [q1, if_true] at ih' ⊢
      simp (disch := omega) only [st_X10_feed_0, st_X10_feed_1, bM_some, hs_49_2, st_X10_feed_2, st_X10_feed_5, hg_49_15, st_X10_feed_6, st_X10_feed_9, st_X10_feed_11, st_X10_feed_12, st_X10_feed_15, st_X10_feed_18, st_X10_feed_19, st_X10_feed_20, lc_i, lc_r, lc_n, lc_j, lc_f, st_X10_feed_21, st_X10_feed_25, st_X10_feed_27, st_X10_feed_30, st_X10_feed_32, st_X10_feed_33, st_X10_feed_36, st_X10_feed_37, st_X10_feed_76, st_X10_feed_78, hg_49_14, st_X10_feed_79, st_X10_feed_82, st_X10_feed_83, st_X10_feed_86, st_X10_feed_88, st_X10_feed_90, st_X10_feed_92, st_X10_feed_94, st_X10_feed_95v, st_X10_feed_96, st_X10_feed_97, st_X10_feed_98, st_X10_feed_99, st_X10_feed_102, cond_false, hw_63, st_X10_feed_103, st_X10_feed_104, st_X10_feed_105, st_X10_feed_105r, st_X10_feed_106, st_X10_feed_109, st_X10_feed_110, hs_49_15, st_X10_feed_111, st_X10_feed_114, st_X10_feed_117, st_X10_feed_40, st_X10_feed_42, st_X10_feed_44, st_X10_feed_47, st_X10_feed_48, st_X10_feed_51, st_X10_feed_53, st_X10_feed_55, st_X10_feed_58, st_X10_feed_59, st_X10_feed_62, st_X10_feed_64, st_X10_feed_66, st_X10_feed_69, st_X10_feed_71, st_X10_feed_74, st_X10_feed_120, st_X10_feed_121, st_X10_feed_124, Nat.reduceAdd, gM_hI, gM_hI49, gM_49, hI_sm, e, hI_hI, nn_l20, nn_l4, q1, show j < 20 by omega, if_true, dv_4, if_false, nn_rem4, nn_m8, nn_24s, nn_out, nn_clamp, nn_r1]
      exact ih' _
    · by_cases q2 : j < 8
      · simp only [q1, q2, if_true, if_false] at ih' ⊢
        simp (disch := omega) only [st_X10_feed_0, st_X10_feed_1, bM_some, hs_49_2, st_X10_feed_2, st_X10_feed_5, hg_49_15, st_X10_feed_6, st_X10_feed_9, st_X10_feed_11, st_X10_feed_12, st_X10_feed_15, st_X10_feed_18, st_X10_feed_19, st_X10_feed_20, lc_i, lc_r, lc_n, lc_j, lc_f, st_X10_feed_21, st_X10_feed_25, st_X10_feed_27, st_X10_feed_30, st_X10_feed_32, st_X10_feed_33, st_X10_feed_36, st_X10_feed_37, st_X10_feed_76, st_X10_feed_78, hg_49_14, st_X10_feed_79, st_X10_feed_82, st_X10_feed_83, st_X10_feed_86, st_X10_feed_88, st_X10_feed_90, st_X10_feed_92, st_X10_feed_94, st_X10_feed_95v, st_X10_feed_96, st_X10_feed_97, st_X10_feed_98, st_X10_feed_99, st_X10_feed_102, cond_false, hw_63, st_X10_feed_103, st_X10_feed_104, st_X10_feed_105, st_X10_feed_105r, st_X10_feed_106, st_X10_feed_109, st_X10_feed_110, hs_49_15, st_X10_feed_111, st_X10_feed_114, st_X10_feed_117, st_X10_feed_40, st_X10_feed_42, st_X10_feed_44, st_X10_feed_47, st_X10_feed_48, st_X10_feed_51, st_X10_feed_53, st_X10_feed_55, st_X10_feed_58, st_X10_feed_59, st_X10_feed_62, st_X10_feed_64, st_X10_feed_66, st_X10_feed_69, st_X10_feed_71, st_X10_feed_74, st_X10_feed_120, st_X10_feed_121, st_X10_feed_124, Nat.reduceAdd, gM_hI, gM_hI49, gM_49, hI_sm, e, hI_hI, nn_l20, nn_l4, nn_l8, q1, q2, show j < 20 by omega, if_true, dv_4, if_false, nn_rem4, nn_m8, nn_24s, nn_out, nn_clamp, nn_r1]
        exact ih' _
      · by_cases q3 : j < 12
        · simp only [q1, q2, q3, if_true, if_false] at ih' ⊢
          simp (disch := omega) only [st_X10_feed_0, st_X10_feed_1, bM_some, hs_49_2, st_X10_feed_2, st_X10_feed_5, hg_49_15, st_X10_feed_6, st_X10_feed_9, st_X10_feed_11, st_X10_feed_12, st_X10_feed_15, st_X10_feed_18, st_X10_feed_19, st_X10_feed_20, lc_i, lc_r, lc_n, lc_j, lc_f, st_X10_feed_21, st_X10_feed_25, st_X10_feed_27, st_X10_feed_30, st_X10_feed_32, st_X10_feed_33, st_X10_feed_36, st_X10_feed_37, st_X10_feed_76, st_X10_feed_78, hg_49_14, st_X10_feed_79, st_X10_feed_82, st_X10_feed_83, st_X10_feed_86, st_X10_feed_88, st_X10_feed_90, st_X10_feed_92, st_X10_feed_94, st_X10_feed_95v, st_X10_feed_96, st_X10_feed_97, st_X10_feed_98, st_X10_feed_99, st_X10_feed_102, cond_false, hw_63, st_X10_feed_103, st_X10_feed_104, st_X10_feed_105, st_X10_feed_105r, st_X10_feed_106, st_X10_feed_109, st_X10_feed_110, hs_49_15, st_X10_feed_111, st_X10_feed_114, st_X10_feed_117, st_X10_feed_40, st_X10_feed_42, st_X10_feed_44, st_X10_feed_47, st_X10_feed_48, st_X10_feed_51, st_X10_feed_53, st_X10_feed_55, st_X10_feed_58, st_X10_feed_59, st_X10_feed_62, st_X10_feed_64, st_X10_feed_66, st_X10_feed_69, st_X10_feed_71, st_X10_feed_74, st_X10_feed_120, st_X10_feed_121, st_X10_feed_124, Nat.reduceAdd, gM_hI, gM_hI49, gM_49, hI_sm, e, hI_hI, nn_l20, nn_l4, nn_l8, nn_l'12, q1, q2, q3, show j < 20 by omega, if_true, dv_4, if_false, nn_rem4, nn_m8, nn_24s, nn_out, nn_clamp, nn_r1]
          exact ih' _
        · by_cases q4 : j < 16
          · simp only [q1, q2, q3, q4, if_true, if_false] at ih' ⊢
            simp (disch := omega) only [st_X10_feed_0, st_X10_feed_1, bM_some, hs_49_2, st_X10_feed_2, st_X10_feed_5, hg_49_15, st_X10_feed_6, st_X10_feed_9, st_X10_feed_11, st_X10_feed_12, st_X10_feed_15, st_X10_feed_18, st_X10_feed_19, st_X10_feed_20, lc_i, lc_r, lc_n, lc_j, lc_f, st_X10_feed_21, st_X10_feed_25, st_X10_feed_27, st_X10_feed_30, st_X10_feed_32, st_X10_feed_33, st_X10_feed_36, st_X10_feed_37, st_X10_feed_76, st_X10_feed_78, hg_49_14, st_X10_feed_79, st_X10_feed_82, st_X10_feed_83, st_X10_feed_86, st_X10_feed_88, st_X10_feed_90, st_X10_feed_92, st_X10_feed_94, st_X10_feed_95v, st_X10_feed_96, st_X10_feed_97, st_X10_feed_98, st_X10_feed_99, st_X10_feed_102, cond_false, hw_63, st_X10_feed_103, st_X10_feed_104, st_X10_feed_105, st_X10_feed_105r, st_X10_feed_106, st_X10_feed_109, st_X10_feed_110, hs_49_15, st_X10_feed_111, st_X10_feed_114, st_X10_feed_117, st_X10_feed_40, st_X10_feed_42, st_X10_feed_44, st_X10_feed_47, st_X10_feed_48, st_X10_feed_51, st_X10_feed_53, st_X10_feed_55, st_X10_feed_58, st_X10_feed_59, st_X10_feed_62, st_X10_feed_64, st_X10_feed_66, st_X10_feed_69, st_X10_feed_71, st_X10_feed_74, st_X10_feed_120, st_X10_feed_121, st_X10_feed_124, Nat.reduceAdd, gM_hI, gM_hI49, gM_49, hI_sm, e, hI_hI, nn_l20, nn_l4, nn_l8, nn_l'12, nn_l'16, q1, q2, q3, q4, show j < 20 by omega, if_true, dv_4, if_false, nn_rem4, nn_m8, nn_24s, nn_out, nn_clamp, nn_r1]
            exact ih' _
          · simp only [q1, q2, q3, q4, if_false] at ih' ⊢
            simp (disch := omega) only [st_X10_feed_0, st_X10_feed_1, bM_some, hs_49_2, st_X10_feed_2, st_X10_feed_5, hg_49_15, st_X10_feed_6, st_X10_feed_9, st_X10_feed_11, st_X10_feed_12, st_X10_feed_15, st_X10_feed_18, st_X10_feed_19, st_X10_feed_20, lc_i, lc_r, lc_n, lc_j, lc_f, st_X10_feed_21, st_X10_feed_25, st_X10_feed_27, st_X10_feed_30, st_X10_feed_32, st_X10_feed_33, st_X10_feed_36, st_X10_feed_37, st_X10_feed_76, st_X10_feed_78, hg_49_14, st_X10_feed_79, st_X10_feed_82, st_X10_feed_83, st_X10_feed_86, st_X10_feed_88, st_X10_feed_90, st_X10_feed_92, st_X10_feed_94, st_X10_feed_95v, st_X10_feed_96, st_X10_feed_97, st_X10_feed_98, st_X10_feed_99, st_X10_feed_102, cond_false, hw_63, st_X10_feed_103, st_X10_feed_104, st_X10_feed_105, st_X10_feed_105r, st_X10_feed_106, st_X10_feed_109, st_X10_feed_110, hs_49_15, st_X10_feed_111, st_X10_feed_114, st_X10_feed_117, st_X10_feed_40, st_X10_feed_42, st_X10_feed_44, st_X10_feed_47, st_X10_feed_48, st_X10_feed_51, st_X10_feed_53, st_X10_feed_55, st_X10_feed_58, st_X10_feed_59, st_X10_feed_62, st_X10_feed_64, st_X10_feed_66, st_X10_feed_69, st_X10_feed_71, st_X10_feed_74, st_X10_feed_120, st_X10_feed_121, st_X10_feed_124, Nat.reduceAdd, gM_hI, gM_hI49, gM_49, hI_sm, e, hI_hI, nn_l20, nn_l4, nn_l8, nn_l'12, nn_l'16, q1, q2, q3, q4, show j < 20 by omega, if_true, dv_4, if_false, nn_rem4, nn_m8, nn_24s, nn_out, nn_clamp, nn_r1]
            exact ih' _
end FEED
