/-! ===== evenings: what both draw ===== -/
theorem and_b (x : Int32) : 0 ≤ (x &&& 32767).toInt ∧ (x &&& 32767).toInt ≤ 32767 := by
  have h1 : (x &&& 32767).toBitVec.toNat ≤ 32767 := by
    rw [Int32.toBitVec_and, BitVec.toNat_and]
    exact Nat.and_le_right
  have h2 : (x &&& 32767).toInt = (x &&& 32767).toBitVec.toInt := rfl
  rw [h2, BitVec.toInt_eq_toNat_of_lt (by omega)]
  omega
theorem bits32 {a b : Int32} (h : ∀ i, i < 32 → a.toBitVec.getLsbD i = b.toBitVec.getLsbD i) : a = b := by
  apply Int32.toBitVec_inj.mp
  exact BitVec.eq_of_getLsbD_eq h
theorem ushr_eq (x : Int32) : ((x.toUInt32 >>> ((16 : Int32).toUInt32 &&& Int32.toUInt32 31)).toInt32 &&& 32767) = ((x >>> ((16 : Int32) &&& 31)) &&& 32767) := by
  rw [show ((16 : Int32).toUInt32 &&& Int32.toUInt32 31) = 16 by decide, show ((16 : Int32) &&& 31) = 16 by decide]
  apply bits32
  intro i hi
  rw [Int32.toBitVec_and, Int32.toBitVec_and, BitVec.getLsbD_and, BitVec.getLsbD_and]
  have h7 : ∀ i : Nat, i < 32 → (32767 : Int32).toBitVec.getLsbD i = decide (i < 15) := by decide
  rw [h7 i hi]
  by_cases h : i < 15
  · rw [decide_eq_true h, Bool.and_true, Bool.and_true]
    have e1 : (x.toUInt32 >>> (16 : UInt32)).toInt32.toBitVec = x.toBitVec >>> (16 : Nat) := by
      show (x.toUInt32 >>> (16 : UInt32)).toBitVec = _
      rw [UInt32.toBitVec_shiftRight]
      show x.toBitVec >>> ((16 : UInt32).toBitVec % 32#32) = _
      rw [BitVec.ushiftRight_eq']
      rfl
    have e2 : (x >>> (16 : Int32)).toBitVec = x.toBitVec.sshiftRight 16 := by
      rw [Int32.toBitVec_shiftRight]
      rfl
    rw [e1, e2, BitVec.getLsbD_ushiftRight, BitVec.getLsbD_sshiftRight]
    simp [show 16 + i < 32 by omega, show ¬ 32 ≤ i by omega]
  · rw [decide_eq_false h, Bool.and_false, Bool.and_false]
def seedS (s : Int32) : Int32 := s * 1103515245 + 12345
def drawV (s : Int32) : Nat := ((s >>> ((16 : Int32) &&& 31)) &&& 32767).toNatClampNeg
theorem drawV_e (s : Int32) : ((s >>> ((16 : Int32) &&& 31)) &&& 32767) = Int32.ofNat (drawV s) := (ii_nat (and_b _).1).symm
theorem drawV_b (s : Int32) : drawV s ≤ 32767 := by
  have h := and_b (s >>> ((16 : Int32) &&& 31))
  have h2 := ii_clamp (a := (s >>> ((16 : Int32) &&& 31)) &&& 32767)
  unfold drawV; omega
/-- the first stove, from j on, of m, on which there is none -/
def freeR (w : Rw) (N : Nat) : Nat → Nat → Int32
  | 0, _ => -1
  | m + 1, j => if findR w (Int32.ofNat j) N 0 = -1 then Int32.ofNat j else freeR w N m (j + 1)
def meddR (N S : Nat) (w : Rw) (q b : Nat) : Rw := if b = 0 then upd w q (-1) else if b = 1 then (if w q = -1 then upd w q (freeR w N S 0) else w) else w
def hiF (w : Rw) : Nat → Nat → Int32 → Int32
  | 0, _, h => h
  | m + 1, j, h => hiF w m (j + 1) (px_max h (w (40 + j)))
theorem max_assoc {a b c : Int32} : px_max a (px_max b c) = px_max (px_max a b) c := by
  rw [ii_eq]; simp only [px_max_i]; omega
theorem hiF_max {w : Rw} : ∀ (m j : Nat) (a b : Int32), px_max a (hiF w m j b) = hiF w m j (px_max a b) := by
  intro m
  induction m with
  | zero => intro j a b; rfl
  | succ m ih => intro j a b; unfold hiF; rw [ih, max_assoc]
theorem max_0 {a : Int32} (h : 0 ≤ a.toInt) : px_max a 0 = a := by rw [ii_eq, px_max_i, ti_0]; omega
theorem hiF_ge {w : Rw} : ∀ (m j : Nat) (h : Int32), 0 ≤ h.toInt → 0 ≤ (hiF w m j h).toInt := by
  intro m
  induction m with
  | zero => intro j h hh; exact hh
  | succ m ih => intro j h hh; unfold hiF; apply ih; rw [px_max_i]; omega
/-- one step of an evening: seed, row -/
def eveS (K : Kt) (N S D L : Nat) (q : Int32 × Rw) : Int32 × Rw :=
  if N = 0 then (q.1, minR K N D L q.2) else (seedS (seedS q.1), minR K N D L (meddR N S q.2 (drawV (seedS q.1) % N) (drawV (seedS (seedS q.1)) % 4)))
/-- an evening: seed, row, minutes with a song, the highest note -/
def eveR (K : Kt) (N S D L : Nat) : Nat → Int32 × Rw → Nat → Int32 → Rw × Nat × Int32
  | 0, q, c, h => (q.2, c, h)
  | m + 1, q, c, h => eveR K N S D L m (eveS K N S D L q) (c + (bif sang N (eveS K N S D L q).2 then 1 else 0)) (hiF (eveS K N S D L q).2 N 0 h)
def eveA (D : Nat) (q : Rw × Nat × Int32) (x : Int32) : Int32 := if x = 0 then Int32.ofNat (cntN (bR q.1) D) else if x = 1 then Int32.ofNat q.2.1 else q.2.2
section EVE
variable {d : Nat} {t : List px_E} {g : hG} {h : px_H} {j q N S D L T cn sn c : Nat} {w a k v : Rw} {x y p s : Int32} {K : Kt} {n : Int64}
theorem c_nextSeed : bc d M_X9_nextSeed none 0 [some (.ref 0), some (.int x)] [] h cn sn = some (.inl (some (.int (seedS x))), h, cn, sn) := by
  simp only [st_X9_nextSeed_0, st_X9_nextSeed_1, st_X9_nextSeed_4, st_X9_nextSeed_5, st_X9_nextSeed_8, st_X9_nextSeed_9, Nat.reduceAdd]
  rfl
theorem c_draw (h0 : 0 < q) (hq : q ≤ 8) : bc d M_X9_draw none 0 [some (.ref 0), some (.int x), some (.int (Int32.ofNat q))] [] h cn sn = some (.inl (some (.int (Int32.ofNat (drawV x % q)))), h, cn, sn) := by
  have hb := drawV_b x
  have hz : ¬ Int32.ofNat q = 0 := by rw [nn_e0 (by omega)]; omega
  simp (disch := omega) only [st_X9_draw_0, st_X9_draw_1, st_X9_draw_4, st_X9_draw_5, st_X9_draw_7, st_X9_draw_8, st_X9_draw_11, st_X9_draw_12, st_X9_draw_13v, st_X9_draw_14, st_X9_draw_18, st_X9_draw_17, Nat.reduceAdd, nn_g0, h0, if_true, ushr_eq, drawV_e, hz, if_false, nn_rem]
theorem m_drawOf (h0 : 0 < q) (hq : q ≤ 8) : bc d M_X10_drawOf none 0 [some (.ref 49), some (.int (Int32.ofNat q))] [] (hp t (gM g w a k)) cn sn = some (.inl (some (.int (Int32.ofNat (drawV (seedS (g.1 49 49)) % q)))), hp t (gM (hI g 49 49 (seedS (g.1 49 49))) w a k), cn, sn) := by
  have hb := drawV_b (seedS (g.1 49 49))
  have hz : ¬ Int32.ofNat q = 0 := by rw [nn_e0 (by omega)]; omega
  have e : g.1 49 49 * 1103515245 + 12345 = seedS (g.1 49 49) := rfl
  have e2 : (hI g 49 49 (seedS (g.1 49 49))).1 49 49 = seedS (g.1 49 49) := rfl
  simp (disch := omega) only [st_X10_drawOf_0, st_X10_drawOf_1, bM_some, hg_49_49, st_X10_drawOf_2, st_X10_drawOf_5, st_X10_drawOf_8, st_X10_drawOf_9, st_X10_drawOf_12, hs_49_49, st_X10_drawOf_13, st_X10_drawOf_16, st_X10_drawOf_17, st_X10_drawOf_20, st_X10_drawOf_22, st_X10_drawOf_23, st_X10_drawOf_26, st_X10_drawOf_27, st_X10_drawOf_28v, st_X10_drawOf_29, Nat.reduceAdd, gM_hI49, gM_49, e, e2, drawV_e, hz, if_false, nn_rem]
set_option maxHeartbeats 2000000 in
theorem c_free_l (hK : KN (kC g) N S D L) : ∀ m j : Nat, j + m = S →
    bc (d + 1) M_X9_freeStove none 2 [some (.ref 0), some (.int (Int32.ofNat j))] [] (hp t (gP g 30 w s n v k)) cn sn = some (.inl (some (.int (freeR w N m j))), hp t (gP g 30 w s n v k), cn, sn) := by
  have hS : (gP g 30 w s n v k).1 16 11 = Int32.ofNat S := hK.2.2.1
  have h4 := hK.2.2.2.1
  have hk : ∀ (x : Int32), bc d M_X4_kettleOn none 0 [some (.ref 16), some (.ref 30), some (.int x), none] [] (hp t (gP g 30 w s n v k)) 0 0 = some (.inl (some (.int (findR w x N 0))), hp t (gP g 30 w s n v k), 0, 0) := fun x => c_kettleOn h30 hK.1 hK.2.1
  intro m
  induction m with
  | zero =>
    intro j hj
    rw [st_X9_freeStove_2]
    simp (disch := omega) only [st_X9_freeStove_0, lc_i, lc_r, lc_n, lc_j, lc_f, st_X9_freeStove_1, st_X9_freeStove_3, bM_some, hg_0_1, st_X9_freeStove_4, hg_16_11, st_X9_freeStove_7, st_X9_freeStove_10, st_X9_freeStove_13, st_X9_freeStove_14, st_X9_freeStove_17, hg_0_3, st_X9_freeStove_18, st_X9_freeStove_21, st_X9_freeStove_22 (p := 16) hq_16 ps_, bC_inl, Option.toList, List.cons_append, List.nil_append, Nat.add_zero, st_X9_freeStove_25, st_X9_freeStove_26, st_X9_freeStove_29, st_X9_freeStove_30, st_X9_freeStove_31, st_X9_freeStove_34, st_X9_freeStove_37, st_X9_freeStove_38, Nat.reduceAdd, hS, nn_lt, show ¬ j < S by omega, if_false, freeR]
  | succ m ih =>
    intro j hj
    rw [st_X9_freeStove_2]
    unfold freeR
    by_cases h1 : findR w (Int32.ofNat j) N 0 = -1
    · simp (disch := omega) only [st_X9_freeStove_0, lc_i, lc_r, lc_n, lc_j, lc_f, st_X9_freeStove_1, st_X9_freeStove_3, bM_some, hg_0_1, st_X9_freeStove_4, hg_16_11, st_X9_freeStove_7, st_X9_freeStove_10, st_X9_freeStove_13, st_X9_freeStove_14, st_X9_freeStove_17, hg_0_3, st_X9_freeStove_18, st_X9_freeStove_21, st_X9_freeStove_22 (p := 16) hq_16 ps_, bC_inl, Option.toList, List.cons_append, List.nil_append, Nat.add_zero, st_X9_freeStove_25, st_X9_freeStove_26, st_X9_freeStove_29, st_X9_freeStove_30, st_X9_freeStove_31, st_X9_freeStove_34, st_X9_freeStove_37, st_X9_freeStove_38, Nat.reduceAdd, hS, nn_lt, show j < S by omega, if_true, hk, h1]
    · simp (disch := omega) only [st_X9_freeStove_0, lc_i, lc_r, lc_n, lc_j, lc_f, st_X9_freeStove_1, st_X9_freeStove_3, bM_some, hg_0_1, st_X9_freeStove_4, hg_16_11, st_X9_freeStove_7, st_X9_freeStove_10, st_X9_freeStove_13, st_X9_freeStove_14, st_X9_freeStove_17, hg_0_3, st_X9_freeStove_18, st_X9_freeStove_21, st_X9_freeStove_22 (p := 16) hq_16 ps_, bC_inl, Option.toList, List.cons_append, List.nil_append, Nat.add_zero, st_X9_freeStove_25, st_X9_freeStove_26, st_X9_freeStove_29, st_X9_freeStove_30, st_X9_freeStove_31, st_X9_freeStove_34, st_X9_freeStove_37, st_X9_freeStove_38, Nat.reduceAdd, hS, nn_lt, show j < S by omega, if_true, if_false, hk, h1, nn_r1]
      exact ih (j + 1) (by omega)
set_option maxHeartbeats 2000000 in
theorem c_meddle (hK : KN (kC g) N S D L) (hj : j < 8) (hq : q < 4) : bc (d + 2) M_X9_meddle none 0 [some (.ref 0), some (.int (Int32.ofNat j)), some (.int (Int32.ofNat q))] [] (hp t (gP g 30 w s n v k)) cn sn = some (.inl none, hp t (gP g 30 (meddR N S w j q) s n v k), cn, sn) := by
  have hf : bc (d + 1) M_X9_freeStove none 0 [some (.ref 0), none] [] (hp t (gP g 30 w s n v k)) 0 0 = some (.inl (some (.int (freeR w N S 0))), hp t (gP g 30 w s n v k), 0, 0) := by
    simp only [st_X9_freeStove_0, lc_i, lc_r, lc_n, lc_j, lc_f, st_X9_freeStove_1, st_X9_freeStove_3, bM_some, hg_0_1, st_X9_freeStove_4, hg_16_11, st_X9_freeStove_7, st_X9_freeStove_10, st_X9_freeStove_13, st_X9_freeStove_14, st_X9_freeStove_17, hg_0_3, st_X9_freeStove_18, st_X9_freeStove_21, st_X9_freeStove_22 (p := 16) hq_16 ps_, bC_inl, Option.toList, List.cons_append, List.nil_append, Nat.add_zero, st_X9_freeStove_25, st_X9_freeStove_26, st_X9_freeStove_29, st_X9_freeStove_30, st_X9_freeStove_31, st_X9_freeStove_34, st_X9_freeStove_37, st_X9_freeStove_38, Nat.reduceAdd]
    exact c_free_l hK S 0 (by omega)
  unfold meddR
  by_cases h0 : q = 0
  · subst h0
    simp (disch := omega) only [st_X9_meddle_0, st_X9_meddle_1, st_X9_meddle_4, bM_some, hg_0_3, st_X9_meddle_5, st_X9_meddle_8, st_X9_meddle_9, st_X9_meddle_10, st_X9_meddle_11, cond_false, hw_30, st_X9_meddle_12, st_X9_meddle_13, st_X9_meddle_45, st_X9_meddle_16, st_X9_meddle_17, st_X9_meddle_18, st_X9_meddle_21, st_X9_meddle_22, st_X9_meddle_25, st_X9_meddle_26, st_X9_meddle_27, ha_30, st_X9_meddle_28, st_X9_meddle_29, st_X9_meddle_30, st_X9_meddle_33, st_X9_meddle_34, st_X9_meddle_37, st_X9_meddle_38, st_X9_meddle_39, st_X9_meddle_40, st_X9_meddle_41 (p := 0) hq_0 ps_ir, bC_inl, Option.toList, List.cons_append, List.nil_append, Nat.add_zero, st_X9_meddle_44, Nat.reduceAdd, nn_e0, if_true, nn_1, nn_8, nn_16, nn_24, nn_32, nn_40, nn_48, nn_suc, nn_out, nn_clamp, Int32.zero_add, hI_R, gP_r h30, gP_s h30, gP_n h30, gP_w h30]
  · by_cases h1 : q = 1
    · subst h1
      by_cases h2 : w j = -1
      · simp (disch := omega) only [st_X9_meddle_0, st_X9_meddle_1, st_X9_meddle_4, bM_some, hg_0_3, st_X9_meddle_5, st_X9_meddle_8, st_X9_meddle_9, st_X9_meddle_10, st_X9_meddle_11, cond_false, hw_30, st_X9_meddle_12, st_X9_meddle_13, st_X9_meddle_45, st_X9_meddle_16, st_X9_meddle_17, st_X9_meddle_18, st_X9_meddle_21, st_X9_meddle_22, st_X9_meddle_25, st_X9_meddle_26, st_X9_meddle_27, ha_30, st_X9_meddle_28, st_X9_meddle_29, st_X9_meddle_30, st_X9_meddle_33, st_X9_meddle_34, st_X9_meddle_37, st_X9_meddle_38, st_X9_meddle_39, st_X9_meddle_40, st_X9_meddle_41 (p := 0) hq_0 ps_ir, bC_inl, Option.toList, List.cons_append, List.nil_append, Nat.add_zero, st_X9_meddle_44, Nat.reduceAdd, nn_e0, nn_e1, h0, if_true, if_false, nn_1, nn_8, nn_16, nn_24, nn_32, nn_40, nn_48, nn_suc, nn_out, nn_clamp, Int32.zero_add, hI_R, gP_r h30, gP_s h30, gP_n h30, gP_w h30, h2, hf]
      · simp (disch := omega) only [st_X9_meddle_0, st_X9_meddle_1, st_X9_meddle_4, bM_some, hg_0_3, st_X9_meddle_5, st_X9_meddle_8, st_X9_meddle_9, st_X9_meddle_10, st_X9_meddle_11, cond_false, hw_30, st_X9_meddle_12, st_X9_meddle_13, st_X9_meddle_45, st_X9_meddle_16, st_X9_meddle_17, st_X9_meddle_18, st_X9_meddle_21, st_X9_meddle_22, st_X9_meddle_25, st_X9_meddle_26, st_X9_meddle_27, ha_30, st_X9_meddle_28, st_X9_meddle_29, st_X9_meddle_30, st_X9_meddle_33, st_X9_meddle_34, st_X9_meddle_37, st_X9_meddle_38, st_X9_meddle_39, st_X9_meddle_40, st_X9_meddle_41 (p := 0) hq_0 ps_ir, bC_inl, Option.toList, List.cons_append, List.nil_append, Nat.add_zero, st_X9_meddle_44, Nat.reduceAdd, nn_e0, nn_e1, h0, if_true, if_false, nn_1, nn_8, nn_16, nn_24, nn_32, nn_40, nn_48, nn_suc, nn_out, nn_clamp, Int32.zero_add, hI_R, gP_r h30, gP_s h30, gP_n h30, gP_w h30, h2]
    · simp (disch := omega) only [st_X9_meddle_0, st_X9_meddle_1, st_X9_meddle_4, bM_some, hg_0_3, st_X9_meddle_5, st_X9_meddle_8, st_X9_meddle_9, st_X9_meddle_10, st_X9_meddle_11, cond_false, hw_30, st_X9_meddle_12, st_X9_meddle_13, st_X9_meddle_45, st_X9_meddle_16, st_X9_meddle_17, st_X9_meddle_18, st_X9_meddle_21, st_X9_meddle_22, st_X9_meddle_25, st_X9_meddle_26, st_X9_meddle_27, ha_30, st_X9_meddle_28, st_X9_meddle_29, st_X9_meddle_30, st_X9_meddle_33, st_X9_meddle_34, st_X9_meddle_37, st_X9_meddle_38, st_X9_meddle_39, st_X9_meddle_40, st_X9_meddle_41 (p := 0) hq_0 ps_ir, bC_inl, Option.toList, List.cons_append, List.nil_append, Nat.add_zero, st_X9_meddle_44, Nat.reduceAdd, nn_e0, nn_e1, h0, h1, if_false]
set_option maxHeartbeats 2000000 in
theorem c_high_l (hK : KN (kC g) N S D L) : ∀ m j : Nat, j + m = N → ∀ x : Int32,
    bc (d + 1) M_X9_highestNote none 4 [some (.ref 0), some (.ref 30), some (.int x), some (.int (Int32.ofNat j))] [] (hp t (gP g 30 w s n v k)) cn sn = some (.inl (some (.int (hiF w m j x))), hp t (gP g 30 w s n v k), cn, sn) := by
  have hN : (gP g 30 w s n v k).1 16 10 = Int32.ofNat N := hK.1
  have h8 := hK.2.1
  intro m
  induction m with
  | zero =>
    intro j hj x
    rw [st_X9_highestNote_4]
    simp (disch := omega) only [st_X9_highestNote_0, lc_i, lc_r, lc_n, lc_j, lc_f, st_X9_highestNote_1, st_X9_highestNote_2, st_X9_highestNote_3, st_X9_highestNote_5, bM_some, hg_0_1, st_X9_highestNote_6, hg_16_10, st_X9_highestNote_9, st_X9_highestNote_12, st_X9_highestNote_15, st_X9_highestNote_16, st_X9_highestNote_17, st_X9_highestNote_19, st_X9_highestNote_20, cond_false, ha_30, st_X9_highestNote_21, bP_some, m2_, st_X9_highestNote_22, st_X9_highestNote_25, st_X9_highestNote_26, st_X9_highestNote_29, st_X9_highestNote_32, st_X9_highestNote_33, Nat.reduceAdd, hN, nn_lt, show ¬ j < N by omega, if_false, hiF]
  | succ m ih =>
    intro j hj x
    rw [st_X9_highestNote_4]
    simp (disch := omega) only [st_X9_highestNote_0, lc_i, lc_r, lc_n, lc_j, lc_f, st_X9_highestNote_1, st_X9_highestNote_2, st_X9_highestNote_3, st_X9_highestNote_5, bM_some, hg_0_1, st_X9_highestNote_6, hg_16_10, st_X9_highestNote_9, st_X9_highestNote_12, st_X9_highestNote_15, st_X9_highestNote_16, st_X9_highestNote_17, st_X9_highestNote_19, st_X9_highestNote_20, cond_false, ha_30, st_X9_highestNote_21, bP_some, m2_, st_X9_highestNote_22, st_X9_highestNote_25, st_X9_highestNote_26, st_X9_highestNote_29, st_X9_highestNote_32, st_X9_highestNote_33, Nat.reduceAdd, hN, gP_r h30, gP_s h30, gP_n h30, nn_1, nn_8, nn_16, nn_24, nn_32, nn_40, nn_48, nn_suc, nn_out, nn_clamp, Int32.zero_add, nn_lt, show j < N by omega, if_true, nn_r1, hiF]
    exact ih (j + 1) (by omega) _
theorem c_high (hK : KN (kC g) N S D L) : bc (d + 1) M_X9_highestNote none 0 [some (.ref 0), some (.ref 30), none, none] [] (hp t (gP g 30 w s n v k)) cn sn = some (.inl (some (.int (hiF w N 0 0))), hp t (gP g 30 w s n v k), cn, sn) := by
  simp only [st_X9_highestNote_0, lc_i, lc_r, lc_n, lc_j, lc_f, st_X9_highestNote_1, st_X9_highestNote_2, st_X9_highestNote_3, st_X9_highestNote_5, bM_some, hg_0_1, st_X9_highestNote_6, hg_16_10, st_X9_highestNote_9, st_X9_highestNote_12, st_X9_highestNote_15, st_X9_highestNote_16, st_X9_highestNote_17, st_X9_highestNote_19, st_X9_highestNote_20, cond_false, ha_30, st_X9_highestNote_21, bP_some, m2_, st_X9_highestNote_22, st_X9_highestNote_25, st_X9_highestNote_26, st_X9_highestNote_29, st_X9_highestNote_32, st_X9_highestNote_33, Nat.reduceAdd]
  exact c_high_l hK N 0 (by omega) 0
end EVE
