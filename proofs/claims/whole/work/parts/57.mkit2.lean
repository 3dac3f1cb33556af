/-! ===== the reference: who sings, chords, sets of bits ===== -/
def sungR (w : Rw) (v : Int32) : Nat → Nat → Int32
  | 0, _ => 0
  | m + 1, j => if w (40 + j) = -1 then sungR w v m (j + 1) else if w (40 + j) = v then 1 else sungR w v m (j + 1)
def chordB (w : Rw) (N : Nat) (st : Rw) (v : Int32) : Nat → Nat → Int32 → Int32
  | 0, _, b => b
  | m + 1, i, b => if b = 0 then b else chordB w N st v m (i + 1) (sungR w (v + st i) N 0)
/-- bits as a number; how many -/
def setN (b : Nat → Bool) : Nat → Nat
  | 0 => 0
  | m + 1 => setN b m + (bif b m then 2 ^ m else 0)
def cntN (b : Nat → Bool) : Nat → Nat
  | 0 => 0
  | m + 1 => cntN b m + (bif b m then 1 else 0)
def bitsL : Nat → Int32 → Int32 → Int32
  | 0, n, _ => n
  | m + 1, n, v => if v = 0 then n else bitsL m (n + 1) (v &&& (v - 1))
def bitsZ : Nat → Int32 → Int32
  | 0, v => v
  | m + 1, v => if v = 0 then 0 else bitsZ m (v &&& (v - 1))
def bS (w : Rw) (j : Nat) : Bool := !decide (w (40 + j) = -1)
theorem setN_lt (b : Nat → Bool) (m : Nat) : setN b m < 2 ^ m := by
  induction m with
  | zero => show 0 < 2 ^ 0; decide
  | succ m ih =>
    unfold setN
    rw [Nat.pow_succ]
    cases b m <;> simp only [cond_true, cond_false] <;> omega
theorem setN_le (b : Nat → Bool) {m n : Nat} (h : m ≤ n) : setN b m < 2 ^ n := Nat.lt_of_lt_of_le (setN_lt b m) (Nat.pow_le_pow_right (by decide) h)
theorem setN_suc {b : Nat → Bool} {m : Nat} : setN b (m + 1) = setN b m + (bif b m then 2 ^ m else 0) := rfl
theorem bit_add : ∀ j : Nat, j < 8 → ∀ x : Nat, x < 2 ^ j → Int32.ofNat x ||| ((1 : Int32) <<< (Int32.ofNat j &&& 31)) = Int32.ofNat (x + 2 ^ j) := by decide +kernel
theorem bit_or0 {x : Int32} : x ||| 0 = x := Int32.or_zero
theorem bits_add : ∀ j : Nat, j < 8 → ∀ x : Nat, x < 2 ^ j → bitsL 8 0 (Int32.ofNat (x + 2 ^ j)) = bitsL 8 0 (Int32.ofNat x) + 1 := by decide +kernel
theorem bits_z : ∀ x : Nat, x < 256 → bitsZ 8 (Int32.ofNat x) = 0 := by decide +kernel
theorem bits_cnt (b : Nat → Bool) : ∀ m : Nat, m ≤ 8 → bitsL 8 0 (Int32.ofNat (setN b m)) = Int32.ofNat (cntN b m) := by
  intro m
  induction m with
  | zero => intro _; show bitsL 8 0 (Int32.ofNat 0) = Int32.ofNat 0; decide
  | succ m ih =>
    intro h
    unfold setN cntN
    cases b m with
    | false => exact ih (by omega)
    | true =>
      show bitsL 8 0 (Int32.ofNat (setN b m + 2 ^ m)) = Int32.ofNat (cntN b m + 1)
      rw [bits_add m (by omega) _ (setN_lt b m), ih (by omega), nn_suc]
section MKIT2
variable {d : Nat} {t : List px_E} {g : hG} {h : px_H} {j N S D L cn sn : Nat} {w a k : Rw} {x y z : Int32} {K : Kt}
set_option maxHeartbeats 2000000 in
theorem m_isSung_l (hM : MK K N S D L g) (hK : KN K N S D L) : ∀ m j : Nat, j + m = N →
    bc d M_X10_isSung none 2 [some (.ref 49), some (.int x), some (.int (Int32.ofNat j))] [] (hp t (gM g w a k)) cn sn = some (.inl (some (.int (sungR w x m j))), hp t (gM g w a k), cn, sn) := by
  have h8 := hK.2.1
  intro m
  induction m with
  | zero =>
    intro j hj
    rw [st_X10_isSung_2]
    simp (disch := omega) only [st_X10_isSung_0, lc_i, lc_r, lc_n, lc_j, lc_f, st_X10_isSung_1, st_X10_isSung_3, bM_some, hg_49_3, st_X10_isSung_4, st_X10_isSung_7, cond_false, ha_52, st_X10_isSung_8, st_X10_isSung_9, st_X10_isSung_12, hg_49_30, st_X10_isSung_13, st_X10_isSung_16, ha_69, st_X10_isSung_17, st_X10_isSung_18, st_X10_isSung_19, st_X10_isSung_22, st_X10_isSung_23, st_X10_isSung_26, st_X10_isSung_27, st_X10_isSung_28, st_X10_isSung_29, st_X10_isSung_32, st_X10_isSung_33, st_X10_isSung_33b, st_X10_isSung_34, st_X10_isSung_37, st_X10_isSung_40, st_X10_isSung_41, st_X10_isSung_41b, Nat.reduceAdd, nn_1, nn_8, nn_16, nn_24, nn_32, nn_40, nn_48, nn_suc, nn_out, nn_clamp, Int32.zero_add, gM_64, gM_65, gM_66, gM_67, gM_68, gM_69, gM_70, gM_33, gM_72, gM_73, gM_o, gM_49, gMw_64, gMw_65, gMw_66, gMw_67, gMw_68, gMw_69, gMw_70, gMw_33, gMw_72, gMw_73, Nat.zero_add, dv_5, dv_10, dv_3, dv_2, ne_eq, not_false_eq_true, if_false, in_m1, nn_oc0, nn_c0, hM.n hK, nn_lt, show ¬ j < N by omega, sungR]
  | succ m ih =>
    intro j hj
    rw [st_X10_isSung_2]
    unfold sungR
    by_cases h1 : w (40 + j) = -1
    · simp (disch := omega) only [st_X10_isSung_0, lc_i, lc_r, lc_n, lc_j, lc_f, st_X10_isSung_1, st_X10_isSung_3, bM_some, hg_49_3, st_X10_isSung_4, st_X10_isSung_7, cond_false, ha_52, st_X10_isSung_8, st_X10_isSung_9, st_X10_isSung_12, hg_49_30, st_X10_isSung_13, st_X10_isSung_16, ha_69, st_X10_isSung_17, st_X10_isSung_18, st_X10_isSung_19, st_X10_isSung_22, st_X10_isSung_23, st_X10_isSung_26, st_X10_isSung_27, st_X10_isSung_28, st_X10_isSung_29, st_X10_isSung_32, st_X10_isSung_33, st_X10_isSung_33b, st_X10_isSung_34, st_X10_isSung_37, st_X10_isSung_40, st_X10_isSung_41, st_X10_isSung_41b, Nat.reduceAdd, nn_1, nn_8, nn_16, nn_24, nn_32, nn_40, nn_48, nn_suc, nn_out, nn_clamp, Int32.zero_add, gM_64, gM_65, gM_66, gM_67, gM_68, gM_69, gM_70, gM_33, gM_72, gM_73, gM_o, gM_49, gMw_64, gMw_65, gMw_66, gMw_67, gMw_68, gMw_69, gMw_70, gMw_33, gMw_72, gMw_73, Nat.zero_add, dv_5, dv_10, dv_3, dv_2, ne_eq, not_false_eq_true, if_false, in_m1, nn_oc0, nn_c0, hM.n hK, nn_lt, show j < N by omega, if_true, h1]
      exact ih (j + 1) (by omega)
    · by_cases h2 : w (40 + j) = x
      · have h3 : ¬ x = -1 := fun e => h1 (h2.trans e)
        simp (disch := omega) only [st_X10_isSung_0, lc_i, lc_r, lc_n, lc_j, lc_f, st_X10_isSung_1, st_X10_isSung_3, bM_some, hg_49_3, st_X10_isSung_4, st_X10_isSung_7, cond_false, ha_52, st_X10_isSung_8, st_X10_isSung_9, st_X10_isSung_12, hg_49_30, st_X10_isSung_13, st_X10_isSung_16, ha_69, st_X10_isSung_17, st_X10_isSung_18, st_X10_isSung_19, st_X10_isSung_22, st_X10_isSung_23, st_X10_isSung_26, st_X10_isSung_27, st_X10_isSung_28, st_X10_isSung_29, st_X10_isSung_32, st_X10_isSung_33, st_X10_isSung_33b, st_X10_isSung_34, st_X10_isSung_37, st_X10_isSung_40, st_X10_isSung_41, st_X10_isSung_41b, Nat.reduceAdd, nn_1, nn_8, nn_16, nn_24, nn_32, nn_40, nn_48, nn_suc, nn_out, nn_clamp, Int32.zero_add, gM_64, gM_65, gM_66, gM_67, gM_68, gM_69, gM_70, gM_33, gM_72, gM_73, gM_o, gM_49, gMw_64, gMw_65, gMw_66, gMw_67, gMw_68, gMw_69, gMw_70, gMw_33, gMw_72, gMw_73, Nat.zero_add, dv_5, dv_10, dv_3, dv_2, ne_eq, not_false_eq_true, if_false, in_m1, nn_oc0, nn_c0, hM.n hK, nn_lt, show j < N by omega, if_true, h1, h2, h3]
      · simp (disch := omega) only [st_X10_isSung_0, lc_i, lc_r, lc_n, lc_j, lc_f, st_X10_isSung_1, st_X10_isSung_3, bM_some, hg_49_3, st_X10_isSung_4, st_X10_isSung_7, cond_false, ha_52, st_X10_isSung_8, st_X10_isSung_9, st_X10_isSung_12, hg_49_30, st_X10_isSung_13, st_X10_isSung_16, ha_69, st_X10_isSung_17, st_X10_isSung_18, st_X10_isSung_19, st_X10_isSung_22, st_X10_isSung_23, st_X10_isSung_26, st_X10_isSung_27, st_X10_isSung_28, st_X10_isSung_29, st_X10_isSung_32, st_X10_isSung_33, st_X10_isSung_33b, st_X10_isSung_34, st_X10_isSung_37, st_X10_isSung_40, st_X10_isSung_41, st_X10_isSung_41b, Nat.reduceAdd, nn_1, nn_8, nn_16, nn_24, nn_32, nn_40, nn_48, nn_suc, nn_out, nn_clamp, Int32.zero_add, gM_64, gM_65, gM_66, gM_67, gM_68, gM_69, gM_70, gM_33, gM_72, gM_73, gM_o, gM_49, gMw_64, gMw_65, gMw_66, gMw_67, gMw_68, gMw_69, gMw_70, gMw_33, gMw_72, gMw_73, Nat.zero_add, dv_5, dv_10, dv_3, dv_2, ne_eq, not_false_eq_true, if_false, in_m1, nn_oc0, nn_c0, hM.n hK, nn_lt, show j < N by omega, if_true, h1, h2]
        exact ih (j + 1) (by omega)
theorem m_isSung (hM : MK K N S D L g) (hK : KN K N S D L) :
    bc d M_X10_isSung none 0 [some (.ref 49), some (.int x), none] [] (hp t (gM g w a k)) cn sn = some (.inl (some (.int (sungR w x N 0))), hp t (gM g w a k), cn, sn) := by
  simp only [st_X10_isSung_0, lc_i, lc_r, lc_n, lc_j, lc_f, st_X10_isSung_1, st_X10_isSung_3, bM_some, hg_49_3, st_X10_isSung_4, st_X10_isSung_7, cond_false, ha_52, st_X10_isSung_8, st_X10_isSung_9, st_X10_isSung_12, hg_49_30, st_X10_isSung_13, st_X10_isSung_16, ha_69, st_X10_isSung_17, st_X10_isSung_18, st_X10_isSung_19, st_X10_isSung_22, st_X10_isSung_23, st_X10_isSung_26, st_X10_isSung_27, st_X10_isSung_28, st_X10_isSung_29, st_X10_isSung_32, st_X10_isSung_33, st_X10_isSung_33b, st_X10_isSung_34, st_X10_isSung_37, st_X10_isSung_40, st_X10_isSung_41, st_X10_isSung_41b, Nat.reduceAdd]
  exact m_isSung_l hM hK N 0 (by omega)
theorem sungR_01 (v : Int32) : ∀ m j : Nat, sungR w v m j = 0 ∨ sungR w v m j = 1 := by
  intro m
  induction m with
  | zero => intro j; exact Or.inl rfl
  | succ m ih =>
    intro j
    unfold sungR
    split
    · exact ih _
    · split
      · exact Or.inr rfl
      · exact ih _
set_option maxHeartbeats 2000000 in
theorem m_isChord_l (hM : MK K N S D L g) (hK : KN K N S D L) {dd M : Nat} (hd : dd < D) (hS : K 6 dd = Int32.ofNat M) (h3 : M ≤ 3) : ∀ m i : Nat, i + m = M → ∀ b : Int32, (b = 0 ∨ b = 1) →
    bc (d + 1) M_X10_isChord none 9 [some (.ref 49), some (.int (Int32.ofNat dd)), some (.int x), some (.int b), some (.int (Int32.ofNat i))] [] (hp t (gM g w a k)) cn sn = some (.inl (some (.int (chordB w N (fun i => K 7 (dd * 3 + i)) x m i b))), hp t (gM g w a k), cn, sn) := by
  have h5 := hK.2.2.2.2.2.1
  have hs : g.1 59 dd = Int32.ofNat M := (hM.2.2.2.1 dd hd).trans hS
  intro m
  induction m with
  | zero =>
    intro i hi b hb
    rw [st_X10_isChord_9]
    rcases hb with hb | hb <;> subst hb <;> simp (disch := omega) only [st_X10_isChord_0, st_X10_isChord_1, st_X10_isChord_2 (p := 49) hq_49 ps_, bC_inl, Option.toList, List.cons_append, List.nil_append, Nat.add_zero, lc_i, lc_r, lc_n, lc_j, lc_f, st_X10_isChord_5, st_X10_isChord_6, st_X10_isChord_7, st_X10_isChord_11, bM_some, hg_49_10, st_X10_isChord_12, st_X10_isChord_15, cond_false, ha_59, st_X10_isChord_16, st_X10_isChord_17, st_X10_isChord_20, st_X10_isChord_21, st_X10_isChord_24, st_X10_isChord_25, st_X10_isChord_26, hg_49_11, st_X10_isChord_27, st_X10_isChord_30, st_X10_isChord_31, st_X10_isChord_32, st_X10_isChord_33, st_X10_isChord_35, ha_60, st_X10_isChord_36, st_X10_isChord_37, st_X10_isChord_38 (p := 49) hq_49 ps_, st_X10_isChord_41, st_X10_isChord_42, st_X10_isChord_45, st_X10_isChord_48, st_X10_isChord_49, st_X10_isChord_49b, Nat.reduceAdd, nn_1, nn_8, nn_16, nn_24, nn_32, nn_40, nn_48, nn_suc, nn_out, nn_clamp, Int32.zero_add, gM_64, gM_65, gM_66, gM_67, gM_68, gM_69, gM_70, gM_33, gM_72, gM_73, gM_o, gM_49, gMw_64, gMw_65, gMw_66, gMw_67, gMw_68, gMw_69, gMw_70, gMw_33, gMw_72, gMw_73, Nat.zero_add, dv_5, dv_10, dv_3, dv_2, ne_eq, not_false_eq_true, if_false, in_m1, hs, nn_lt, show ¬ i < M by omega, chordB]
  | succ m ih =>
    intro i hi b hb
    rw [st_X10_isChord_9]
    have hst : g.1 60 (3 * dd + i) = K 7 (dd * 3 + i) := hM.2.2.2.2.1 dd i hd (by rw [hS, nn_clamp (by omega)]; omega)
    unfold chordB
    rcases hb with hb | hb
    · subst hb
      simp (disch := omega) only [st_X10_isChord_0, st_X10_isChord_1, st_X10_isChord_2 (p := 49) hq_49 ps_, bC_inl, Option.toList, List.cons_append, List.nil_append, Nat.add_zero, lc_i, lc_r, lc_n, lc_j, lc_f, st_X10_isChord_5, st_X10_isChord_6, st_X10_isChord_7, st_X10_isChord_11, bM_some, hg_49_10, st_X10_isChord_12, st_X10_isChord_15, cond_false, ha_59, st_X10_isChord_16, st_X10_isChord_17, st_X10_isChord_20, st_X10_isChord_21, st_X10_isChord_24, st_X10_isChord_25, st_X10_isChord_26, hg_49_11, st_X10_isChord_27, st_X10_isChord_30, st_X10_isChord_31, st_X10_isChord_32, st_X10_isChord_33, st_X10_isChord_35, ha_60, st_X10_isChord_36, st_X10_isChord_37, st_X10_isChord_38 (p := 49) hq_49 ps_, st_X10_isChord_41, st_X10_isChord_42, st_X10_isChord_45, st_X10_isChord_48, st_X10_isChord_49, st_X10_isChord_49b, Nat.reduceAdd, nn_1, nn_8, nn_16, nn_24, nn_32, nn_40, nn_48, nn_suc, nn_out, nn_clamp, Int32.zero_add, gM_64, gM_65, gM_66, gM_67, gM_68, gM_69, gM_70, gM_33, gM_72, gM_73, gM_o, gM_49, gMw_64, gMw_65, gMw_66, gMw_67, gMw_68, gMw_69, gMw_70, gMw_33, gMw_72, gMw_73, Nat.zero_add, dv_5, dv_10, dv_3, dv_2, ne_eq, not_false_eq_true, if_false, in_m1, hs, nn_lt, show i < M by omega, if_true]
    · subst hb
      simp (disch := omega) only [st_X10_isChord_0, st_X10_isChord_1, st_X10_isChord_2 (p := 49) hq_49 ps_, bC_inl, Option.toList, List.cons_append, List.nil_append, Nat.add_zero, lc_i, lc_r, lc_n, lc_j, lc_f, st_X10_isChord_5, st_X10_isChord_6, st_X10_isChord_7, st_X10_isChord_11, bM_some, hg_49_10, st_X10_isChord_12, st_X10_isChord_15, cond_false, ha_59, st_X10_isChord_16, st_X10_isChord_17, st_X10_isChord_20, st_X10_isChord_21, st_X10_isChord_24, st_X10_isChord_25, st_X10_isChord_26, hg_49_11, st_X10_isChord_27, st_X10_isChord_30, st_X10_isChord_31, st_X10_isChord_32, st_X10_isChord_33, st_X10_isChord_35, ha_60, st_X10_isChord_36, st_X10_isChord_37, st_X10_isChord_38 (p := 49) hq_49 ps_, st_X10_isChord_41, st_X10_isChord_42, st_X10_isChord_45, st_X10_isChord_48, st_X10_isChord_49, st_X10_isChord_49b, Nat.reduceAdd, nn_1, nn_8, nn_16, nn_24, nn_32, nn_40, nn_48, nn_suc, nn_out, nn_clamp, Int32.zero_add, gM_64, gM_65, gM_66, gM_67, gM_68, gM_69, gM_70, gM_33, gM_72, gM_73, gM_o, gM_49, gMw_64, gMw_65, gMw_66, gMw_67, gMw_68, gMw_69, gMw_70, gMw_33, gMw_72, gMw_73, Nat.zero_add, dv_5, dv_10, dv_3, dv_2, ne_eq, not_false_eq_true, if_false, in_m1, hs, nn_lt, show i < M by omega, if_true, nn_one0, nn_m3, nn_add, hst, m_isSung hM hK]
      exact ih (i + 1) (by omega) _ (sungR_01 _ _ _)
theorem m_isChord (hM : MK K N S D L g) (hK : KN K N S D L) {dd M : Nat} (hd : dd < D) (hS : K 6 dd = Int32.ofNat M) (h3 : M ≤ 3) :
    bc (d + 1) M_X10_isChord none 0 [some (.ref 49), some (.int (Int32.ofNat dd)), some (.int x), none, none] [] (hp t (gM g w a k)) cn sn = some (.inl (some (.int (chordB w N (fun i => K 7 (dd * 3 + i)) x M 0 (sungR w x N 0)))), hp t (gM g w a k), cn, sn) := by
  simp only [st_X10_isChord_0, st_X10_isChord_1, st_X10_isChord_2 (p := 49) hq_49 ps_, bC_inl, Option.toList, List.cons_append, List.nil_append, Nat.add_zero, lc_i, lc_r, lc_n, lc_j, lc_f, st_X10_isChord_5, st_X10_isChord_6, st_X10_isChord_7, st_X10_isChord_11, bM_some, hg_49_10, st_X10_isChord_12, st_X10_isChord_15, cond_false, ha_59, st_X10_isChord_16, st_X10_isChord_17, st_X10_isChord_20, st_X10_isChord_21, st_X10_isChord_24, st_X10_isChord_25, st_X10_isChord_26, hg_49_11, st_X10_isChord_27, st_X10_isChord_30, st_X10_isChord_31, st_X10_isChord_32, st_X10_isChord_33, st_X10_isChord_35, ha_60, st_X10_isChord_36, st_X10_isChord_37, st_X10_isChord_38 (p := 49) hq_49 ps_, st_X10_isChord_41, st_X10_isChord_42, st_X10_isChord_45, st_X10_isChord_48, st_X10_isChord_49, st_X10_isChord_49b, Nat.reduceAdd, m_isSung hM hK]
  exact m_isChord_l hM hK hd hS h3 M 0 (by omega) _ (sungR_01 _ _ _)
set_option maxHeartbeats 2000000 in
theorem m_singers_l (hM : MK K N S D L g) (hK : KN K N S D L) : ∀ m j : Nat, j + m = N →
    bc d M_X10_singers none 4 [some (.ref 49), some (.int (Int32.ofNat (setN (bS w) j))), some (.int (Int32.ofNat j))] [] (hp t (gM g w a k)) cn sn = some (.inl (some (.int (Int32.ofNat (setN (bS w) N)))), hp t (gM g w a k), cn, sn) := by
  have h8 := hK.2.1
  intro m
  induction m with
  | zero =>
    intro j hj
    rw [st_X10_singers_4]
    obtain rfl : j = N := by omega
    simp (disch := omega) only [st_X10_singers_0, lc_i, lc_r, lc_n, lc_j, lc_f, st_X10_singers_1, st_X10_singers_2, st_X10_singers_3, st_X10_singers_5, bM_some, hg_49_3, st_X10_singers_6, st_X10_singers_9, cond_false, ha_52, st_X10_singers_10, st_X10_singers_11, st_X10_singers_14, st_X10_singers_15, hg_49_30, st_X10_singers_16, st_X10_singers_19, ha_69, st_X10_singers_20, st_X10_singers_21, st_X10_singers_22, st_X10_singers_25, st_X10_singers_26, st_X10_singers_27, st_X10_singers_28, st_X10_singers_32, st_X10_singers_33, st_X10_singers_34, st_X10_singers_37, st_X10_singers_31, st_X10_singers_40, st_X10_singers_41, Nat.reduceAdd, nn_1, nn_8, nn_16, nn_24, nn_32, nn_40, nn_48, nn_suc, nn_out, nn_clamp, Int32.zero_add, gM_64, gM_65, gM_66, gM_67, gM_68, gM_69, gM_70, gM_33, gM_72, gM_73, gM_o, gM_49, gMw_64, gMw_65, gMw_66, gMw_67, gMw_68, gMw_69, gMw_70, gMw_33, gMw_72, gMw_73, Nat.zero_add, dv_5, dv_10, dv_3, dv_2, ne_eq, not_false_eq_true, if_false, in_m1, nn_oc0, nn_c0, hM.n hK, nn_lt, show ¬ j < j by omega]
  | succ m ih =>
    intro j hj
    rw [st_X10_singers_4]
    have e := ih (j + 1) (by omega)
    rw [setN_suc] at e
    by_cases h1 : w (40 + j) = -1
    · rw [show bS w j = false by unfold bS; rw [h1]; rfl, cond_false, Nat.add_zero] at e
      simp (disch := omega) only [st_X10_singers_0, lc_i, lc_r, lc_n, lc_j, lc_f, st_X10_singers_1, st_X10_singers_2, st_X10_singers_3, st_X10_singers_5, bM_some, hg_49_3, st_X10_singers_6, st_X10_singers_9, cond_false, ha_52, st_X10_singers_10, st_X10_singers_11, st_X10_singers_14, st_X10_singers_15, hg_49_30, st_X10_singers_16, st_X10_singers_19, ha_69, st_X10_singers_20, st_X10_singers_21, st_X10_singers_22, st_X10_singers_25, st_X10_singers_26, st_X10_singers_27, st_X10_singers_28, st_X10_singers_32, st_X10_singers_33, st_X10_singers_34, st_X10_singers_37, st_X10_singers_31, st_X10_singers_40, st_X10_singers_41, Nat.reduceAdd, nn_1, nn_8, nn_16, nn_24, nn_32, nn_40, nn_48, nn_suc, nn_out, nn_clamp, Int32.zero_add, gM_64, gM_65, gM_66, gM_67, gM_68, gM_69, gM_70, gM_33, gM_72, gM_73, gM_o, gM_49, gMw_64, gMw_65, gMw_66, gMw_67, gMw_68, gMw_69, gMw_70, gMw_33, gMw_72, gMw_73, Nat.zero_add, dv_5, dv_10, dv_3, dv_2, ne_eq, not_false_eq_true, if_false, in_m1, nn_oc0, nn_c0, hM.n hK, nn_lt, show j < N by omega, if_true, h1, bit_or0]
      exact e
    · rw [show bS w j = true by unfold bS; rw [decide_eq_false h1]; rfl, cond_true] at e
      simp (disch := omega) only [st_X10_singers_0, lc_i, lc_r, lc_n, lc_j, lc_f, st_X10_singers_1, st_X10_singers_2, st_X10_singers_3, st_X10_singers_5, bM_some, hg_49_3, st_X10_singers_6, st_X10_singers_9, cond_false, ha_52, st_X10_singers_10, st_X10_singers_11, st_X10_singers_14, st_X10_singers_15, hg_49_30, st_X10_singers_16, st_X10_singers_19, ha_69, st_X10_singers_20, st_X10_singers_21, st_X10_singers_22, st_X10_singers_25, st_X10_singers_26, st_X10_singers_27, st_X10_singers_28, st_X10_singers_32, st_X10_singers_33, st_X10_singers_34, st_X10_singers_37, st_X10_singers_31, st_X10_singers_40, st_X10_singers_41, Nat.reduceAdd, nn_1, nn_8, nn_16, nn_24, nn_32, nn_40, nn_48, nn_suc, nn_out, nn_clamp, Int32.zero_add, gM_64, gM_65, gM_66, gM_67, gM_68, gM_69, gM_70, gM_33, gM_72, gM_73, gM_o, gM_49, gMw_64, gMw_65, gMw_66, gMw_67, gMw_68, gMw_69, gMw_70, gMw_33, gMw_72, gMw_73, Nat.zero_add, dv_5, dv_10, dv_3, dv_2, ne_eq, not_false_eq_true, if_false, in_m1, nn_oc0, nn_c0, hM.n hK, nn_lt, show j < N by omega, if_true, h1, bit_add j (by omega) _ (setN_lt (bS w) j)]
      exact e
theorem m_singers (hM : MK K N S D L g) (hK : KN K N S D L) :
    bc d M_X10_singers none 0 [some (.ref 49), none, none] [] (hp t (gM g w a k)) cn sn = some (.inl (some (.int (Int32.ofNat (setN (bS w) N)))), hp t (gM g w a k), cn, sn) := by
  simp only [st_X10_singers_0, lc_i, lc_r, lc_n, lc_j, lc_f, st_X10_singers_1, st_X10_singers_2, st_X10_singers_3, st_X10_singers_5, bM_some, hg_49_3, st_X10_singers_6, st_X10_singers_9, cond_false, ha_52, st_X10_singers_10, st_X10_singers_11, st_X10_singers_14, st_X10_singers_15, hg_49_30, st_X10_singers_16, st_X10_singers_19, ha_69, st_X10_singers_20, st_X10_singers_21, st_X10_singers_22, st_X10_singers_25, st_X10_singers_26, st_X10_singers_27, st_X10_singers_28, st_X10_singers_32, st_X10_singers_33, st_X10_singers_34, st_X10_singers_37, st_X10_singers_31, st_X10_singers_40, st_X10_singers_41, Nat.reduceAdd]
  exact m_singers_l hM hK N 0 (by omega)
set_option maxHeartbeats 2000000 in
theorem m_bitsOf_l : ∀ (m : Nat) (n v : Int32) (a0 : Option Value), bitsZ m v = 0 →
    bc d M_X10_bitsOf none 4 [a0, some (.int n), some (.int v)] [] h cn sn = some (.inl (some (.int (bitsL m n v))), h, cn, sn) := by
  intro m
  induction m with
  | zero =>
    intro n v a0 hz
    have hz : v = 0 := hz
    subst hz
    rw [st_X10_bitsOf_4]
    simp only [st_X10_bitsOf_0, lc_i, lc_r, lc_n, lc_j, lc_f, st_X10_bitsOf_1, st_X10_bitsOf_2, st_X10_bitsOf_3, st_X10_bitsOf_5, st_X10_bitsOf_8, st_X10_bitsOf_11, st_X10_bitsOf_12, st_X10_bitsOf_13, st_X10_bitsOf_14, st_X10_bitsOf_15, st_X10_bitsOf_16, st_X10_bitsOf_17, st_X10_bitsOf_20, st_X10_bitsOf_21, Nat.reduceAdd, if_true, bitsL]
  | succ m ih =>
    intro n v a0 hz
    rw [st_X10_bitsOf_4]
    unfold bitsZ at hz
    unfold bitsL
    by_cases h0 : v = 0
    · simp only [st_X10_bitsOf_0, lc_i, lc_r, lc_n, lc_j, lc_f, st_X10_bitsOf_1, st_X10_bitsOf_2, st_X10_bitsOf_3, st_X10_bitsOf_5, st_X10_bitsOf_8, st_X10_bitsOf_11, st_X10_bitsOf_12, st_X10_bitsOf_13, st_X10_bitsOf_14, st_X10_bitsOf_15, st_X10_bitsOf_16, st_X10_bitsOf_17, st_X10_bitsOf_20, st_X10_bitsOf_21, Nat.reduceAdd, h0, if_true]
    · rw [if_neg h0] at hz
      simp only [st_X10_bitsOf_0, lc_i, lc_r, lc_n, lc_j, lc_f, st_X10_bitsOf_1, st_X10_bitsOf_2, st_X10_bitsOf_3, st_X10_bitsOf_5, st_X10_bitsOf_8, st_X10_bitsOf_11, st_X10_bitsOf_12, st_X10_bitsOf_13, st_X10_bitsOf_14, st_X10_bitsOf_15, st_X10_bitsOf_16, st_X10_bitsOf_17, st_X10_bitsOf_20, st_X10_bitsOf_21, Nat.reduceAdd, h0, if_false]
      exact ih _ _ _ hz
theorem m_bitsOf (b : Nat → Bool) (h8 : N ≤ 8) :
    bc d M_X10_bitsOf none 0 [some (.int (Int32.ofNat (setN b N))), none, none] [] h cn sn = some (.inl (some (.int (Int32.ofNat (cntN b N)))), h, cn, sn) := by
  simp only [st_X10_bitsOf_0, lc_i, lc_r, lc_n, lc_j, lc_f, st_X10_bitsOf_1, st_X10_bitsOf_2, st_X10_bitsOf_3, st_X10_bitsOf_5, st_X10_bitsOf_8, st_X10_bitsOf_11, st_X10_bitsOf_12, st_X10_bitsOf_13, st_X10_bitsOf_14, st_X10_bitsOf_15, st_X10_bitsOf_16, st_X10_bitsOf_17, st_X10_bitsOf_20, st_X10_bitsOf_21, Nat.reduceAdd]
  rw [m_bitsOf_l 8 _ _ _ (bits_z _ (setN_le b (n := 8) h8)), bits_cnt b N h8]
set_option maxHeartbeats 2000000 in
theorem m_kettleOn_l (hM : MK K N S D L g) (hK : KN K N S D L) : ∀ m j : Nat, j + m = N →
    bc d M_X10_kettleOn none 2 [some (.ref 49), some (.int x), some (.int (Int32.ofNat j))] [] (hp t (gM g w a k)) cn sn = some (.inl (some (.int (findR w x m j))), hp t (gM g w a k), cn, sn) := by
  have h8 := hK.2.1
  intro m
  induction m with
  | zero =>
    intro j hj
    rw [st_X10_kettleOn_2]
    simp (disch := omega) only [st_X10_kettleOn_0, lc_i, lc_r, lc_n, lc_j, lc_f, st_X10_kettleOn_1, st_X10_kettleOn_3, bM_some, hg_49_3, st_X10_kettleOn_4, st_X10_kettleOn_7, cond_false, ha_52, st_X10_kettleOn_8, st_X10_kettleOn_9, st_X10_kettleOn_12, hg_49_25, st_X10_kettleOn_13, st_X10_kettleOn_16, ha_64, st_X10_kettleOn_17, st_X10_kettleOn_18, st_X10_kettleOn_19, st_X10_kettleOn_22, st_X10_kettleOn_23, st_X10_kettleOn_24, st_X10_kettleOn_27, st_X10_kettleOn_30, st_X10_kettleOn_31, Nat.reduceAdd, nn_1, nn_8, nn_16, nn_24, nn_32, nn_40, nn_48, nn_suc, nn_out, nn_clamp, Int32.zero_add, gM_64, gM_65, gM_66, gM_67, gM_68, gM_69, gM_70, gM_33, gM_72, gM_73, gM_o, gM_49, gMw_64, gMw_65, gMw_66, gMw_67, gMw_68, gMw_69, gMw_70, gMw_33, gMw_72, gMw_73, Nat.zero_add, dv_5, dv_10, dv_3, dv_2, ne_eq, not_false_eq_true, if_false, in_m1, nn_oc0, nn_c0, hM.n hK, nn_lt, show ¬ j < N by omega, findR]
  | succ m ih =>
    intro j hj
    rw [st_X10_kettleOn_2]
    simp (disch := omega) only [st_X10_kettleOn_0, lc_i, lc_r, lc_n, lc_j, lc_f, st_X10_kettleOn_1, st_X10_kettleOn_3, bM_some, hg_49_3, st_X10_kettleOn_4, st_X10_kettleOn_7, cond_false, ha_52, st_X10_kettleOn_8, st_X10_kettleOn_9, st_X10_kettleOn_12, hg_49_25, st_X10_kettleOn_13, st_X10_kettleOn_16, ha_64, st_X10_kettleOn_17, st_X10_kettleOn_18, st_X10_kettleOn_19, st_X10_kettleOn_22, st_X10_kettleOn_23, st_X10_kettleOn_24, st_X10_kettleOn_27, st_X10_kettleOn_30, st_X10_kettleOn_31, Nat.reduceAdd, nn_1, nn_8, nn_16, nn_24, nn_32, nn_40, nn_48, nn_suc, nn_out, nn_clamp, Int32.zero_add, gM_64, gM_65, gM_66, gM_67, gM_68, gM_69, gM_70, gM_33, gM_72, gM_73, gM_o, gM_49, gMw_64, gMw_65, gMw_66, gMw_67, gMw_68, gMw_69, gMw_70, gMw_33, gMw_72, gMw_73, Nat.zero_add, dv_5, dv_10, dv_3, dv_2, ne_eq, not_false_eq_true, if_false, in_m1, nn_oc0, nn_c0, hM.n hK, nn_lt, show j < N by omega, if_true, findR]
    rw [ih (j + 1) (by omega), r_ite]
theorem m_kettleOn (hM : MK K N S D L g) (hK : KN K N S D L) :
    bc d M_X10_kettleOn none 0 [some (.ref 49), some (.int x), none] [] (hp t (gM g w a k)) cn sn = some (.inl (some (.int (findR w x N 0))), hp t (gM g w a k), cn, sn) := by
  simp only [st_X10_kettleOn_0, lc_i, lc_r, lc_n, lc_j, lc_f, st_X10_kettleOn_1, st_X10_kettleOn_3, bM_some, hg_49_3, st_X10_kettleOn_4, st_X10_kettleOn_7, cond_false, ha_52, st_X10_kettleOn_8, st_X10_kettleOn_9, st_X10_kettleOn_12, hg_49_25, st_X10_kettleOn_13, st_X10_kettleOn_16, ha_64, st_X10_kettleOn_17, st_X10_kettleOn_18, st_X10_kettleOn_19, st_X10_kettleOn_22, st_X10_kettleOn_23, st_X10_kettleOn_24, st_X10_kettleOn_27, st_X10_kettleOn_30, st_X10_kettleOn_31, Nat.reduceAdd]
  exact m_kettleOn_l hM hK N 0 (by omega)
end MKIT2
