/-! ===== the Reader: words ===== -/
/-- text k is word w -/
def txK (k : UInt32) (w : List Int32) : Prop := Nat.blt k.toNat kt_X.1.length = true ∧ kt_X.2.1.getD k.toNat 0 = w.length ∧ kt_X.2.2.1.getD k.toNat [] = w
theorem tx_19 : txK (UInt32.ofNat 19) wSto := ⟨rfl, rfl, rfl⟩
theorem tx_20 : txK (UInt32.ofNat 20) wDis := ⟨rfl, rfl, rfl⟩
theorem tx_21 : txK (UInt32.ofNat 21) wLif := ⟨rfl, rfl, rfl⟩
theorem tx_22 : txK (UInt32.ofNat 22) wOr := ⟨rfl, rfl, rfl⟩
theorem tx_23 : txK (UInt32.ofNat 23) wAnd := ⟨rfl, rfl, rfl⟩
theorem tx_24 : txK (UInt32.ofNat 24) wNot := ⟨rfl, rfl, rfl⟩
theorem tx_47 : txK (UInt32.ofNat 47) wNot := ⟨rfl, rfl, rfl⟩
theorem tx_48 : txK (UInt32.ofNat 48) wAnd := ⟨rfl, rfl, rfl⟩
theorem tx_49 : txK (UInt32.ofNat 49) wOr := ⟨rfl, rfl, rfl⟩
theorem tx_50 : txK (UInt32.ofNat 50) wLif := ⟨rfl, rfl, rfl⟩
theorem tx_51 : txK (UInt32.ofNat 51) wSto := ⟨rfl, rfl, rfl⟩
theorem tx_52 : txK (UInt32.ofNat 52) wDis := ⟨rfl, rfl, rfl⟩
theorem tx_25 : txK (UInt32.ofNat 25) (wKin.getD 0 []) := ⟨rfl, rfl, rfl⟩
theorem tx_26 : txK (UInt32.ofNat 26) (wKin.getD 1 []) := ⟨rfl, rfl, rfl⟩
theorem tx_27 : txK (UInt32.ofNat 27) (wKin.getD 2 []) := ⟨rfl, rfl, rfl⟩
theorem tx_28 : txK (UInt32.ofNat 28) (wKin.getD 3 []) := ⟨rfl, rfl, rfl⟩
theorem tx_36 : txK (UInt32.ofNat 36) (wKin.getD 0 []) := ⟨rfl, rfl, rfl⟩
theorem tx_37 : txK (UInt32.ofNat 37) (wKin.getD 1 []) := ⟨rfl, rfl, rfl⟩
theorem tx_38 : txK (UInt32.ofNat 38) (wKin.getD 2 []) := ⟨rfl, rfl, rfl⟩
theorem tx_39 : txK (UInt32.ofNat 39) (wKin.getD 3 []) := ⟨rfl, rfl, rfl⟩
theorem tx_29 : txK (UInt32.ofNat 29) (wVal.getD 0 []) := ⟨rfl, rfl, rfl⟩
theorem tx_30 : txK (UInt32.ofNat 30) (wVal.getD 1 []) := ⟨rfl, rfl, rfl⟩
theorem tx_31 : txK (UInt32.ofNat 31) (wVal.getD 2 []) := ⟨rfl, rfl, rfl⟩
theorem tx_32 : txK (UInt32.ofNat 32) (wVal.getD 3 []) := ⟨rfl, rfl, rfl⟩
theorem tx_33 : txK (UInt32.ofNat 33) (wVal.getD 4 []) := ⟨rfl, rfl, rfl⟩
theorem tx_34 : txK (UInt32.ofNat 34) (wVal.getD 5 []) := ⟨rfl, rfl, rfl⟩
theorem tx_35 : txK (UInt32.ofNat 35) (wVal.getD 6 []) := ⟨rfl, rfl, rfl⟩
theorem tx_40 : txK (UInt32.ofNat 40) (wVal.getD 0 []) := ⟨rfl, rfl, rfl⟩
theorem tx_41 : txK (UInt32.ofNat 41) (wVal.getD 1 []) := ⟨rfl, rfl, rfl⟩
theorem tx_42 : txK (UInt32.ofNat 42) (wVal.getD 2 []) := ⟨rfl, rfl, rfl⟩
theorem tx_43 : txK (UInt32.ofNat 43) (wVal.getD 3 []) := ⟨rfl, rfl, rfl⟩
theorem tx_44 : txK (UInt32.ofNat 44) (wVal.getD 4 []) := ⟨rfl, rfl, rfl⟩
theorem tx_45 : txK (UInt32.ofNat 45) (wVal.getD 5 []) := ⟨rfl, rfl, rfl⟩
theorem tx_46 : txK (UInt32.ofNat 46) (wVal.getD 6 []) := ⟨rfl, rfl, rfl⟩
section READ4
variable {d : Nat} {t : List px_E} {g : hG} {n cn sn : Nat} {b r : Rw} {x y : Int32} {σ : Sg} {k : UInt32} {w : List Int32} {h : px_H}
theorem ble12 : Nat.ble 12 (d + 12) = true := Nat.ble_eq_true_of_le (by omega)
theorem sl_0 (hk : txK k w) : px_sl kt_X (d + 12) [.float k] h = some ([.int (Int32.ofNat w.length)], h) := by
  show (bif (px_small [] && (Nat.ble 12 (d + 12) && Nat.blt k.toNat kt_X.1.length)) then some ([Value.int (Int32.ofNat (kt_X.2.1.getD k.toNat 0))], h) else none) = _
  rw [ble12, hk.1, hk.2.1]; rfl
theorem sl_i (hk : txK k w) : px_sl kt_X (d + 12) [.float k, .int x] h = some ([.int (Int32.ofNat w.length), .int x], h) := by
  show (bif (px_small [Value.int x] && (Nat.ble 12 (d + 12) && Nat.blt k.toNat kt_X.1.length)) then some ([Value.int (Int32.ofNat (kt_X.2.1.getD k.toNat 0)), Value.int x], h) else none) = _
  rw [ble12, hk.1, hk.2.1]; rfl
theorem sc_0 (hk : txK k w) {i : Nat} (hi : i < w.length) (hl : w.length < 100) : px_sc kt_X (d + 12) [.int (Int32.ofNat i), .float k] h = some ([.int (w.getD i 0)], h) := by
  show (bif (px_small [] && (Nat.ble 12 (d + 12) && (Nat.blt k.toNat kt_X.1.length && !px_out (Int32.ofNat i) (kt_X.2.1.getD k.toNat 0)))) then some ([Value.int ((kt_X.2.2.1.getD k.toNat []).getD (Int32.ofNat i).toNatClampNeg 0)], h) else none) = _
  rw [ble12, hk.1, hk.2.1, hk.2.2, nn_out (by omega) hi, nn_clamp (by omega)]; rfl
theorem sc_i (hk : txK k w) {i : Nat} (hi : i < w.length) (hl : w.length < 100) : px_sc kt_X (d + 12) [.int (Int32.ofNat i), .float k, .int x] h = some ([.int (w.getD i 0), .int x], h) := by
  show (bif (px_small [Value.int x] && (Nat.ble 12 (d + 12) && (Nat.blt k.toNat kt_X.1.length && !px_out (Int32.ofNat i) (kt_X.2.1.getD k.toNat 0)))) then some ([Value.int ((kt_X.2.2.1.getD k.toNat []).getD (Int32.ofNat i).toNatClampNeg 0), Value.int x], h) else none) = _
  rw [ble12, hk.1, hk.2.1, hk.2.2, nn_out (by omega) hi, nn_clamp (by omega)]; rfl
theorem drop_c {i : Nat} (hi : i < w.length) : w.drop i = w.getD i 0 :: w.drop (i + 1) := by
  rw [List.drop_eq_getElem_cons hi, List.getD_eq_getElem?_getD, List.getElem?_eq_getElem hi, Option.getD_some]
set_option maxHeartbeats 2000000 in
theorem iw_l (hk : txK k w) (hl : w.length < 100) (hn : n ≤ 600) {s : Nat} (h4 : r 4 = Int32.ofNat n) (h7 : r 7 = Int32.ofNat s) (hs : s + w.length ≤ n) : ∀ m i : Nat, i + m = w.length →
    bc (d + 12) M_X6_isWord none 28 [some (.ref 1), some (.float k), some (.int (Int32.ofNat i))] [] (hp t (hR g 1 r)) cn sn = some (.inl (some (.int (b01 (wrdB (g.1 2) (s + i) (w.drop i))))), hp t (hR g 1 r), cn, sn) := by
  intro m
  induction m with
  | zero =>
    intro i hi
    rw [List.drop_eq_nil_of_le (by omega), st_X6_isWord_28]
    simp (disch := omega) only [st_X6_isWord_29, st_X6_isWord_29t, st_X6_isWord_30, st_X6_isWord_33, st_X6_isWord_76, st_X6_isWord_77b, bP_some, sl_i hk, nn_lt, show ¬ i < w.length by omega, if_false, wrdB, b01, cond_true, Nat.reduceAdd]
  | succ m ih =>
    intro i hi
    rw [drop_c (by omega)]
    unfold wrdB
    rw [st_X6_isWord_28]
    by_cases hx : g.1 2 (s + i) = w.getD i 0
    · rw [if_pos hx, show s + i + 1 = s + (i + 1) by omega, ← ih (i + 1) (by omega)]
      simp (disch := omega) only [st_X6_isWord_29, st_X6_isWord_29t, st_X6_isWord_30, st_X6_isWord_33, st_X6_isWord_36, st_X6_isWord_36t, st_X6_isWord_37, st_X6_isWord_40, st_X6_isWord_41, st_X6_isWord_42, st_X6_isWord_42t, st_X6_isWord_43, st_X6_isWord_46, st_X6_isWord_49, st_X6_isWord_49t, st_X6_isWord_50, st_X6_isWord_53, st_X6_isWord_53t, st_X6_isWord_54, st_X6_isWord_57, st_X6_isWord_58, st_X6_isWord_59, st_X6_isWord_60, st_X6_isWord_60t, st_X6_isWord_61, st_X6_isWord_62, st_X6_isWord_65, st_X6_isWord_70, st_X6_isWord_73, bP_some, bM_some, sl_i hk, sc_i hk (show i < w.length by omega) hl, hg_1_0, hg_1_4, hg_1_7, ha_2, h1_1, h1_2, h4, h7, nn_add, nn_lt, show i < w.length by omega, show s + i < n by omega, if_true, nn_out, nn_clamp, cond_false, hx, lc_r, lc_f, lc_i, nn_r1, Nat.reduceAdd]
    · rw [if_neg hx]
      simp (disch := omega) only [st_X6_isWord_29, st_X6_isWord_29t, st_X6_isWord_30, st_X6_isWord_33, st_X6_isWord_36, st_X6_isWord_36t, st_X6_isWord_37, st_X6_isWord_40, st_X6_isWord_41, st_X6_isWord_42, st_X6_isWord_42t, st_X6_isWord_43, st_X6_isWord_46, st_X6_isWord_49, st_X6_isWord_49t, st_X6_isWord_50, st_X6_isWord_53, st_X6_isWord_53t, st_X6_isWord_54, st_X6_isWord_57, st_X6_isWord_58, st_X6_isWord_59, st_X6_isWord_60, st_X6_isWord_60t, st_X6_isWord_61, st_X6_isWord_62, st_X6_isWord_65, st_X6_isWord_68, st_X6_isWord_69, bP_some, bM_some, sl_i hk, sc_i hk (show i < w.length by omega) hl, hg_1_0, hg_1_4, hg_1_7, ha_2, h1_1, h1_2, h4, h7, nn_add, nn_lt, show i < w.length by omega, show s + i < n by omega, if_true, if_false, nn_out, nn_clamp, cond_false, hx, b01, Nat.reduceAdd]
set_option maxHeartbeats 2000000 in
theorem c_isWord (hk : txK k w) (hl : w.length < 100) (hW : WF (g.1 2) n σ) (hT : RT n σ r) : bc (d + 12) M_X6_isWord none 0 [some (.ref 1), some (.float k), none] [] (hp t (hR g 1 r)) cn sn = some (.inl (some (.int (b01 (pIsW (g.1 2) w σ)))), hp t (hR g 1 r), cn, sn) := by
  obtain ⟨t2, t4, t10, te, to⟩ := hT
  obtain ⟨hn, h5, hw⟩ := hW
  unfold pIsW
  by_cases h0 : σ.1 0 = 0
  · obtain ⟨o3, o5, o6, o7, o8, o9⟩ := to h0
    obtain ⟨w1, w2, w3, w4, w5, w6⟩ := hw h0
    have h35 : σ.1 3 ≤ 5 := by rw [w3]; exact sor_le
    have e3 : (Int32.ofNat (σ.1 3) = 1) = (σ.1 3 = 1) := nn_inj (b := 1) (by omega) (by omega)
    rw [decide_eq_true h0, Bool.true_and]
    by_cases h3 : σ.1 3 = 1
    · rw [decide_eq_true h3, Bool.true_and]
      have el : (Int32.ofNat (σ.1 4 - σ.1 2) = Int32.ofNat w.length) = (σ.1 4 - σ.1 2 = w.length) := nn_inj (by omega) (by omega)
      by_cases hlen : σ.1 4 - σ.1 2 = w.length
      · rw [decide_eq_true hlen, Bool.true_and]
        have e1 := iw_l (d := d) (t := t) (g := g) (r := r) (cn := cn) (sn := sn) hk hl hn t4 o7 (by omega) w.length 0 (by omega)
        rw [show Int32.ofNat 0 = (0 : Int32) from rfl, Nat.add_zero, List.drop_zero] at e1
        refine Eq.trans ?_ e1
        simp (disch := omega) only [st_X6_isWord_0, st_X6_isWord_0t, st_X6_isWord_1, st_X6_isWord_4, st_X6_isWord_5, st_X6_isWord_8, st_X6_isWord_8t, st_X6_isWord_9, st_X6_isWord_12, st_X6_isWord_12t, st_X6_isWord_13, st_X6_isWord_16, st_X6_isWord_17, st_X6_isWord_17t, st_X6_isWord_18, st_X6_isWord_21, st_X6_isWord_26, st_X6_isWord_27, bP_some, bM_some, sl_i hk, hg_1_6, hg_1_5, hg_1_7, h1_1, o5, o6, o7, e3.trans (eq_true h3), nn_sub, el.trans (eq_true hlen), if_true, lc_r, lc_f, lc_i, lc_n, Nat.reduceAdd]
      · rw [decide_eq_false hlen, Bool.false_and]
        simp (disch := omega) only [st_X6_isWord_0, st_X6_isWord_0t, st_X6_isWord_1, st_X6_isWord_4, st_X6_isWord_5, st_X6_isWord_8, st_X6_isWord_8t, st_X6_isWord_9, st_X6_isWord_12, st_X6_isWord_12t, st_X6_isWord_13, st_X6_isWord_16, st_X6_isWord_17, st_X6_isWord_17t, st_X6_isWord_18, st_X6_isWord_21, st_X6_isWord_24, st_X6_isWord_25, bP_some, bM_some, sl_i hk, hg_1_6, hg_1_5, hg_1_7, h1_1, o5, o6, o7, e3.trans (eq_true h3), nn_sub, el.trans (eq_false hlen), if_true, if_false, b01, cond_false, Nat.reduceAdd]
    · rw [decide_eq_false h3, Bool.false_and]
      simp (disch := omega) only [st_X6_isWord_0, st_X6_isWord_0t, st_X6_isWord_1, st_X6_isWord_4, st_X6_isWord_5, st_X6_isWord_24, st_X6_isWord_25, bM_some, hg_1_6, h1_1, o6, e3, h3, if_false, b01, cond_false, Nat.reduceAdd]
  · obtain ⟨e6, e3⟩ := te h0
    rw [decide_eq_false h0, Bool.false_and]
    simp (disch := omega) only [st_X6_isWord_0, st_X6_isWord_0t, st_X6_isWord_1, st_X6_isWord_4, st_X6_isWord_5, st_X6_isWord_24, st_X6_isWord_25, bM_some, hg_1_6, h1_1, e6, show ((0 : Int32) = 1) = False by decide, if_false, b01, cond_false, Nat.reduceAdd]
def wI : Option Nat → Int32
  | none => -1
  | some v => Int32.ofNat v
set_option maxHeartbeats 4000000 in
theorem c_kettleWord (hW : WF (g.1 2) n σ) (hT : RT n σ r) : bc (d + 13) M_X6_kettleWord none 0 [some (.ref 1)] [] (hp t (hR g 1 r)) cn sn = some (.inl (some (.int (wI (whW (g.1 2) σ wKin 0)))), hp t (hR g 1 r), cn, sn) := by
  have q0 := c_isWord (d := d) (t := t) (cn := 0) (sn := 0) tx_25 (by decide) hW hT
  have q1 := c_isWord (d := d) (t := t) (cn := 0) (sn := 0) tx_26 (by decide) hW hT
  have q2 := c_isWord (d := d) (t := t) (cn := 0) (sn := 0) tx_27 (by decide) hW hT
  have q3 := c_isWord (d := d) (t := t) (cn := 0) (sn := 0) tx_28 (by decide) hW hT
  have eW : whW (g.1 2) σ wKin 0 = (if pIsW (g.1 2) (wKin.getD 0 []) σ = true then some 0 else if pIsW (g.1 2) (wKin.getD 1 []) σ = true then some 1 else if pIsW (g.1 2) (wKin.getD 2 []) σ = true then some 2 else if pIsW (g.1 2) (wKin.getD 3 []) σ = true then some 3 else none) := rfl
  rw [eW]
  cases h0 : pIsW (g.1 2) (wKin.getD 0 []) σ with
  | true =>
    rw [h0] at q0
    simp only [st_X6_kettleWord_0, st_X6_kettleWord_1, st_X6_kettleWord_6, st_X6_kettleWord_9, st_X6_kettleWord_10, st_X6_kettleWord_3 (p := 1) hq_1 ps_, q0, b01, cond_true, nn_one0, if_false, if_true, bC_inl, Option.toList, List.cons_append, List.nil_append, Nat.add_zero, Nat.reduceAdd]
    rfl
  | false =>
    rw [h0] at q0
    cases h1 : pIsW (g.1 2) (wKin.getD 1 []) σ with
    | true =>
      rw [h1] at q1
      simp only [st_X6_kettleWord_0, st_X6_kettleWord_1, st_X6_kettleWord_6, st_X6_kettleWord_11, st_X6_kettleWord_12, st_X6_kettleWord_17, st_X6_kettleWord_20, st_X6_kettleWord_21, st_X6_kettleWord_3 (p := 1) hq_1 ps_, st_X6_kettleWord_14 (p := 1) hq_1 ps_, q0, q1, b01, cond_true, cond_false, nn_one0, if_false, if_true, Bool.false_eq_true, bC_inl, Option.toList, List.cons_append, List.nil_append, Nat.add_zero, Nat.reduceAdd]
      rfl
    | false =>
      rw [h1] at q1
      cases h2 : pIsW (g.1 2) (wKin.getD 2 []) σ with
      | true =>
        rw [h2] at q2
        simp only [st_X6_kettleWord_0, st_X6_kettleWord_1, st_X6_kettleWord_6, st_X6_kettleWord_11, st_X6_kettleWord_12, st_X6_kettleWord_17, st_X6_kettleWord_22, st_X6_kettleWord_23, st_X6_kettleWord_28, st_X6_kettleWord_31, st_X6_kettleWord_32, st_X6_kettleWord_3 (p := 1) hq_1 ps_, st_X6_kettleWord_14 (p := 1) hq_1 ps_, st_X6_kettleWord_25 (p := 1) hq_1 ps_, q0, q1, q2, b01, cond_true, cond_false, nn_one0, if_false, if_true, Bool.false_eq_true, bC_inl, Option.toList, List.cons_append, List.nil_append, Nat.add_zero, Nat.reduceAdd]
        rfl
      | false =>
        rw [h2] at q2
        cases h3 : pIsW (g.1 2) (wKin.getD 3 []) σ with
        | true =>
          rw [h3] at q3
          simp only [st_X6_kettleWord_0, st_X6_kettleWord_1, st_X6_kettleWord_6, st_X6_kettleWord_11, st_X6_kettleWord_12, st_X6_kettleWord_17, st_X6_kettleWord_22, st_X6_kettleWord_23, st_X6_kettleWord_28, st_X6_kettleWord_33, st_X6_kettleWord_34, st_X6_kettleWord_39, st_X6_kettleWord_42, st_X6_kettleWord_43, st_X6_kettleWord_47, st_X6_kettleWord_3 (p := 1) hq_1 ps_, st_X6_kettleWord_14 (p := 1) hq_1 ps_, st_X6_kettleWord_25 (p := 1) hq_1 ps_, st_X6_kettleWord_36 (p := 1) hq_1 ps_, q0, q1, q2, q3, b01, cond_true, cond_false, nn_one0, if_false, if_true, Bool.false_eq_true, bC_inl, Option.toList, List.cons_append, List.nil_append, Nat.add_zero, Nat.reduceAdd]
          rfl
        | false =>
          rw [h3] at q3
          simp only [st_X6_kettleWord_0, st_X6_kettleWord_1, st_X6_kettleWord_6, st_X6_kettleWord_11, st_X6_kettleWord_12, st_X6_kettleWord_17, st_X6_kettleWord_22, st_X6_kettleWord_23, st_X6_kettleWord_28, st_X6_kettleWord_33, st_X6_kettleWord_34, st_X6_kettleWord_39, st_X6_kettleWord_46, st_X6_kettleWord_47, st_X6_kettleWord_3 (p := 1) hq_1 ps_, st_X6_kettleWord_14 (p := 1) hq_1 ps_, st_X6_kettleWord_25 (p := 1) hq_1 ps_, st_X6_kettleWord_36 (p := 1) hq_1 ps_, q0, q1, q2, q3, b01, cond_false, if_false, if_true, Bool.false_eq_true, bC_inl, Option.toList, List.cons_append, List.nil_append, Nat.add_zero, Nat.reduceAdd]
          rfl
set_option maxHeartbeats 8000000 in
theorem c_valueWord (hW : WF (g.1 2) n σ) (hT : RT n σ r) : bc (d + 13) M_X6_valueWord none 0 [some (.ref 1)] [] (hp t (hR g 1 r)) cn sn = some (.inl (some (.int (wI (whW (g.1 2) σ wVal 0)))), hp t (hR g 1 r), cn, sn) := by
  have q0 := c_isWord (d := d) (t := t) (cn := 0) (sn := 0) tx_29 (by decide) hW hT
  have q1 := c_isWord (d := d) (t := t) (cn := 0) (sn := 0) tx_30 (by decide) hW hT
  have q2 := c_isWord (d := d) (t := t) (cn := 0) (sn := 0) tx_31 (by decide) hW hT
  have q3 := c_isWord (d := d) (t := t) (cn := 0) (sn := 0) tx_32 (by decide) hW hT
  have q4 := c_isWord (d := d) (t := t) (cn := 0) (sn := 0) tx_33 (by decide) hW hT
  have q5 := c_isWord (d := d) (t := t) (cn := 0) (sn := 0) tx_34 (by decide) hW hT
  have q6 := c_isWord (d := d) (t := t) (cn := 0) (sn := 0) tx_35 (by decide) hW hT
  have eW : whW (g.1 2) σ wVal 0 = (if pIsW (g.1 2) (wVal.getD 0 []) σ = true then some 0 else if pIsW (g.1 2) (wVal.getD 1 []) σ = true then some 1 else if pIsW (g.1 2) (wVal.getD 2 []) σ = true then some 2 else if pIsW (g.1 2) (wVal.getD 3 []) σ = true then some 3 else if pIsW (g.1 2) (wVal.getD 4 []) σ = true then some 4 else if pIsW (g.1 2) (wVal.getD 5 []) σ = true then some 5 else if pIsW (g.1 2) (wVal.getD 6 []) σ = true then some 6 else none) := rfl
  rw [eW]
  generalize pIsW (g.1 2) (wVal.getD 0 []) σ = z0 at *
  generalize pIsW (g.1 2) (wVal.getD 1 []) σ = z1 at *
  generalize pIsW (g.1 2) (wVal.getD 2 []) σ = z2 at *
  generalize pIsW (g.1 2) (wVal.getD 3 []) σ = z3 at *
  generalize pIsW (g.1 2) (wVal.getD 4 []) σ = z4 at *
  generalize pIsW (g.1 2) (wVal.getD 5 []) σ = z5 at *
  generalize pIsW (g.1 2) (wVal.getD 6 []) σ = z6 at *
  cases z0
  · cases z1
    · cases z2
      · cases z3
        · cases z4
          · cases z5
            · cases z6
              · simp only [st_X6_valueWord_0, st_X6_valueWord_1, st_X6_valueWord_6, st_X6_valueWord_9, st_X6_valueWord_10, st_X6_valueWord_11, st_X6_valueWord_12, st_X6_valueWord_17, st_X6_valueWord_20, st_X6_valueWord_21, st_X6_valueWord_22, st_X6_valueWord_23, st_X6_valueWord_28, st_X6_valueWord_31, st_X6_valueWord_32, st_X6_valueWord_33, st_X6_valueWord_34, st_X6_valueWord_39, st_X6_valueWord_42, st_X6_valueWord_43, st_X6_valueWord_44, st_X6_valueWord_45, st_X6_valueWord_50, st_X6_valueWord_53, st_X6_valueWord_54, st_X6_valueWord_55, st_X6_valueWord_56, st_X6_valueWord_61, st_X6_valueWord_64, st_X6_valueWord_65, st_X6_valueWord_66, st_X6_valueWord_67, st_X6_valueWord_72, st_X6_valueWord_75, st_X6_valueWord_77, st_X6_valueWord_80, st_X6_valueWord_81, st_X6_valueWord_3 (p := 1) hq_1 ps_, st_X6_valueWord_14 (p := 1) hq_1 ps_, st_X6_valueWord_25 (p := 1) hq_1 ps_, st_X6_valueWord_36 (p := 1) hq_1 ps_, st_X6_valueWord_47 (p := 1) hq_1 ps_, st_X6_valueWord_58 (p := 1) hq_1 ps_, st_X6_valueWord_69 (p := 1) hq_1 ps_, q0, q1, q2, q3, q4, q5, q6, b01, cond_true, cond_false, nn_one0, if_false, if_true, Bool.false_eq_true, bC_inl, Option.toList, List.cons_append, List.nil_append, Nat.add_zero, Nat.reduceAdd]; rfl
              · simp only [st_X6_valueWord_0, st_X6_valueWord_1, st_X6_valueWord_6, st_X6_valueWord_9, st_X6_valueWord_10, st_X6_valueWord_11, st_X6_valueWord_12, st_X6_valueWord_17, st_X6_valueWord_20, st_X6_valueWord_21, st_X6_valueWord_22, st_X6_valueWord_23, st_X6_valueWord_28, st_X6_valueWord_31, st_X6_valueWord_32, st_X6_valueWord_33, st_X6_valueWord_34, st_X6_valueWord_39, st_X6_valueWord_42, st_X6_valueWord_43, st_X6_valueWord_44, st_X6_valueWord_45, st_X6_valueWord_50, st_X6_valueWord_53, st_X6_valueWord_54, st_X6_valueWord_55, st_X6_valueWord_56, st_X6_valueWord_61, st_X6_valueWord_64, st_X6_valueWord_65, st_X6_valueWord_66, st_X6_valueWord_67, st_X6_valueWord_72, st_X6_valueWord_75, st_X6_valueWord_77, st_X6_valueWord_80, st_X6_valueWord_81, st_X6_valueWord_3 (p := 1) hq_1 ps_, st_X6_valueWord_14 (p := 1) hq_1 ps_, st_X6_valueWord_25 (p := 1) hq_1 ps_, st_X6_valueWord_36 (p := 1) hq_1 ps_, st_X6_valueWord_47 (p := 1) hq_1 ps_, st_X6_valueWord_58 (p := 1) hq_1 ps_, st_X6_valueWord_69 (p := 1) hq_1 ps_, q0, q1, q2, q3, q4, q5, q6, b01, cond_true, cond_false, nn_one0, if_false, if_true, Bool.false_eq_true, bC_inl, Option.toList, List.cons_append, List.nil_append, Nat.add_zero, Nat.reduceAdd]; rfl
            · simp only [st_X6_valueWord_0, st_X6_valueWord_1, st_X6_valueWord_6, st_X6_valueWord_9, st_X6_valueWord_10, st_X6_valueWord_11, st_X6_valueWord_12, st_X6_valueWord_17, st_X6_valueWord_20, st_X6_valueWord_21, st_X6_valueWord_22, st_X6_valueWord_23, st_X6_valueWord_28, st_X6_valueWord_31, st_X6_valueWord_32, st_X6_valueWord_33, st_X6_valueWord_34, st_X6_valueWord_39, st_X6_valueWord_42, st_X6_valueWord_43, st_X6_valueWord_44, st_X6_valueWord_45, st_X6_valueWord_50, st_X6_valueWord_53, st_X6_valueWord_54, st_X6_valueWord_55, st_X6_valueWord_56, st_X6_valueWord_61, st_X6_valueWord_64, st_X6_valueWord_65, st_X6_valueWord_66, st_X6_valueWord_67, st_X6_valueWord_72, st_X6_valueWord_75, st_X6_valueWord_77, st_X6_valueWord_80, st_X6_valueWord_81, st_X6_valueWord_3 (p := 1) hq_1 ps_, st_X6_valueWord_14 (p := 1) hq_1 ps_, st_X6_valueWord_25 (p := 1) hq_1 ps_, st_X6_valueWord_36 (p := 1) hq_1 ps_, st_X6_valueWord_47 (p := 1) hq_1 ps_, st_X6_valueWord_58 (p := 1) hq_1 ps_, st_X6_valueWord_69 (p := 1) hq_1 ps_, q0, q1, q2, q3, q4, q5, q6, b01, cond_true, cond_false, nn_one0, if_false, if_true, Bool.false_eq_true, bC_inl, Option.toList, List.cons_append, List.nil_append, Nat.add_zero, Nat.reduceAdd]; rfl
          · simp only [st_X6_valueWord_0, st_X6_valueWord_1, st_X6_valueWord_6, st_X6_valueWord_9, st_X6_valueWord_10, st_X6_valueWord_11, st_X6_valueWord_12, st_X6_valueWord_17, st_X6_valueWord_20, st_X6_valueWord_21, st_X6_valueWord_22, st_X6_valueWord_23, st_X6_valueWord_28, st_X6_valueWord_31, st_X6_valueWord_32, st_X6_valueWord_33, st_X6_valueWord_34, st_X6_valueWord_39, st_X6_valueWord_42, st_X6_valueWord_43, st_X6_valueWord_44, st_X6_valueWord_45, st_X6_valueWord_50, st_X6_valueWord_53, st_X6_valueWord_54, st_X6_valueWord_55, st_X6_valueWord_56, st_X6_valueWord_61, st_X6_valueWord_64, st_X6_valueWord_65, st_X6_valueWord_66, st_X6_valueWord_67, st_X6_valueWord_72, st_X6_valueWord_75, st_X6_valueWord_77, st_X6_valueWord_80, st_X6_valueWord_81, st_X6_valueWord_3 (p := 1) hq_1 ps_, st_X6_valueWord_14 (p := 1) hq_1 ps_, st_X6_valueWord_25 (p := 1) hq_1 ps_, st_X6_valueWord_36 (p := 1) hq_1 ps_, st_X6_valueWord_47 (p := 1) hq_1 ps_, st_X6_valueWord_58 (p := 1) hq_1 ps_, st_X6_valueWord_69 (p := 1) hq_1 ps_, q0, q1, q2, q3, q4, q5, q6, b01, cond_true, cond_false, nn_one0, if_false, if_true, Bool.false_eq_true, bC_inl, Option.toList, List.cons_append, List.nil_append, Nat.add_zero, Nat.reduceAdd]; rfl
        · simp only [st_X6_valueWord_0, st_X6_valueWord_1, st_X6_valueWord_6, st_X6_valueWord_9, st_X6_valueWord_10, st_X6_valueWord_11, st_X6_valueWord_12, st_X6_valueWord_17, st_X6_valueWord_20, st_X6_valueWord_21, st_X6_valueWord_22, st_X6_valueWord_23, st_X6_valueWord_28, st_X6_valueWord_31, st_X6_valueWord_32, st_X6_valueWord_33, st_X6_valueWord_34, st_X6_valueWord_39, st_X6_valueWord_42, st_X6_valueWord_43, st_X6_valueWord_44, st_X6_valueWord_45, st_X6_valueWord_50, st_X6_valueWord_53, st_X6_valueWord_54, st_X6_valueWord_55, st_X6_valueWord_56, st_X6_valueWord_61, st_X6_valueWord_64, st_X6_valueWord_65, st_X6_valueWord_66, st_X6_valueWord_67, st_X6_valueWord_72, st_X6_valueWord_75, st_X6_valueWord_77, st_X6_valueWord_80, st_X6_valueWord_81, st_X6_valueWord_3 (p := 1) hq_1 ps_, st_X6_valueWord_14 (p := 1) hq_1 ps_, st_X6_valueWord_25 (p := 1) hq_1 ps_, st_X6_valueWord_36 (p := 1) hq_1 ps_, st_X6_valueWord_47 (p := 1) hq_1 ps_, st_X6_valueWord_58 (p := 1) hq_1 ps_, st_X6_valueWord_69 (p := 1) hq_1 ps_, q0, q1, q2, q3, q4, q5, q6, b01, cond_true, cond_false, nn_one0, if_false, if_true, Bool.false_eq_true, bC_inl, Option.toList, List.cons_append, List.nil_append, Nat.add_zero, Nat.reduceAdd]; rfl
      · simp only [st_X6_valueWord_0, st_X6_valueWord_1, st_X6_valueWord_6, st_X6_valueWord_9, st_X6_valueWord_10, st_X6_valueWord_11, st_X6_valueWord_12, st_X6_valueWord_17, st_X6_valueWord_20, st_X6_valueWord_21, st_X6_valueWord_22, st_X6_valueWord_23, st_X6_valueWord_28, st_X6_valueWord_31, st_X6_valueWord_32, st_X6_valueWord_33, st_X6_valueWord_34, st_X6_valueWord_39, st_X6_valueWord_42, st_X6_valueWord_43, st_X6_valueWord_44, st_X6_valueWord_45, st_X6_valueWord_50, st_X6_valueWord_53, st_X6_valueWord_54, st_X6_valueWord_55, st_X6_valueWord_56, st_X6_valueWord_61, st_X6_valueWord_64, st_X6_valueWord_65, st_X6_valueWord_66, st_X6_valueWord_67, st_X6_valueWord_72, st_X6_valueWord_75, st_X6_valueWord_77, st_X6_valueWord_80, st_X6_valueWord_81, st_X6_valueWord_3 (p := 1) hq_1 ps_, st_X6_valueWord_14 (p := 1) hq_1 ps_, st_X6_valueWord_25 (p := 1) hq_1 ps_, st_X6_valueWord_36 (p := 1) hq_1 ps_, st_X6_valueWord_47 (p := 1) hq_1 ps_, st_X6_valueWord_58 (p := 1) hq_1 ps_, st_X6_valueWord_69 (p := 1) hq_1 ps_, q0, q1, q2, q3, q4, q5, q6, b01, cond_true, cond_false, nn_one0, if_false, if_true, Bool.false_eq_true, bC_inl, Option.toList, List.cons_append, List.nil_append, Nat.add_zero, Nat.reduceAdd]; rfl
    · simp only [st_X6_valueWord_0, st_X6_valueWord_1, st_X6_valueWord_6, st_X6_valueWord_9, st_X6_valueWord_10, st_X6_valueWord_11, st_X6_valueWord_12, st_X6_valueWord_17, st_X6_valueWord_20, st_X6_valueWord_21, st_X6_valueWord_22, st_X6_valueWord_23, st_X6_valueWord_28, st_X6_valueWord_31, st_X6_valueWord_32, st_X6_valueWord_33, st_X6_valueWord_34, st_X6_valueWord_39, st_X6_valueWord_42, st_X6_valueWord_43, st_X6_valueWord_44, st_X6_valueWord_45, st_X6_valueWord_50, st_X6_valueWord_53, st_X6_valueWord_54, st_X6_valueWord_55, st_X6_valueWord_56, st_X6_valueWord_61, st_X6_valueWord_64, st_X6_valueWord_65, st_X6_valueWord_66, st_X6_valueWord_67, st_X6_valueWord_72, st_X6_valueWord_75, st_X6_valueWord_77, st_X6_valueWord_80, st_X6_valueWord_81, st_X6_valueWord_3 (p := 1) hq_1 ps_, st_X6_valueWord_14 (p := 1) hq_1 ps_, st_X6_valueWord_25 (p := 1) hq_1 ps_, st_X6_valueWord_36 (p := 1) hq_1 ps_, st_X6_valueWord_47 (p := 1) hq_1 ps_, st_X6_valueWord_58 (p := 1) hq_1 ps_, st_X6_valueWord_69 (p := 1) hq_1 ps_, q0, q1, q2, q3, q4, q5, q6, b01, cond_true, cond_false, nn_one0, if_false, if_true, Bool.false_eq_true, bC_inl, Option.toList, List.cons_append, List.nil_append, Nat.add_zero, Nat.reduceAdd]; rfl
  · simp only [st_X6_valueWord_0, st_X6_valueWord_1, st_X6_valueWord_6, st_X6_valueWord_9, st_X6_valueWord_10, st_X6_valueWord_11, st_X6_valueWord_12, st_X6_valueWord_17, st_X6_valueWord_20, st_X6_valueWord_21, st_X6_valueWord_22, st_X6_valueWord_23, st_X6_valueWord_28, st_X6_valueWord_31, st_X6_valueWord_32, st_X6_valueWord_33, st_X6_valueWord_34, st_X6_valueWord_39, st_X6_valueWord_42, st_X6_valueWord_43, st_X6_valueWord_44, st_X6_valueWord_45, st_X6_valueWord_50, st_X6_valueWord_53, st_X6_valueWord_54, st_X6_valueWord_55, st_X6_valueWord_56, st_X6_valueWord_61, st_X6_valueWord_64, st_X6_valueWord_65, st_X6_valueWord_66, st_X6_valueWord_67, st_X6_valueWord_72, st_X6_valueWord_75, st_X6_valueWord_77, st_X6_valueWord_80, st_X6_valueWord_81, st_X6_valueWord_3 (p := 1) hq_1 ps_, st_X6_valueWord_14 (p := 1) hq_1 ps_, st_X6_valueWord_25 (p := 1) hq_1 ps_, st_X6_valueWord_36 (p := 1) hq_1 ps_, st_X6_valueWord_47 (p := 1) hq_1 ps_, st_X6_valueWord_58 (p := 1) hq_1 ps_, st_X6_valueWord_69 (p := 1) hq_1 ps_, q0, q1, q2, q3, q4, q5, q6, b01, cond_true, cond_false, nn_one0, if_false, if_true, Bool.false_eq_true, bC_inl, Option.toList, List.cons_append, List.nil_append, Nat.add_zero, Nat.reduceAdd]; rfl
theorem whW_lt {v : Nat} : ∀ (l : List (List Int32)) (i : Nat), whW b σ l i = some v → v < i + l.length := by
  intro l
  induction l with
  | nil => intro i h; cases h
  | cons w l ih =>
    intro i h
    unfold whW at h
    split at h
    · cases h; rw [List.length_cons]; omega
    · have := ih (i + 1) h; rw [List.length_cons]; omega
end READ4
