/-! ===== the reference: words, numbers, signs laid ===== -/
def asc (w : List Int32) : Prop := ∀ c, c ∈ w → 0 ≤ c.toInt ∧ c.toInt < 128
def RMd (σ : Sg) (g : hG) : Prop := σ.1 0 = 0 → (g.1 52 4 = Int32.ofNat (σ.1 6) ∧ g.1 52 5 = Int32.ofNat (σ.1 7) ∧ g.1 52 6 = Int32.ofNat (σ.1 8) ∧ g.1 52 7 = Int32.ofNat (σ.1 9)) ∧ (∀ j, j < σ.1 6 → g.1 53 (8 + j) = σ.2 0 j ∧ g.1 54 (8 + j) = σ.2 1 j ∧ g.1 55 (8 + j) = σ.2 2 j ∧ g.1 56 (8 + j) = σ.2 3 j ∧ g.1 57 (8 + j) = σ.2 4 j) ∧ (∀ j, j < σ.1 7 → g.1 58 (4 + j) = σ.2 5 j) ∧ (∀ j, j < σ.1 8 → g.1 59 (5 + j) = σ.2 6 j ∧ ∀ i, i < 3 → i < stpN j σ → g.1 60 (3 * (5 + j) + i) = σ.2 7 (j * 3 + i)) ∧ (∀ i, i < σ.1 9 → g.1 61 (600 + i) = encM (σ.2 8 i))
def GI (σ : Sg) : Prop := σ.1 0 = 0 → σ.1 9 ≤ σ.1 2
def MR (b : Rw) (n : Nat) (q : Rw) (σ : Sg) (g : hG) : Prop := tapeR n b (g.1 63) ∧ WF b n σ ∧ RN n q σ (g.1 49) ∧ RMd σ g ∧ WD σ ∧ GI σ
/-- nothing but the reader's cells, and of the kitchen's only the halves that are read into, are touched (49 apart) -/
def SmM (g g' : hG) : Prop := g'.2 = g.2 ∧ (∀ c, ¬ c = 49 → (c < 52 ∨ 61 < c) → g'.1 c = g.1 c) ∧ (∀ j, j < 4 → g'.1 52 j = g.1 52 j ∧ g'.1 58 j = g.1 58 j) ∧ (∀ j, j < 8 → g'.1 53 j = g.1 53 j ∧ g'.1 54 j = g.1 54 j ∧ g'.1 55 j = g.1 55 j ∧ g'.1 56 j = g.1 56 j ∧ g'.1 57 j = g.1 57 j) ∧ (∀ j, j < 5 → g'.1 59 j = g.1 59 j) ∧ (∀ j, j < 15 → g'.1 60 j = g.1 60 j) ∧ (∀ j, j < 600 → g'.1 61 j = g.1 61 j)
theorem SmM.refl {g : hG} : SmM g g := ⟨rfl, fun _ _ _ => rfl, fun _ _ => ⟨rfl, rfl⟩, fun _ _ => ⟨rfl, rfl, rfl, rfl, rfl⟩, fun _ _ => rfl, fun _ _ => rfl, fun _ _ => rfl⟩
theorem SmM.trans {g g' g'' : hG} (h : SmM g g') (h' : SmM g' g'') : SmM g g'' := by
  obtain ⟨a1, a2, a3, a4, a5, a6, a7⟩ := h
  obtain ⟨b1, b2, b3, b4, b5, b6, b7⟩ := h'
  refine ⟨b1.trans a1, fun c h1 h2 => (b2 c h1 h2).trans (a2 c h1 h2), fun j hj => ⟨(b3 j hj).1.trans (a3 j hj).1, (b3 j hj).2.trans (a3 j hj).2⟩, fun j hj => ?_, fun j hj => (b5 j hj).trans (a5 j hj), fun j hj => (b6 j hj).trans (a6 j hj), fun j hj => (b7 j hj).trans (a7 j hj)⟩
  obtain ⟨p1, p2, p3, p4, p5⟩ := a4 j hj
  obtain ⟨q1, q2, q3, q4, q5⟩ := b4 j hj
  exact ⟨q1.trans p1, q2.trans p2, q3.trans p3, q4.trans p4, q5.trans p5⟩
theorem SmM_r {g : hG} {f : Rw} : SmM g (hR g 49 f) := ⟨rfl, fun c h1 _ => by rw [hR_oth h1], fun _ _ => ⟨rfl, rfl⟩, fun _ _ => ⟨rfl, rfl, rfl, rfl, rfl⟩, fun _ _ => rfl, fun _ _ => rfl, fun _ _ => rfl⟩
/-- one int of the halves that are read into -/
theorem SmM_i {g : hG} {c i : Nat} {x : Int32} (h : (c = 52 ∧ 4 ≤ i) ∨ (53 ≤ c ∧ c ≤ 57 ∧ 8 ≤ i) ∨ (c = 58 ∧ 4 ≤ i) ∨ (c = 59 ∧ 5 ≤ i) ∨ (c = 60 ∧ 15 ≤ i) ∨ (c = 61 ∧ 600 ≤ i)) : SmM g (hI g c i x) := by
  have o : ∀ c' j, ¬ (c' = c ∧ j = i) → (hI g c i x).1 c' j = g.1 c' j := fun c' j hh => by rw [hI_at, if_neg hh]
  refine ⟨rfl, fun c' h1 h2 => funext fun j => o c' j (by omega), fun j hj => ⟨o _ _ (by omega), o _ _ (by omega)⟩, fun j hj => ⟨o _ _ (by omega), o _ _ (by omega), o _ _ (by omega), o _ _ (by omega), o _ _ (by omega)⟩, fun j hj => o _ _ (by omega), fun j hj => o _ _ (by omega), fun j hj => o _ _ (by omega)⟩
section MREAD
variable {d : Nat} {t : List px_E} {g : hG} {n cn sn : Nat} {b r q : Rw} {x : Int32} {σ σ' : Sg} {k : UInt32} {w : List Int32} {lo hi c : Nat}
set_option maxHeartbeats 4000000 in
theorem mi_l (hT : tapeR n b (g.1 63)) (hk : txK k w) (hl : w.length < 100) (ha : asc w) (hn : n ≤ 600) {s : Nat} (h20 : r 20 = Int32.ofNat s) (hs : s + w.length ≤ n) : ∀ m i : Nat, i + m = w.length → ∀ z : Bool,
    bc (d + 12) M_X10_is none 39 [some (.ref 49), some (.float k), some (.int (b01 z)), some (.int (Int32.ofNat i))] [] (hp t (hR g 49 r)) cn sn = some (.inl (some (.int (b01 (z && wrdB b (s + i) (w.drop i))))), hp t (hR g 49 r), cn, sn) := by
  intro m
  induction m with
  | zero =>
    intro i hi z
    rw [List.drop_eq_nil_of_le (by omega), st_X10_is_39]
    cases z with
    | false => simp (disch := omega) only [st_X10_is_40, st_X10_is_82, st_X10_is_83, b01, cond_false, if_true, Bool.false_and, Nat.reduceAdd]
    | true => simp (disch := omega) only [st_X10_is_40, st_X10_is_43, st_X10_is_44, st_X10_is_44t, st_X10_is_45, st_X10_is_48, st_X10_is_82, st_X10_is_83b, bP_some, sl_i hk, nn_lt, show ¬ i < w.length by omega, b01, cond_true, nn_one0, if_false, wrdB, Bool.true_and, Nat.reduceAdd]
  | succ m ih =>
    intro i hi z
    rw [drop_c (by omega)]
    unfold wrdB
    rw [st_X10_is_39]
    cases z with
    | false => simp (disch := omega) only [st_X10_is_40, st_X10_is_82, st_X10_is_83, b01, cond_false, if_true, Bool.false_and, Nat.reduceAdd]
    | true =>
      have hmem : w.getD i 0 ∈ w := by
        rw [List.getD_eq_getElem?_getD, List.getElem?_eq_getElem (by omega), Option.getD_some]
        exact List.getElem_mem _
      have hc := ha _ hmem
      have hbr := (byte_srt (hT (s + i) (by omega))).2.1 (w.getD i 0) hc.1 hc.2
      by_cases hx : b (s + i) = w.getD i 0
      · have e' := ih (i + 1) (by omega) true
        rw [if_pos hx, show s + i + 1 = s + (i + 1) by omega]
        rw [← e']
        have hx' : (w.getD i 0 = g.1 63 (s + i)) = True := eq_true (hbr.mpr hx).symm
        simp (disch := omega) only [st_X10_is_40, st_X10_is_43, st_X10_is_44, st_X10_is_44t, st_X10_is_45, st_X10_is_48, st_X10_is_51, st_X10_is_51t, st_X10_is_52, st_X10_is_53, st_X10_is_56, st_X10_is_56t, st_X10_is_57, st_X10_is_60, st_X10_is_60t, st_X10_is_61, st_X10_is_64, st_X10_is_65, st_X10_is_66, st_X10_is_67, st_X10_is_70, st_X10_is_71, st_X10_is_75, st_X10_is_76, st_X10_is_79, bP_some, bM_some, sl_i hk, sc_0 hk (show i < w.length by omega) hl, hg_49_14, hg_49_20, ha_63, m49_1, m49_63, h20, nn_add, nn_lt, show i < w.length by omega, b01, cond_true, nn_one0, if_false, if_true, nn_out, nn_clamp, cond_false, hx', lc_r, lc_f, lc_i, nn_r1, Nat.reduceAdd]
      · have e' := ih (i + 1) (by omega) false
        rw [if_neg hx]
        rw [Bool.false_and] at e'
        rw [Bool.and_false, ← e']
        have hx' : (w.getD i 0 = g.1 63 (s + i)) = False := eq_false (fun y => hx (hbr.mp y.symm))
        simp (disch := omega) only [st_X10_is_40, st_X10_is_43, st_X10_is_44, st_X10_is_44t, st_X10_is_45, st_X10_is_48, st_X10_is_51, st_X10_is_51t, st_X10_is_52, st_X10_is_53, st_X10_is_56, st_X10_is_56t, st_X10_is_57, st_X10_is_60, st_X10_is_60t, st_X10_is_61, st_X10_is_64, st_X10_is_65, st_X10_is_66, st_X10_is_67, st_X10_is_74, st_X10_is_75, st_X10_is_76, st_X10_is_79, bP_some, bM_some, sl_i hk, sc_0 hk (show i < w.length by omega) hl, hg_49_14, hg_49_20, ha_63, m49_1, m49_63, h20, nn_add, nn_lt, show i < w.length by omega, b01, cond_true, nn_one0, if_false, if_true, nn_out, nn_clamp, cond_false, hx', lc_r, lc_f, lc_i, nn_r1, Nat.reduceAdd]
theorem tok_m {s3 e : Nat} (h : s3 ≤ 5) (he : e = 1 ∨ e = 2 ∨ e = 3 ∨ e = 0) : (Int32.ofNat (if s3 = 5 then 4 else s3) = Int32.ofNat e) = (s3 = e) := by
  rw [nn_inj (by split <;> omega) (by omega)]
  apply propext
  constructor
  · intro z; split at z <;> omega
  · intro z; rw [if_neg (by omega)]; exact z
set_option maxHeartbeats 4000000 in
theorem m_is (hT : tapeR n b (g.1 63)) (hk : txK k w) (hl : w.length < 100) (ha : asc w) (hW : WF b n σ) (hN : RN n q σ r) : bc (d + 12) M_X10_is none 0 [some (.ref 49), some (.float k), none, none] [] (hp t (hR g 49 r)) cn sn = some (.inl (some (.int (b01 (pIsW b w σ)))), hp t (hR g 49 r), cn, sn) := by
  obtain ⟨a1, a2, a3, a4, a5⟩ := hN
  obtain ⟨hn, h5, hw⟩ := hW
  unfold pIsW
  have fin : ∀ R : Rw, bc (d + 12) M_X10_is none 39 [some (.ref 49), some (.float k), some (.int 0), some (.int 0)] [] (hp t (hR g 49 R)) cn sn = some (.inl (some (.int 0)), hp t (hR g 49 R), cn, sn) := by
    intro R
    rw [st_X10_is_39]
    simp (disch := omega) only [st_X10_is_40, st_X10_is_82, st_X10_is_83, if_true, Nat.reduceAdd]
  by_cases h0 : σ.1 0 = 0
  · obtain ⟨o16, o21, o20, o18, o19⟩ := a4 h0
    obtain ⟨w1, w2, w3, w4, w5, w6⟩ := hw h0
    have h35 : σ.1 3 ≤ 5 := by rw [w3]; exact sor_le
    have e3 : (Int32.ofNat (if σ.1 3 = 5 then 4 else σ.1 3) = 1) = (σ.1 3 = 1) := tok_m (e := 1) h35 (by omega)
    rw [decide_eq_true h0, Bool.true_and]
    by_cases h3 : σ.1 3 = 1
    · rw [decide_eq_true h3, Bool.true_and]
      have el : (Int32.ofNat w.length = Int32.ofNat (σ.1 4 - σ.1 2)) = (w.length = σ.1 4 - σ.1 2) := nn_inj (by omega) (by omega)
      by_cases hlen : σ.1 4 - σ.1 2 = w.length
      · rw [decide_eq_true hlen, Bool.true_and]
        have e1 := mi_l (d := d) (t := t) (g := g) (r := r) (cn := cn) (sn := sn) hT hk hl ha hn o20 (by omega) w.length 0 (by omega) true
        rw [show Int32.ofNat 0 = (0 : Int32) from rfl, Nat.add_zero, List.drop_zero, Bool.true_and, show b01 true = 1 from rfl] at e1
        refine Eq.trans ?_ e1
        simp (disch := omega) only [st_X10_is_0, st_X10_is_0t, st_X10_is_1, st_X10_is_4, st_X10_is_7, st_X10_is_7t, st_X10_is_8, st_X10_is_11, st_X10_is_12, st_X10_is_15, st_X10_is_15t, st_X10_is_16, st_X10_is_19, st_X10_is_19t, st_X10_is_20, st_X10_is_23, st_X10_is_23t, st_X10_is_24, st_X10_is_27, st_X10_is_28, st_X10_is_31, st_X10_is_32, st_X10_is_36, st_X10_is_37, st_X10_is_38, bP_some, bM_some, sl_0 hk, hg_49_22, hg_49_18, hg_49_21, hg_49_20, m49_1, a2, h0, show (Int32.ofNat 0 = 0) = True from eq_true rfl, o18, o20, o21, e3.trans (eq_true h3), nn_sub, el.trans (eq_true hlen.symm), if_true, lc_r, lc_f, lc_i, lc_n, Nat.reduceAdd]
      · rw [decide_eq_false hlen, Bool.false_and]
        refine Eq.trans ?_ (fin r)
        simp (disch := omega) only [st_X10_is_0, st_X10_is_0t, st_X10_is_1, st_X10_is_4, st_X10_is_7, st_X10_is_7t, st_X10_is_8, st_X10_is_11, st_X10_is_12, st_X10_is_15, st_X10_is_15t, st_X10_is_16, st_X10_is_19, st_X10_is_19t, st_X10_is_20, st_X10_is_23, st_X10_is_23t, st_X10_is_24, st_X10_is_27, st_X10_is_28, st_X10_is_35, st_X10_is_36, st_X10_is_37, st_X10_is_38, bP_some, bM_some, sl_0 hk, hg_49_22, hg_49_18, hg_49_21, hg_49_20, m49_1, a2, h0, show (Int32.ofNat 0 = 0) = True from eq_true rfl, o18, o20, o21, e3.trans (eq_true h3), nn_sub, el.trans (eq_false (fun z => hlen z.symm)), if_true, if_false, lc_r, lc_f, lc_i, lc_n, Nat.reduceAdd]
    · rw [decide_eq_false h3, Bool.false_and]
      refine Eq.trans ?_ (fin r)
      simp (disch := omega) only [st_X10_is_0, st_X10_is_0t, st_X10_is_1, st_X10_is_4, st_X10_is_7, st_X10_is_7t, st_X10_is_8, st_X10_is_11, st_X10_is_12, st_X10_is_35, st_X10_is_36, st_X10_is_37, st_X10_is_38, bM_some, hg_49_22, hg_49_18, m49_1, a2, h0, show (Int32.ofNat 0 = 0) = True from eq_true rfl, o18, e3.trans (eq_false h3), if_true, if_false, lc_r, lc_f, lc_i, lc_n, Nat.reduceAdd]
  · rw [decide_eq_false h0, Bool.false_and]
    refine Eq.trans ?_ (fin r)
    simp (disch := omega) only [st_X10_is_0, st_X10_is_0t, st_X10_is_1, st_X10_is_4, st_X10_is_35, st_X10_is_36, st_X10_is_37, st_X10_is_38, bM_some, hg_49_22, m49_1, a2, (ne0 h5).trans (eq_false h0), if_false, lc_r, lc_f, lc_i, lc_n, Nat.reduceAdd]
theorem rl50_0 {pc : Nat} {rest : List Value} : px_rld pc (.int (Int32.ofNat 0) :: .ref 50 :: rest) (hp t g) = some (pc + 1, .float (UInt32.ofNat 36) :: rest, hp t g) := rfl
theorem rl50_1 {pc : Nat} {rest : List Value} : px_rld pc (.int (Int32.ofNat 1) :: .ref 50 :: rest) (hp t g) = some (pc + 1, .float (UInt32.ofNat 37) :: rest, hp t g) := rfl
theorem rl50_2 {pc : Nat} {rest : List Value} : px_rld pc (.int (Int32.ofNat 2) :: .ref 50 :: rest) (hp t g) = some (pc + 1, .float (UInt32.ofNat 38) :: rest, hp t g) := rfl
theorem rl50_3 {pc : Nat} {rest : List Value} : px_rld pc (.int (Int32.ofNat 3) :: .ref 50 :: rest) (hp t g) = some (pc + 1, .float (UInt32.ofNat 39) :: rest, hp t g) := rfl
theorem rl51_0 {pc : Nat} {rest : List Value} : px_rld pc (.int (Int32.ofNat 0) :: .ref 51 :: rest) (hp t g) = some (pc + 1, .float (UInt32.ofNat 40) :: rest, hp t g) := rfl
theorem rl51_1 {pc : Nat} {rest : List Value} : px_rld pc (.int (Int32.ofNat 1) :: .ref 51 :: rest) (hp t g) = some (pc + 1, .float (UInt32.ofNat 41) :: rest, hp t g) := rfl
theorem rl51_2 {pc : Nat} {rest : List Value} : px_rld pc (.int (Int32.ofNat 2) :: .ref 51 :: rest) (hp t g) = some (pc + 1, .float (UInt32.ofNat 42) :: rest, hp t g) := rfl
theorem rl51_3 {pc : Nat} {rest : List Value} : px_rld pc (.int (Int32.ofNat 3) :: .ref 51 :: rest) (hp t g) = some (pc + 1, .float (UInt32.ofNat 43) :: rest, hp t g) := rfl
theorem rl51_4 {pc : Nat} {rest : List Value} : px_rld pc (.int (Int32.ofNat 4) :: .ref 51 :: rest) (hp t g) = some (pc + 1, .float (UInt32.ofNat 44) :: rest, hp t g) := rfl
theorem rl51_5 {pc : Nat} {rest : List Value} : px_rld pc (.int (Int32.ofNat 5) :: .ref 51 :: rest) (hp t g) = some (pc + 1, .float (UInt32.ofNat 45) :: rest, hp t g) := rfl
theorem rl51_6 {pc : Nat} {rest : List Value} : px_rld pc (.int (Int32.ofNat 6) :: .ref 51 :: rest) (hp t g) = some (pc + 1, .float (UInt32.ofNat 46) :: rest, hp t g) := rfl
theorem asc_K : ∀ i : Nat, i < 4 → asc (wKin.getD i []) := by
  intro i hi
  match i, hi with
  | 0, _ => unfold asc; decide
  | 1, _ => unfold asc; decide
  | 2, _ => unfold asc; decide
  | 3, _ => unfold asc; decide
theorem asc_V : ∀ i : Nat, i < 7 → asc (wVal.getD i []) := by
  intro i hi
  match i, hi with
  | 0, _ => unfold asc; decide
  | 1, _ => unfold asc; decide
  | 2, _ => unfold asc; decide
  | 3, _ => unfold asc; decide
  | 4, _ => unfold asc; decide
  | 5, _ => unfold asc; decide
  | 6, _ => unfold asc; decide
theorem tab_K : ∀ i : Nat, i < 4 → ∃ k : UInt32, txK k (wKin.getD i []) ∧ ∀ (t : List px_E) (g : hG) (pc : Nat) (rest : List Value), px_rld pc (.int (Int32.ofNat i) :: .ref 50 :: rest) (hp t g) = some (pc + 1, .float k :: rest, hp t g) := by
  intro i hi
  match i, hi with
  | 0, _ => exact ⟨_, tx_36, fun _ _ _ _ => rl50_0⟩
  | 1, _ => exact ⟨_, tx_37, fun _ _ _ _ => rl50_1⟩
  | 2, _ => exact ⟨_, tx_38, fun _ _ _ _ => rl50_2⟩
  | 3, _ => exact ⟨_, tx_39, fun _ _ _ _ => rl50_3⟩
theorem tab_V : ∀ i : Nat, i < 7 → ∃ k : UInt32, txK k (wVal.getD i []) ∧ ∀ (t : List px_E) (g : hG) (pc : Nat) (rest : List Value), px_rld pc (.int (Int32.ofNat i) :: .ref 51 :: rest) (hp t g) = some (pc + 1, .float k :: rest, hp t g) := by
  intro i hi
  match i, hi with
  | 0, _ => exact ⟨_, tx_40, fun _ _ _ _ => rl51_0⟩
  | 1, _ => exact ⟨_, tx_41, fun _ _ _ _ => rl51_1⟩
  | 2, _ => exact ⟨_, tx_42, fun _ _ _ _ => rl51_2⟩
  | 3, _ => exact ⟨_, tx_43, fun _ _ _ _ => rl51_3⟩
  | 4, _ => exact ⟨_, tx_44, fun _ _ _ _ => rl51_4⟩
  | 5, _ => exact ⟨_, tx_45, fun _ _ _ _ => rl51_5⟩
  | 6, _ => exact ⟨_, tx_46, fun _ _ _ _ => rl51_6⟩
theorem drop_w {l : List (List Int32)} {i : Nat} (hi : i < l.length) : l.drop i = l.getD i [] :: l.drop (i + 1) := by
  rw [List.drop_eq_getElem_cons hi, List.getD_eq_getElem?_getD, List.getElem?_eq_getElem hi, Option.getD_some]
theorem len_K : ∀ i : Nat, (wKin.getD i []).length < 100 := by
  intro i
  by_cases h : i < 4
  · match i, h with
    | 0, _ => decide
    | 1, _ => decide
    | 2, _ => decide
    | 3, _ => decide
  · rw [List.getD_eq_getElem?_getD, List.getElem?_eq_none (by show 4 ≤ i; omega)]; decide
theorem len_V : ∀ i : Nat, (wVal.getD i []).length < 100 := by
  intro i
  by_cases h : i < 7
  · match i, h with
    | 0, _ => decide
    | 1, _ => decide
    | 2, _ => decide
    | 3, _ => decide
    | 4, _ => decide
    | 5, _ => decide
    | 6, _ => decide
  · rw [List.getD_eq_getElem?_getD, List.getElem?_eq_none (by show 7 ≤ i; omega)]; decide
set_option maxHeartbeats 4000000 in
theorem mw_K (hT : tapeR n b (g.1 63)) (hW : WF b n σ) (hN : RN n q σ r) : ∀ m i : Nat, i + m = 4 →
    bc (d + 13) M_X10_which none 2 [some (.ref 49), some (.ref 50), some (.int (Int32.ofNat i))] [] (hp t (hR g 49 r)) cn sn = some (.inl (some (.int (wI (whW b σ (wKin.drop i) i)))), hp t (hR g 49 r), cn, sn) := by
  intro m
  induction m with
  | zero =>
    intro i hi
    have e1 : (Int32.ofNat i < (4 : Int32)) = False := by rw [show (4 : Int32) = Int32.ofNat 4 from rfl, nn_lt (by omega) (by omega)]; exact eq_false (by omega)
    rw [List.drop_eq_nil_of_le (by show 4 ≤ i; omega), st_X10_which_2]
    simp (disch := omega) only [st_X10_which_3, st_X10_which_3t, st_X10_which_4, st_X10_which_5, st_X10_which_26, st_X10_which_27, bM_some, hn_50, e1, if_false, whW, wI, Nat.reduceAdd]
  | succ m ih =>
    intro i hi
    have e1 : (Int32.ofNat i < (4 : Int32)) = True := by rw [show (4 : Int32) = Int32.ofNat 4 from rfl, nn_lt (by omega) (by omega)]; exact eq_true (by omega)
    obtain ⟨k, k1, k2⟩ := tab_K i (by omega)
    have es := m_is (d := d) (t := t) (cn := 0) (sn := 0) hT k1 (len_K i) (asc_K i (by omega)) hW hN
    rw [drop_w (show i < wKin.length by show i < 4; omega)]
    unfold whW
    rw [st_X10_which_2]
    cases hb : pIsW b (wKin.getD i []) σ with
    | true =>
      rw [hb] at es
      rw [if_pos rfl]
      simp (disch := omega) only [st_X10_which_3, st_X10_which_3t, st_X10_which_4, st_X10_which_5, st_X10_which_8, st_X10_which_8t, st_X10_which_9, st_X10_which_9t, st_X10_which_10, st_X10_which_11, st_X10_which_15, st_X10_which_18, st_X10_which_19, st_X10_which_12 (p := 49) hq_49 ps_, bM_some, hn_50, e1, if_true, k2, es, b01, cond_true, nn_one0, if_false, wI, bC_inl, Option.toList, List.cons_append, List.nil_append, Nat.add_zero, Nat.reduceAdd]
    | false =>
      rw [hb] at es
      rw [if_neg (by simp), ← ih (i + 1) (by omega)]
      simp (disch := omega) only [st_X10_which_3, st_X10_which_3t, st_X10_which_4, st_X10_which_5, st_X10_which_8, st_X10_which_8t, st_X10_which_9, st_X10_which_9t, st_X10_which_10, st_X10_which_11, st_X10_which_15, st_X10_which_20, st_X10_which_23, st_X10_which_12 (p := 49) hq_49 ps_, bM_some, hn_50, e1, if_true, k2, es, b01, cond_false, bC_inl, Option.toList, List.cons_append, List.nil_append, Nat.add_zero, lc_r, lc_i, nn_r1, Nat.reduceAdd]
theorem m_whichK (hT : tapeR n b (g.1 63)) (hW : WF b n σ) (hN : RN n q σ r) : bc (d + 13) M_X10_which none 0 [some (.ref 49), some (.ref 50), none] [] (hp t (hR g 49 r)) cn sn = some (.inl (some (.int (wI (whW b σ wKin 0)))), hp t (hR g 49 r), cn, sn) := by
  have e := mw_K (d := d) (t := t) (cn := cn) (sn := sn) hT hW hN 4 0 (by omega)
  rw [show Int32.ofNat 0 = (0 : Int32) from rfl, List.drop_zero] at e
  refine Eq.trans ?_ e
  simp (disch := omega) only [st_X10_which_0, st_X10_which_1, lc_r, lc_i, lc_n, Nat.reduceAdd]
set_option maxHeartbeats 4000000 in
theorem mw_V (hT : tapeR n b (g.1 63)) (hW : WF b n σ) (hN : RN n q σ r) : ∀ m i : Nat, i + m = 7 →
    bc (d + 13) M_X10_which none 2 [some (.ref 49), some (.ref 51), some (.int (Int32.ofNat i))] [] (hp t (hR g 49 r)) cn sn = some (.inl (some (.int (wI (whW b σ (wVal.drop i) i)))), hp t (hR g 49 r), cn, sn) := by
  intro m
  induction m with
  | zero =>
    intro i hi
    have e1 : (Int32.ofNat i < (7 : Int32)) = False := by rw [show (7 : Int32) = Int32.ofNat 7 from rfl, nn_lt (by omega) (by omega)]; exact eq_false (by omega)
    rw [List.drop_eq_nil_of_le (by show 7 ≤ i; omega), st_X10_which_2]
    simp (disch := omega) only [st_X10_which_3, st_X10_which_3t, st_X10_which_4, st_X10_which_5, st_X10_which_26, st_X10_which_27, bM_some, hn_51, e1, if_false, whW, wI, Nat.reduceAdd]
  | succ m ih =>
    intro i hi
    have e1 : (Int32.ofNat i < (7 : Int32)) = True := by rw [show (7 : Int32) = Int32.ofNat 7 from rfl, nn_lt (by omega) (by omega)]; exact eq_true (by omega)
    obtain ⟨k, k1, k2⟩ := tab_V i (by omega)
    have es := m_is (d := d) (t := t) (cn := 0) (sn := 0) hT k1 (len_V i) (asc_V i (by omega)) hW hN
    rw [drop_w (show i < wVal.length by show i < 7; omega)]
    unfold whW
    rw [st_X10_which_2]
    cases hb : pIsW b (wVal.getD i []) σ with
    | true =>
      rw [hb] at es
      rw [if_pos rfl]
      simp (disch := omega) only [st_X10_which_3, st_X10_which_3t, st_X10_which_4, st_X10_which_5, st_X10_which_8, st_X10_which_8t, st_X10_which_9, st_X10_which_9t, st_X10_which_10, st_X10_which_11, st_X10_which_15, st_X10_which_18, st_X10_which_19, st_X10_which_12 (p := 49) hq_49 ps_, bM_some, hn_51, e1, if_true, k2, es, b01, cond_true, nn_one0, if_false, wI, bC_inl, Option.toList, List.cons_append, List.nil_append, Nat.add_zero, Nat.reduceAdd]
    | false =>
      rw [hb] at es
      rw [if_neg (by simp), ← ih (i + 1) (by omega)]
      simp (disch := omega) only [st_X10_which_3, st_X10_which_3t, st_X10_which_4, st_X10_which_5, st_X10_which_8, st_X10_which_8t, st_X10_which_9, st_X10_which_9t, st_X10_which_10, st_X10_which_11, st_X10_which_15, st_X10_which_20, st_X10_which_23, st_X10_which_12 (p := 49) hq_49 ps_, bM_some, hn_51, e1, if_true, k2, es, b01, cond_false, bC_inl, Option.toList, List.cons_append, List.nil_append, Nat.add_zero, lc_r, lc_i, nn_r1, Nat.reduceAdd]
theorem m_whichV (hT : tapeR n b (g.1 63)) (hW : WF b n σ) (hN : RN n q σ r) : bc (d + 13) M_X10_which none 0 [some (.ref 49), some (.ref 51), none] [] (hp t (hR g 49 r)) cn sn = some (.inl (some (.int (wI (whW b σ wVal 0)))), hp t (hR g 49 r), cn, sn) := by
  have e := mw_V (d := d) (t := t) (cn := cn) (sn := sn) hT hW hN 7 0 (by omega)
  rw [show Int32.ofNat 0 = (0 : Int32) from rfl, List.drop_zero] at e
  refine Eq.trans ?_ e
  simp (disch := omega) only [st_X10_which_0, st_X10_which_1, lc_r, lc_i, lc_n, Nat.reduceAdd]
set_option maxHeartbeats 4000000 in
theorem m_numNow (hlo : lo < 100000) (hhi : hi < 100000) (hW : WF b n σ) (hN : RN n q σ r) : ∃ r' : Rw, RN n q (pNeed lo hi σ) r' ∧
    bc (d + 1) M_X10_numberNow none 0 [some (.ref 49), some (.int (Int32.ofNat lo)), some (.int (Int32.ofNat hi))] [] (hp t (hR g 49 r)) cn sn = some (.inl (some (.int (Int32.ofNat (pNumV lo hi σ)))), hp t (hR g 49 r'), cn, sn) := by
  have hN' := hN
  obtain ⟨a1, a2, a3, a4, a5⟩ := hN'
  have hW' := hW
  obtain ⟨hn, h5, hw⟩ := hW'
  obtain ⟨f1, x1, y1⟩ := m_wrong (d := d) (t := t) (g := g) (cn := 0) (sn := 0) hW hN (c := 1) (by omega)
  obtain ⟨f2, x2, y2⟩ := m_wrong (d := d) (t := t) (g := g) (cn := 0) (sn := 0) hW hN (c := 2) (by omega)
  rw [show Int32.ofNat 1 = (1 : Int32) from rfl] at y1
  rw [show Int32.ofNat 2 = (2 : Int32) from rfl] at y2
  unfold pNumV
  by_cases h0 : σ.1 0 = 0
  · obtain ⟨o16, o21, o20, o18, o19⟩ := a4 h0
    obtain ⟨w1, w2, w3, w4, w5, w6⟩ := hw h0
    have h35 : σ.1 3 ≤ 5 := by rw [w3]; exact sor_le
    have e3 : (Int32.ofNat (if σ.1 3 = 5 then 4 else σ.1 3) = 2) = (σ.1 3 = 2) := tok_m (e := 2) h35 (by omega)
    have z1 : f1 22 = Int32.ofNat 1 := by rw [x1.2.1, pFl_0, if_pos h0]
    have z2 : f2 22 = Int32.ofNat 2 := by rw [x2.2.1, pFl_0, if_pos h0]
    by_cases h3 : σ.1 3 = 2
    · have g4 : ((4 : Int32) < Int32.ofNat (σ.1 4 - σ.1 2)) = (4 < σ.1 4 - σ.1 2) := nn_g4 (by omega)
      by_cases hc : 4 < σ.1 4 - σ.1 2 ∨ σ.1 5 < lo ∨ hi < σ.1 5
      · have ep : pNeed lo hi σ = pFl 2 σ := by unfold pNeed; rw [if_pos h0, if_pos h3, if_pos hc]
        rw [ep, pFl_0, if_pos h0, if_neg (by omega)]
        refine ⟨f2, x2, ?_⟩
        by_cases c1 : 4 < σ.1 4 - σ.1 2
        · simp (disch := omega) only [st_X10_numberNow_0, st_X10_numberNow_1, st_X10_numberNow_4, st_X10_numberNow_9, st_X10_numberNow_10, st_X10_numberNow_13, st_X10_numberNow_14, st_X10_numberNow_25, st_X10_numberNow_26, st_X10_numberNow_29, st_X10_numberNow_30, st_X10_numberNow_33, st_X10_numberNow_34, st_X10_numberNow_35, st_X10_numberNow_54, st_X10_numberNow_55, st_X10_numberNow_59, st_X10_numberNow_60, st_X10_numberNow_63, st_X10_numberNow_73, st_X10_numberNow_74, st_X10_numberNow_56 (p := 49) hq_49 ps_, bM_some, hg_49_22, hg_49_18, hg_49_21, hg_49_20, m49_1, a2, h0, show (Int32.ofNat 0 = 0) = True from eq_true rfl, o18, o20, o21, e3.trans (eq_true h3), nn_sub, g4.trans (eq_true c1), if_true, if_false, y2, z2, show (Int32.ofNat 2 = 0) = False from eq_false (by decide), bC_inl, Option.toList, List.nil_append, Nat.add_zero, Nat.reduceAdd]
          rfl
        · have v19 := o19 h3 (by omega)
          by_cases c2 : σ.1 5 < lo
          · simp (disch := omega) only [st_X10_numberNow_0, st_X10_numberNow_1, st_X10_numberNow_4, st_X10_numberNow_9, st_X10_numberNow_10, st_X10_numberNow_13, st_X10_numberNow_14, st_X10_numberNow_25, st_X10_numberNow_26, st_X10_numberNow_29, st_X10_numberNow_30, st_X10_numberNow_33, st_X10_numberNow_34, st_X10_numberNow_35, st_X10_numberNow_38, st_X10_numberNow_39, st_X10_numberNow_42, st_X10_numberNow_43, st_X10_numberNow_54, st_X10_numberNow_55, st_X10_numberNow_59, st_X10_numberNow_60, st_X10_numberNow_63, st_X10_numberNow_73, st_X10_numberNow_74, st_X10_numberNow_56 (p := 49) hq_49 ps_, bM_some, hg_49_22, hg_49_18, hg_49_19, hg_49_21, hg_49_20, m49_1, a2, h0, show (Int32.ofNat 0 = 0) = True from eq_true rfl, o18, o20, o21, v19, e3.trans (eq_true h3), nn_sub, g4.trans (eq_false c1), nn_lt, c2, if_true, if_false, y2, z2, show (Int32.ofNat 2 = 0) = False from eq_false (by decide), bC_inl, Option.toList, List.nil_append, Nat.add_zero, Nat.reduceAdd]
            rfl
          · have c3 : hi < σ.1 5 := by omega
            simp (disch := omega) only [st_X10_numberNow_0, st_X10_numberNow_1, st_X10_numberNow_4, st_X10_numberNow_9, st_X10_numberNow_10, st_X10_numberNow_13, st_X10_numberNow_14, st_X10_numberNow_25, st_X10_numberNow_26, st_X10_numberNow_29, st_X10_numberNow_30, st_X10_numberNow_33, st_X10_numberNow_34, st_X10_numberNow_35, st_X10_numberNow_38, st_X10_numberNow_39, st_X10_numberNow_42, st_X10_numberNow_43, st_X10_numberNow_46, st_X10_numberNow_47, st_X10_numberNow_50, st_X10_numberNow_51, st_X10_numberNow_54, st_X10_numberNow_55, st_X10_numberNow_59, st_X10_numberNow_60, st_X10_numberNow_63, st_X10_numberNow_73, st_X10_numberNow_74, st_X10_numberNow_56 (p := 49) hq_49 ps_, bM_some, hg_49_22, hg_49_18, hg_49_19, hg_49_21, hg_49_20, m49_1, a2, h0, show (Int32.ofNat 0 = 0) = True from eq_true rfl, o18, o20, o21, v19, e3.trans (eq_true h3), nn_sub, g4.trans (eq_false c1), nn_lt, c2, c3, if_true, if_false, y2, z2, show (Int32.ofNat 2 = 0) = False from eq_false (by decide), bC_inl, Option.toList, List.nil_append, Nat.add_zero, Nat.reduceAdd]
            rfl
      · have ep : pNeed lo hi σ = σ := by unfold pNeed; rw [if_pos h0, if_pos h3, if_neg hc]
        have v19 := o19 h3 (by omega)
        rw [ep, if_pos h0]
        refine ⟨r, hN, ?_⟩
        simp (disch := omega) only [st_X10_numberNow_0, st_X10_numberNow_1, st_X10_numberNow_4, st_X10_numberNow_9, st_X10_numberNow_10, st_X10_numberNow_13, st_X10_numberNow_14, st_X10_numberNow_25, st_X10_numberNow_26, st_X10_numberNow_29, st_X10_numberNow_30, st_X10_numberNow_33, st_X10_numberNow_34, st_X10_numberNow_35, st_X10_numberNow_38, st_X10_numberNow_39, st_X10_numberNow_42, st_X10_numberNow_43, st_X10_numberNow_46, st_X10_numberNow_47, st_X10_numberNow_50, st_X10_numberNow_51, st_X10_numberNow_59, st_X10_numberNow_60, st_X10_numberNow_63, st_X10_numberNow_66, st_X10_numberNow_67, st_X10_numberNow_70, st_X10_numberNow_74, bM_some, hg_49_22, hg_49_18, hg_49_19, hg_49_21, hg_49_20, m49_1, a2, h0, show (Int32.ofNat 0 = 0) = True from eq_true rfl, o18, o20, o21, v19, e3.trans (eq_true h3), nn_sub, g4.trans (eq_false (fun z => hc (Or.inl z))), nn_lt, show ¬ σ.1 5 < lo by omega, show ¬ hi < σ.1 5 by omega, if_true, if_false, Nat.reduceAdd]
    · have ep : pNeed lo hi σ = pFl 1 σ := by unfold pNeed; rw [if_pos h0, if_neg h3]
      rw [ep, pFl_0, if_pos h0, if_neg (by omega)]
      refine ⟨f1, x1, ?_⟩
      simp (disch := omega) only [st_X10_numberNow_0, st_X10_numberNow_1, st_X10_numberNow_4, st_X10_numberNow_9, st_X10_numberNow_10, st_X10_numberNow_13, st_X10_numberNow_14, st_X10_numberNow_17, st_X10_numberNow_18, st_X10_numberNow_22, st_X10_numberNow_59, st_X10_numberNow_60, st_X10_numberNow_63, st_X10_numberNow_73, st_X10_numberNow_74, st_X10_numberNow_19 (p := 49) hq_49 ps_, bM_some, hg_49_22, hg_49_18, m49_1, a2, h0, show (Int32.ofNat 0 = 0) = True from eq_true rfl, o18, e3.trans (eq_false h3), if_true, if_false, y1, z1, show (Int32.ofNat 1 = 0) = False from eq_false (by decide), bC_inl, Option.toList, List.nil_append, Nat.add_zero, Nat.reduceAdd]
      rfl
  · have ep : pNeed lo hi σ = σ := by unfold pNeed; rw [if_neg h0]
    rw [ep, if_neg h0]
    refine ⟨r, hN, ?_⟩
    simp (disch := omega) only [st_X10_numberNow_0, st_X10_numberNow_1, st_X10_numberNow_4, st_X10_numberNow_7, st_X10_numberNow_8, bM_some, hg_49_22, m49_1, a2, (ne0 h5).trans (eq_false h0), if_false, Nat.reduceAdd]
    rfl
theorem m_readNumber (hT : tapeR n b (g.1 63)) (hlo : lo < 100000) (hhi : hi < 100000) (hW : WF b n σ) (hN : RN n q σ r) : ∃ r' : Rw, RN n q (pNumS b n lo hi σ) r' ∧
    bc (d + 2) M_X10_readNumber none 0 [some (.ref 49), some (.int (Int32.ofNat lo)), some (.int (Int32.ofNat hi)), none] [] (hp t (hR g 49 r)) cn sn = some (.inl (some (.int (Int32.ofNat (pNumV lo hi σ)))), hp t (hR g 49 r'), cn, sn) := by
  obtain ⟨r1, x1, y1⟩ := m_numNow (d := d) (t := t) (g := g) (cn := 0) (sn := 0) hlo hhi hW hN
  have z1 : r1 22 = Int32.ofNat ((pNeed lo hi σ).1 0) := x1.2.1
  have hWn := need_WF (lo := lo) (hi := hi) hW
  unfold pNumS
  by_cases h : (pNeed lo hi σ).1 0 = 0
  · obtain ⟨r2, x2, y2⟩ := m_step (d := d) (t := t) (g := g) (cn := 0) (sn := 0) hT hWn h x1
    rw [if_pos h]
    refine ⟨r2, x2, ?_⟩
    simp (disch := omega) only [st_X10_readNumber_0, st_X10_readNumber_1, st_X10_readNumber_2, st_X10_readNumber_6, st_X10_readNumber_7, st_X10_readNumber_8, st_X10_readNumber_11, st_X10_readNumber_14, st_X10_readNumber_18, st_X10_readNumber_19, st_X10_readNumber_3 (p := 49) hq_49 ps_, st_X10_readNumber_15 (p := 49) hq_49 ps_, bM_some, hg_49_22, m49_1, y1, z1, h, show (Int32.ofNat 0 = 0) = True from eq_true rfl, if_true, y2, bC_inl, Option.toList, List.cons_append, List.nil_append, Nat.add_zero, lc_r, lc_i, lc_n, Nat.reduceAdd]
  · rw [if_neg h]
    refine ⟨r1, x1, ?_⟩
    simp (disch := omega) only [st_X10_readNumber_0, st_X10_readNumber_1, st_X10_readNumber_2, st_X10_readNumber_6, st_X10_readNumber_7, st_X10_readNumber_8, st_X10_readNumber_11, st_X10_readNumber_18, st_X10_readNumber_19, st_X10_readNumber_3 (p := 49) hq_49 ps_, bM_some, hg_49_22, m49_1, y1, z1, (ne0 hWn.2.1).trans (eq_false h), if_false, bC_inl, Option.toList, List.cons_append, List.nil_append, Nat.add_zero, lc_r, lc_i, lc_n, Nat.reduceAdd]
end MREAD
