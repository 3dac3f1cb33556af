/-! ===== the reference: the call that reads, up to the taking over ===== -/
/-- the row of the reference's object at the start of the reading -/
def kq (r : Rw) : Rw := upd (upd (upd r 2 0) 15 0) 24 (-1)
def kr (r : Rw) (n : Nat) : Rw := upd (upd (upd (upd (upd (upd r 2 0) 15 0) 17 (Int32.ofNat n)) 16 0) 22 0) 24 (-1)
/-- the halves taken over: the first H of f are those that stood from H on -/
def thR (H i : Nat) (f : Rw) : Rw := fun j => if j < i then f (H + j) else f j
section MKIT2
variable {d D : Nat} {t : List px_E} {g : hG} {n cn sn dep : Nat} {b r q : Rw} {x y : Int32} {σ σ' σ'' : Sg} {c N M k m T : Nat} {a2 : Option Value} {K : Kt}
theorem kr_q {j : Nat} (hj : j < 16 ∨ 23 < j) : kr r n j = kq r j := by
  unfold kr kq upd
  by_cases h1 : j = 24
  · rw [if_pos h1, if_pos h1]
  · rw [if_neg h1, if_neg h1, if_neg (by omega), if_neg (by omega), if_neg (by omega)]
set_option maxHeartbeats 8000000 in
theorem m_kit (hT : tapeR T b (g.1 63)) (h15 : g.1 49 15 = Int32.ofNat T) (hn : n ≤ T) (hT6 : T ≤ 600) : ∃ (g' : hG) (a2' : Option Value), MQr b n (kq (g.1 49)) (pRead b n (sg0 K)) g' ∧ SmM g g' ∧
    bc (d + 54) M_X10_kitchen none 0 [some (.ref 49), some (.int (Int32.ofNat n)), none] [] (hp t g) cn sn = bc (d + 54) M_X10_kitchen none 99 [some (.ref 49), some (.int (Int32.ofNat n)), a2'] [] (hp t g') cn sn := by
  have hT' : tapeR n b (g.1 63) := fun i hi => hT i (by omega)
  have s0 : (sg0 K).1 0 = 0 := rfl
  obtain ⟨g1, hg1⟩ : ∃ g1 : hG, g1 = hI (hI (hI (hI (hR g 49 (kr (g.1 49) n)) 52 4 0) 52 5 0) 52 6 0) 52 7 0 := ⟨_, rfl⟩
  have r49 : g1.1 49 = kr (g.1 49) n := by
    rw [hg1]
    funext j
    rw [hI_ne (by omega), hI_ne (by omega), hI_ne (by omega), hI_ne (by omega)]; rfl
  have r63 : g1.1 63 = g.1 63 := by
    rw [hg1]
    funext j
    rw [hI_ne (by omega), hI_ne (by omega), hI_ne (by omega), hI_ne (by omega)]; rfl
  have r52 : g1.1 52 4 = 0 ∧ g1.1 52 5 = 0 ∧ g1.1 52 6 = 0 ∧ g1.1 52 7 = 0 := by
    rw [hg1]
    refine ⟨?_, ?_, ?_, ?_⟩
    · rw [hI_ne (by omega), hI_ne (by omega), hI_ne (by omega), hI_eq]
    · rw [hI_ne (by omega), hI_ne (by omega), hI_eq]
    · rw [hI_ne (by omega), hI_eq]
    · rw [hI_eq]
  have m1 : SmM g g1 := by
    rw [hg1]
    exact SmM_r.trans ((SmM_i (by omega)).trans ((SmM_i (by omega)).trans ((SmM_i (by omega)).trans (SmM_i (by omega)))))
  have hstep := m_step0 (d := d + 52) (t := t) (g := g1) (b := b) (n := n) (σ := sg0 K) (r := g1.1 49) (q := kq (g.1 49)) (cn := 0) (sn := 0) (by rw [r63]; exact hT') (by omega) rfl (Nat.zero_le n) (by rw [r49]; rfl) (by rw [r49]; rfl) (by rw [r49]; rfl) (fun j hj => by rw [r49]; exact kr_q hj)
  obtain ⟨r', q1, e1⟩ := hstep
  rw [hR_self] at e1
  have c1 : MQr b n (kq (g.1 49)) (pAdv b n (sg0 K)) (hR g1 49 r') := by
    refine ⟨?_, pAdv_WF (by omega) (Nat.zero_le 5) (fun _ => ⟨Nat.zero_le n, Nat.zero_le 1⟩), q1, fun _ => ?_, fun _ => ?_⟩
    · show tapeR n b (g1.1 63)
      rw [r63]; exact hT'
    · rw [pAdv_o (by omega), pAdv_o (by omega), pAdv_o (by omega), pAdv_o (by omega)]
      exact ⟨⟨r52.1, r52.2.1, r52.2.2.1, r52.2.2.2⟩, fun j hj => absurd hj (Nat.not_lt_zero j), fun j hj => absurd hj (Nat.not_lt_zero j), fun j hj => absurd hj (Nat.not_lt_zero j), fun j hj => absurd hj (Nat.not_lt_zero j)⟩
    · rw [pAdv_o (by omega), pAdv_o (by omega), pAdv_o (by omega), pAdv_o (by omega)]
      exact ⟨Nat.zero_le 8, Nat.zero_le 4, Nat.zero_le 5, Nat.zero_le 600⟩
  have gi : GI (pAdv b n (sg0 K)) := fun _ => by rw [pAdv_o (by omega)]; exact Nat.zero_le _
  obtain ⟨g2, a2', c2, m2, e2⟩ := mk_l (d := d) (t := t) (cn := cn) (sn := sn) (x := Int32.ofNat n) 600 _ _ (some (.int 0)) c1 gi (fun _ => ⟨by omega, by rw [pAdv_o (by omega)]; rfl⟩)
  refine ⟨g2, a2', c2, m1.trans (SmM_r.trans m2), Eq.trans ?_ e2⟩
  have e50 : bc (d + 54) M_X10_kitchen none 0 [some (.ref 49), some (.int (Int32.ofNat n)), none] [] (hp t g) cn sn = bc (d + 54) M_X10_kitchen none 50 [some (.ref 49), some (.int (Int32.ofNat n)), some (.int 0)] [] (hp t (hR g 49 (kr (g.1 49) n))) cn sn := by
    rw [show hR g 49 (kr (g.1 49) n) = hI (hI (hI (hI (hI (hI g 49 2 0) 49 15 0) 49 17 (Int32.ofNat n)) 49 16 0) 49 22 0) 49 24 (-1) from by
      rw [show g = hR g 49 (g.1 49) from hR_self.symm, m49_i, m49_i, m49_i, m49_i, m49_i, m49_i, hR_hR]; rfl]
    have r15 : (hI g 49 2 0).1 49 15 = Int32.ofNat T := by rw [hI_ne (by omega)]; exact h15
    simp (disch := omega) only [st_X10_kitchen_0, st_X10_kitchen_1, st_X10_kitchen_2, st_X10_kitchen_5, st_X10_kitchen_6, st_X10_kitchen_9, st_X10_kitchen_10, st_X10_kitchen_11, st_X10_kitchen_14, st_X10_kitchen_23, st_X10_kitchen_24, st_X10_kitchen_25, st_X10_kitchen_28, st_X10_kitchen_29, st_X10_kitchen_30, st_X10_kitchen_33, st_X10_kitchen_34, st_X10_kitchen_35, st_X10_kitchen_38, st_X10_kitchen_39, st_X10_kitchen_40, st_X10_kitchen_43, st_X10_kitchen_44, st_X10_kitchen_45, st_X10_kitchen_48, st_X10_kitchen_49, bM_some, hs_49_2, hg_49_15, hs_49_15, hs_49_17, hs_49_16, hs_49_22, hs_49_24, nn_l0, nn_lt, r15, show ¬ n < 0 by omega, show ¬ T < n by omega, if_false, lc_r, lc_i, lc_n, Nat.reduceAdd]
  have e70 : bc (d + 54) M_X10_kitchen none 50 [some (.ref 49), some (.int (Int32.ofNat n)), some (.int 0)] [] (hp t (hR g 49 (kr (g.1 49) n))) cn sn = bc (d + 54) M_X10_kitchen none 70 [some (.ref 49), some (.int (Int32.ofNat n)), some (.int 4)] [] (hp t g1) cn sn := by
    have k0 : ((0 : Int32) < 4) = True := by decide
    have k1 : ((1 : Int32) < 4) = True := by decide
    have k2 : ((2 : Int32) < 4) = True := by decide
    have k3 : ((3 : Int32) < 4) = True := by decide
    have k4 : ((4 : Int32) < 4) = False := by decide
    have l0 : (4 : Int32) + 0 = 4 := by decide
    have l1 : (4 : Int32) + 1 = 5 := by decide
    have l2 : (4 : Int32) + 2 = 6 := by decide
    have l3 : (4 : Int32) + 3 = 7 := by decide
    have p0 : (0 : Int32) + 1 = 1 := by decide
    have p1 : (1 : Int32) + 1 = 2 := by decide
    have p2 : (2 : Int32) + 1 = 3 := by decide
    have p3 : (3 : Int32) + 1 = 4 := by decide
    have v4 : (4 : Int32).toNatClampNeg = 4 := by decide
    have v5 : (5 : Int32).toNatClampNeg = 5 := by decide
    have v6 : (6 : Int32).toNatClampNeg = 6 := by decide
    have v7 : (7 : Int32).toNatClampNeg = 7 := by decide
    have o4 : px_out 4 8 = false := by decide
    have o5 : px_out 5 8 = false := by decide
    have o6 : px_out 6 8 = false := by decide
    have o7 : px_out 7 8 = false := by decide
    rw [hg1, st_X10_kitchen_50]
    simp (disch := omega) only [st_X10_kitchen_51, st_X10_kitchen_52, st_X10_kitchen_55, st_X10_kitchen_56, st_X10_kitchen_59, st_X10_kitchen_60, st_X10_kitchen_61, st_X10_kitchen_62, st_X10_kitchen_63, st_X10_kitchen_64, st_X10_kitchen_67, bM_some, hg_49_3, hw_52, k0, if_true, l0, p0, v4, o4, cond_false, lc_r, lc_i, lc_n, Nat.reduceAdd]
    rw [st_X10_kitchen_50]
    simp (disch := omega) only [st_X10_kitchen_51, st_X10_kitchen_52, st_X10_kitchen_55, st_X10_kitchen_56, st_X10_kitchen_59, st_X10_kitchen_60, st_X10_kitchen_61, st_X10_kitchen_62, st_X10_kitchen_63, st_X10_kitchen_64, st_X10_kitchen_67, bM_some, hg_49_3, hw_52, k1, if_true, l1, p1, v5, o5, cond_false, lc_r, lc_i, lc_n, Nat.reduceAdd]
    rw [st_X10_kitchen_50]
    simp (disch := omega) only [st_X10_kitchen_51, st_X10_kitchen_52, st_X10_kitchen_55, st_X10_kitchen_56, st_X10_kitchen_59, st_X10_kitchen_60, st_X10_kitchen_61, st_X10_kitchen_62, st_X10_kitchen_63, st_X10_kitchen_64, st_X10_kitchen_67, bM_some, hg_49_3, hw_52, k2, if_true, l2, p2, v6, o6, cond_false, lc_r, lc_i, lc_n, Nat.reduceAdd]
    rw [st_X10_kitchen_50]
    simp (disch := omega) only [st_X10_kitchen_51, st_X10_kitchen_52, st_X10_kitchen_55, st_X10_kitchen_56, st_X10_kitchen_59, st_X10_kitchen_60, st_X10_kitchen_61, st_X10_kitchen_62, st_X10_kitchen_63, st_X10_kitchen_64, st_X10_kitchen_67, bM_some, hg_49_3, hw_52, k3, if_true, l3, p3, v7, o7, cond_false, lc_r, lc_i, lc_n, Nat.reduceAdd]
    rw [st_X10_kitchen_50]
    simp (disch := omega) only [st_X10_kitchen_51, st_X10_kitchen_52, k4, if_false]
  rw [e50, e70]
  simp (disch := omega) only [st_X10_kitchen_70, st_X10_kitchen_74, st_X10_kitchen_75, st_X10_kitchen_71 (p := 49) hq_49 ps_, e1, bC_inl, Option.toList, List.cons_append, List.nil_append, Nat.add_zero, lc_r, lc_i, lc_n, Nat.reduceAdd]
set_option maxHeartbeats 2000000 in
/-- n that is none of the lengths: nothing is read -/
theorem m_kit_no (h15 : g.1 49 15 = Int32.ofNat T) (hT6 : T ≤ 600) (hx : x < 0 ∨ Int32.ofNat T < x) : bc (d + 1) M_X10_kitchen none 0 [some (.ref 49), some (.int x), none] [] (hp t g) cn sn = some (.inl (some (.int 0)), hp t (hI g 49 2 1), cn, sn) := by
  have r15 : (hI g 49 2 0).1 49 15 = Int32.ofNat T := by rw [hI_ne (by omega)]; exact h15
  have e2 : hI (hI g 49 2 0) 49 2 1 = hI g 49 2 1 := by
    rw [show g = hR g 49 (g.1 49) from hR_self.symm, m49_i, m49_i, m49_i]
    congr 1
    funext j
    unfold upd
    by_cases hj : j = 2
    · rw [if_pos hj, if_pos hj]
    · rw [if_neg hj, if_neg hj, if_neg hj]
  by_cases h0 : x < 0
  · simp (disch := omega) only [st_X10_kitchen_0, st_X10_kitchen_1, st_X10_kitchen_2, st_X10_kitchen_5, st_X10_kitchen_6, st_X10_kitchen_17, st_X10_kitchen_18, st_X10_kitchen_22, st_X10_fail_0, st_X10_fail_1, st_X10_fail_2, st_X10_fail_5, st_X10_fail_6, st_X10_kitchen_19 (p := 49) hq_49 ps_, bM_some, hs_49_2, h0, if_true, e2, bC_inl, Option.toList, List.cons_append, List.nil_append, Nat.add_zero, Nat.reduceAdd]
  · have h1 : Int32.ofNat T < x := hx.resolve_left h0
    simp (disch := omega) only [st_X10_kitchen_0, st_X10_kitchen_1, st_X10_kitchen_2, st_X10_kitchen_5, st_X10_kitchen_6, st_X10_kitchen_9, st_X10_kitchen_10, st_X10_kitchen_11, st_X10_kitchen_14, st_X10_kitchen_17, st_X10_kitchen_18, st_X10_kitchen_22, st_X10_fail_0, st_X10_fail_1, st_X10_fail_2, st_X10_fail_5, st_X10_fail_6, st_X10_kitchen_19 (p := 49) hq_49 ps_, bM_some, hs_49_2, hg_49_15, r15, h0, h1, if_true, if_false, e2, bC_inl, Option.toList, List.cons_append, List.nil_append, Nat.add_zero, Nat.reduceAdd]
/-- a fault told -/
theorem m_kit_f (h0 : ¬ g.1 49 22 = 0) : bc (d + 1) M_X10_kitchen none 99 [some (.ref 49), some (.int x), a2] [] (hp t g) cn sn = some (.inl (some (.int (g.1 49 22))), hp t (hI (hI g 49 24 (g.1 49 23)) 62 0 (g.1 62 0 + 1)), cn, sn) := by
  have v0 : (0 : Int32).toNatClampNeg = 0 := by decide
  have o0 : px_out 0 3 = false := by decide
  have r62 : (hI g 49 24 (g.1 49 23)).1 62 0 = g.1 62 0 := by rw [hI_ne (by omega)]
  have r22 : (hI (hI g 49 24 (g.1 49 23)) 62 0 (g.1 62 0 + 1)).1 49 22 = g.1 49 22 := by rw [hI_ne (by omega), hI_ne (by omega)]
  simp (disch := omega) only [st_X10_kitchen_99, st_X10_kitchen_100, st_X10_kitchen_103, st_X10_kitchen_106, st_X10_kitchen_107, st_X10_kitchen_108, st_X10_kitchen_111, st_X10_kitchen_114, st_X10_kitchen_115, st_X10_kitchen_118, st_X10_kitchen_119, st_X10_kitchen_120, st_X10_kitchen_121, st_X10_kitchen_122, st_X10_kitchen_123, st_X10_kitchen_124, st_X10_kitchen_125, st_X10_kitchen_128, bM_some, hg_49_22, hg_49_23, hs_49_24, hg_49_13, ha_62, hw_62, h0, if_false, v0, o0, cond_false, r62, r22, Nat.reduceAdd]
theorem ln_52 {pc : Nat} {r : List Value} : px_len none pc (.ref 52 :: r) (hp t g) = some (pc + 1, .int 8 :: r, hp t g) := rfl
theorem thl_52 {f : Rw} : ∀ m i : Nat, i + m = 4 → bc d M_X10_takeHalf none 2 [some (.ref 52), some (.int (Int32.ofNat i))] [] (hp t (hR g 52 (thR 4 i f))) cn sn = some (.inl none, hp t (hR g 52 (thR 4 4 f)), cn, sn) := by
  have ed : (8 : Int32) / 2 = Int32.ofNat 4 := by decide
  intro m
  induction m with
  | zero =>
    intro i hi
    obtain rfl : i = 4 := by omega
    rw [st_X10_takeHalf_2]
    simp (disch := first | omega | decide) only [st_X10_takeHalf_3, st_X10_takeHalf_4, st_X10_takeHalf_5, st_X10_takeHalf_6, st_X10_takeHalf_7, st_X10_takeHalf_27, bM_some, ln_52, ed, nn_lt, Nat.lt_irrefl, if_false, Nat.reduceAdd]
  | succ m ih =>
    intro i hi
    have e := ih (i + 1) (by omega)
    rw [← e]
    have ev : thR 4 i f (4 + i) = f (4 + i) := if_neg (by omega)
    have eu : hI (hR g 52 (thR 4 i f)) 52 i (f (4 + i)) = hR g 52 (thR 4 (i + 1) f) := by
      rw [hI_R, hR_same, hR_hR]
      congr 1
      funext j
      unfold upd thR
      by_cases hj : j = i
      · rw [if_pos hj, if_pos (by omega), hj]
      · rw [if_neg hj]
        by_cases hj' : j < i
        · rw [if_pos hj', if_pos (by omega)]
        · rw [if_neg hj', if_neg (by omega)]
    rw [st_X10_takeHalf_2]
    simp (disch := first | omega | decide) only [st_X10_takeHalf_3, st_X10_takeHalf_4, st_X10_takeHalf_5, st_X10_takeHalf_6, st_X10_takeHalf_7, st_X10_takeHalf_10, st_X10_takeHalf_11, st_X10_takeHalf_12, st_X10_takeHalf_13, st_X10_takeHalf_14, st_X10_takeHalf_15, st_X10_takeHalf_16, st_X10_takeHalf_17, st_X10_takeHalf_18, st_X10_takeHalf_19, st_X10_takeHalf_20, st_X10_takeHalf_21, st_X10_takeHalf_24, bM_some, ln_52, ha_52, hw_52, ed, nn_lt, show i < 4 by omega, if_true, nn_add, nn_out, nn_clamp, cond_false, hR_same, ev, eu, lc_r, lc_i, nn_r1, Nat.reduceAdd]
theorem th_52 : bc d M_X10_takeHalf none 0 [some (.ref 52), none] [] (hp t g) cn sn = some (.inl none, hp t (hR g 52 (thR 4 4 (g.1 52))), cn, sn) := by
  have e := thl_52 (d := d) (t := t) (g := g) (cn := cn) (sn := sn) (f := g.1 52) 4 0 (by omega)
  rw [show thR 4 0 (g.1 52) = g.1 52 from funext fun j => if_neg (Nat.not_lt_zero j), hR_self, show Int32.ofNat 0 = (0 : Int32) from rfl] at e
  rw [← e]
  simp (disch := omega) only [st_X10_takeHalf_0, st_X10_takeHalf_1, lc_r]
theorem ln_53 {pc : Nat} {r : List Value} : px_len none pc (.ref 53 :: r) (hp t g) = some (pc + 1, .int 16 :: r, hp t g) := rfl
theorem thl_53 {f : Rw} : ∀ m i : Nat, i + m = 8 → bc d M_X10_takeHalf none 2 [some (.ref 53), some (.int (Int32.ofNat i))] [] (hp t (hR g 53 (thR 8 i f))) cn sn = some (.inl none, hp t (hR g 53 (thR 8 8 f)), cn, sn) := by
  have ed : (16 : Int32) / 2 = Int32.ofNat 8 := by decide
  intro m
  induction m with
  | zero =>
    intro i hi
    obtain rfl : i = 8 := by omega
    rw [st_X10_takeHalf_2]
    simp (disch := first | omega | decide) only [st_X10_takeHalf_3, st_X10_takeHalf_4, st_X10_takeHalf_5, st_X10_takeHalf_6, st_X10_takeHalf_7, st_X10_takeHalf_27, bM_some, ln_53, ed, nn_lt, Nat.lt_irrefl, if_false, Nat.reduceAdd]
  | succ m ih =>
    intro i hi
    have e := ih (i + 1) (by omega)
    rw [← e]
    have ev : thR 8 i f (8 + i) = f (8 + i) := if_neg (by omega)
    have eu : hI (hR g 53 (thR 8 i f)) 53 i (f (8 + i)) = hR g 53 (thR 8 (i + 1) f) := by
      rw [hI_R, hR_same, hR_hR]
      congr 1
      funext j
      unfold upd thR
      by_cases hj : j = i
      · rw [if_pos hj, if_pos (by omega), hj]
      · rw [if_neg hj]
        by_cases hj' : j < i
        · rw [if_pos hj', if_pos (by omega)]
        · rw [if_neg hj', if_neg (by omega)]
    rw [st_X10_takeHalf_2]
    simp (disch := first | omega | decide) only [st_X10_takeHalf_3, st_X10_takeHalf_4, st_X10_takeHalf_5, st_X10_takeHalf_6, st_X10_takeHalf_7, st_X10_takeHalf_10, st_X10_takeHalf_11, st_X10_takeHalf_12, st_X10_takeHalf_13, st_X10_takeHalf_14, st_X10_takeHalf_15, st_X10_takeHalf_16, st_X10_takeHalf_17, st_X10_takeHalf_18, st_X10_takeHalf_19, st_X10_takeHalf_20, st_X10_takeHalf_21, st_X10_takeHalf_24, bM_some, ln_53, ha_53, hw_53, ed, nn_lt, show i < 8 by omega, if_true, nn_add, nn_out, nn_clamp, cond_false, hR_same, ev, eu, lc_r, lc_i, nn_r1, Nat.reduceAdd]
theorem th_53 : bc d M_X10_takeHalf none 0 [some (.ref 53), none] [] (hp t g) cn sn = some (.inl none, hp t (hR g 53 (thR 8 8 (g.1 53))), cn, sn) := by
  have e := thl_53 (d := d) (t := t) (g := g) (cn := cn) (sn := sn) (f := g.1 53) 8 0 (by omega)
  rw [show thR 8 0 (g.1 53) = g.1 53 from funext fun j => if_neg (Nat.not_lt_zero j), hR_self, show Int32.ofNat 0 = (0 : Int32) from rfl] at e
  rw [← e]
  simp (disch := omega) only [st_X10_takeHalf_0, st_X10_takeHalf_1, lc_r]
theorem ln_54 {pc : Nat} {r : List Value} : px_len none pc (.ref 54 :: r) (hp t g) = some (pc + 1, .int 16 :: r, hp t g) := rfl
theorem thl_54 {f : Rw} : ∀ m i : Nat, i + m = 8 → bc d M_X10_takeHalf none 2 [some (.ref 54), some (.int (Int32.ofNat i))] [] (hp t (hR g 54 (thR 8 i f))) cn sn = some (.inl none, hp t (hR g 54 (thR 8 8 f)), cn, sn) := by
  have ed : (16 : Int32) / 2 = Int32.ofNat 8 := by decide
  intro m
  induction m with
  | zero =>
    intro i hi
    obtain rfl : i = 8 := by omega
    rw [st_X10_takeHalf_2]
    simp (disch := first | omega | decide) only [st_X10_takeHalf_3, st_X10_takeHalf_4, st_X10_takeHalf_5, st_X10_takeHalf_6, st_X10_takeHalf_7, st_X10_takeHalf_27, bM_some, ln_54, ed, nn_lt, Nat.lt_irrefl, if_false, Nat.reduceAdd]
  | succ m ih =>
    intro i hi
    have e := ih (i + 1) (by omega)
    rw [← e]
    have ev : thR 8 i f (8 + i) = f (8 + i) := if_neg (by omega)
    have eu : hI (hR g 54 (thR 8 i f)) 54 i (f (8 + i)) = hR g 54 (thR 8 (i + 1) f) := by
      rw [hI_R, hR_same, hR_hR]
      congr 1
      funext j
      unfold upd thR
      by_cases hj : j = i
      · rw [if_pos hj, if_pos (by omega), hj]
      · rw [if_neg hj]
        by_cases hj' : j < i
        · rw [if_pos hj', if_pos (by omega)]
        · rw [if_neg hj', if_neg (by omega)]
    rw [st_X10_takeHalf_2]
    simp (disch := first | omega | decide) only [st_X10_takeHalf_3, st_X10_takeHalf_4, st_X10_takeHalf_5, st_X10_takeHalf_6, st_X10_takeHalf_7, st_X10_takeHalf_10, st_X10_takeHalf_11, st_X10_takeHalf_12, st_X10_takeHalf_13, st_X10_takeHalf_14, st_X10_takeHalf_15, st_X10_takeHalf_16, st_X10_takeHalf_17, st_X10_takeHalf_18, st_X10_takeHalf_19, st_X10_takeHalf_20, st_X10_takeHalf_21, st_X10_takeHalf_24, bM_some, ln_54, ha_54, hw_54, ed, nn_lt, show i < 8 by omega, if_true, nn_add, nn_out, nn_clamp, cond_false, hR_same, ev, eu, lc_r, lc_i, nn_r1, Nat.reduceAdd]
theorem th_54 : bc d M_X10_takeHalf none 0 [some (.ref 54), none] [] (hp t g) cn sn = some (.inl none, hp t (hR g 54 (thR 8 8 (g.1 54))), cn, sn) := by
  have e := thl_54 (d := d) (t := t) (g := g) (cn := cn) (sn := sn) (f := g.1 54) 8 0 (by omega)
  rw [show thR 8 0 (g.1 54) = g.1 54 from funext fun j => if_neg (Nat.not_lt_zero j), hR_self, show Int32.ofNat 0 = (0 : Int32) from rfl] at e
  rw [← e]
  simp (disch := omega) only [st_X10_takeHalf_0, st_X10_takeHalf_1, lc_r]
theorem ln_55 {pc : Nat} {r : List Value} : px_len none pc (.ref 55 :: r) (hp t g) = some (pc + 1, .int 16 :: r, hp t g) := rfl
theorem thl_55 {f : Rw} : ∀ m i : Nat, i + m = 8 → bc d M_X10_takeHalf none 2 [some (.ref 55), some (.int (Int32.ofNat i))] [] (hp t (hR g 55 (thR 8 i f))) cn sn = some (.inl none, hp t (hR g 55 (thR 8 8 f)), cn, sn) := by
  have ed : (16 : Int32) / 2 = Int32.ofNat 8 := by decide
  intro m
  induction m with
  | zero =>
    intro i hi
    obtain rfl : i = 8 := by omega
    rw [st_X10_takeHalf_2]
    simp (disch := first | omega | decide) only [st_X10_takeHalf_3, st_X10_takeHalf_4, st_X10_takeHalf_5, st_X10_takeHalf_6, st_X10_takeHalf_7, st_X10_takeHalf_27, bM_some, ln_55, ed, nn_lt, Nat.lt_irrefl, if_false, Nat.reduceAdd]
  | succ m ih =>
    intro i hi
    have e := ih (i + 1) (by omega)
    rw [← e]
    have ev : thR 8 i f (8 + i) = f (8 + i) := if_neg (by omega)
    have eu : hI (hR g 55 (thR 8 i f)) 55 i (f (8 + i)) = hR g 55 (thR 8 (i + 1) f) := by
      rw [hI_R, hR_same, hR_hR]
      congr 1
      funext j
      unfold upd thR
      by_cases hj : j = i
      · rw [if_pos hj, if_pos (by omega), hj]
      · rw [if_neg hj]
        by_cases hj' : j < i
        · rw [if_pos hj', if_pos (by omega)]
        · rw [if_neg hj', if_neg (by omega)]
    rw [st_X10_takeHalf_2]
    simp (disch := first | omega | decide) only [st_X10_takeHalf_3, st_X10_takeHalf_4, st_X10_takeHalf_5, st_X10_takeHalf_6, st_X10_takeHalf_7, st_X10_takeHalf_10, st_X10_takeHalf_11, st_X10_takeHalf_12, st_X10_takeHalf_13, st_X10_takeHalf_14, st_X10_takeHalf_15, st_X10_takeHalf_16, st_X10_takeHalf_17, st_X10_takeHalf_18, st_X10_takeHalf_19, st_X10_takeHalf_20, st_X10_takeHalf_21, st_X10_takeHalf_24, bM_some, ln_55, ha_55, hw_55, ed, nn_lt, show i < 8 by omega, if_true, nn_add, nn_out, nn_clamp, cond_false, hR_same, ev, eu, lc_r, lc_i, nn_r1, Nat.reduceAdd]
theorem th_55 : bc d M_X10_takeHalf none 0 [some (.ref 55), none] [] (hp t g) cn sn = some (.inl none, hp t (hR g 55 (thR 8 8 (g.1 55))), cn, sn) := by
  have e := thl_55 (d := d) (t := t) (g := g) (cn := cn) (sn := sn) (f := g.1 55) 8 0 (by omega)
  rw [show thR 8 0 (g.1 55) = g.1 55 from funext fun j => if_neg (Nat.not_lt_zero j), hR_self, show Int32.ofNat 0 = (0 : Int32) from rfl] at e
  rw [← e]
  simp (disch := omega) only [st_X10_takeHalf_0, st_X10_takeHalf_1, lc_r]
theorem ln_56 {pc : Nat} {r : List Value} : px_len none pc (.ref 56 :: r) (hp t g) = some (pc + 1, .int 16 :: r, hp t g) := rfl
theorem thl_56 {f : Rw} : ∀ m i : Nat, i + m = 8 → bc d M_X10_takeHalf none 2 [some (.ref 56), some (.int (Int32.ofNat i))] [] (hp t (hR g 56 (thR 8 i f))) cn sn = some (.inl none, hp t (hR g 56 (thR 8 8 f)), cn, sn) := by
  have ed : (16 : Int32) / 2 = Int32.ofNat 8 := by decide
  intro m
  induction m with
  | zero =>
    intro i hi
    obtain rfl : i = 8 := by omega
    rw [st_X10_takeHalf_2]
    simp (disch := first | omega | decide) only [st_X10_takeHalf_3, st_X10_takeHalf_4, st_X10_takeHalf_5, st_X10_takeHalf_6, st_X10_takeHalf_7, st_X10_takeHalf_27, bM_some, ln_56, ed, nn_lt, Nat.lt_irrefl, if_false, Nat.reduceAdd]
  | succ m ih =>
    intro i hi
    have e := ih (i + 1) (by omega)
    rw [← e]
    have ev : thR 8 i f (8 + i) = f (8 + i) := if_neg (by omega)
    have eu : hI (hR g 56 (thR 8 i f)) 56 i (f (8 + i)) = hR g 56 (thR 8 (i + 1) f) := by
      rw [hI_R, hR_same, hR_hR]
      congr 1
      funext j
      unfold upd thR
      by_cases hj : j = i
      · rw [if_pos hj, if_pos (by omega), hj]
      · rw [if_neg hj]
        by_cases hj' : j < i
        · rw [if_pos hj', if_pos (by omega)]
        · rw [if_neg hj', if_neg (by omega)]
    rw [st_X10_takeHalf_2]
    simp (disch := first | omega | decide) only [st_X10_takeHalf_3, st_X10_takeHalf_4, st_X10_takeHalf_5, st_X10_takeHalf_6, st_X10_takeHalf_7, st_X10_takeHalf_10, st_X10_takeHalf_11, st_X10_takeHalf_12, st_X10_takeHalf_13, st_X10_takeHalf_14, st_X10_takeHalf_15, st_X10_takeHalf_16, st_X10_takeHalf_17, st_X10_takeHalf_18, st_X10_takeHalf_19, st_X10_takeHalf_20, st_X10_takeHalf_21, st_X10_takeHalf_24, bM_some, ln_56, ha_56, hw_56, ed, nn_lt, show i < 8 by omega, if_true, nn_add, nn_out, nn_clamp, cond_false, hR_same, ev, eu, lc_r, lc_i, nn_r1, Nat.reduceAdd]
theorem th_56 : bc d M_X10_takeHalf none 0 [some (.ref 56), none] [] (hp t g) cn sn = some (.inl none, hp t (hR g 56 (thR 8 8 (g.1 56))), cn, sn) := by
  have e := thl_56 (d := d) (t := t) (g := g) (cn := cn) (sn := sn) (f := g.1 56) 8 0 (by omega)
  rw [show thR 8 0 (g.1 56) = g.1 56 from funext fun j => if_neg (Nat.not_lt_zero j), hR_self, show Int32.ofNat 0 = (0 : Int32) from rfl] at e
  rw [← e]
  simp (disch := omega) only [st_X10_takeHalf_0, st_X10_takeHalf_1, lc_r]
theorem ln_57 {pc : Nat} {r : List Value} : px_len none pc (.ref 57 :: r) (hp t g) = some (pc + 1, .int 16 :: r, hp t g) := rfl
theorem thl_57 {f : Rw} : ∀ m i : Nat, i + m = 8 → bc d M_X10_takeHalf none 2 [some (.ref 57), some (.int (Int32.ofNat i))] [] (hp t (hR g 57 (thR 8 i f))) cn sn = some (.inl none, hp t (hR g 57 (thR 8 8 f)), cn, sn) := by
  have ed : (16 : Int32) / 2 = Int32.ofNat 8 := by decide
  intro m
  induction m with
  | zero =>
    intro i hi
    obtain rfl : i = 8 := by omega
    rw [st_X10_takeHalf_2]
    simp (disch := first | omega | decide) only [st_X10_takeHalf_3, st_X10_takeHalf_4, st_X10_takeHalf_5, st_X10_takeHalf_6, st_X10_takeHalf_7, st_X10_takeHalf_27, bM_some, ln_57, ed, nn_lt, Nat.lt_irrefl, if_false, Nat.reduceAdd]
  | succ m ih =>
    intro i hi
    have e := ih (i + 1) (by omega)
    rw [← e]
    have ev : thR 8 i f (8 + i) = f (8 + i) := if_neg (by omega)
    have eu : hI (hR g 57 (thR 8 i f)) 57 i (f (8 + i)) = hR g 57 (thR 8 (i + 1) f) := by
      rw [hI_R, hR_same, hR_hR]
      congr 1
      funext j
      unfold upd thR
      by_cases hj : j = i
      · rw [if_pos hj, if_pos (by omega), hj]
      · rw [if_neg hj]
        by_cases hj' : j < i
        · rw [if_pos hj', if_pos (by omega)]
        · rw [if_neg hj', if_neg (by omega)]
    rw [st_X10_takeHalf_2]
    simp (disch := first | omega | decide) only [st_X10_takeHalf_3, st_X10_takeHalf_4, st_X10_takeHalf_5, st_X10_takeHalf_6, st_X10_takeHalf_7, st_X10_takeHalf_10, st_X10_takeHalf_11, st_X10_takeHalf_12, st_X10_takeHalf_13, st_X10_takeHalf_14, st_X10_takeHalf_15, st_X10_takeHalf_16, st_X10_takeHalf_17, st_X10_takeHalf_18, st_X10_takeHalf_19, st_X10_takeHalf_20, st_X10_takeHalf_21, st_X10_takeHalf_24, bM_some, ln_57, ha_57, hw_57, ed, nn_lt, show i < 8 by omega, if_true, nn_add, nn_out, nn_clamp, cond_false, hR_same, ev, eu, lc_r, lc_i, nn_r1, Nat.reduceAdd]
theorem th_57 : bc d M_X10_takeHalf none 0 [some (.ref 57), none] [] (hp t g) cn sn = some (.inl none, hp t (hR g 57 (thR 8 8 (g.1 57))), cn, sn) := by
  have e := thl_57 (d := d) (t := t) (g := g) (cn := cn) (sn := sn) (f := g.1 57) 8 0 (by omega)
  rw [show thR 8 0 (g.1 57) = g.1 57 from funext fun j => if_neg (Nat.not_lt_zero j), hR_self, show Int32.ofNat 0 = (0 : Int32) from rfl] at e
  rw [← e]
  simp (disch := omega) only [st_X10_takeHalf_0, st_X10_takeHalf_1, lc_r]
theorem ln_58 {pc : Nat} {r : List Value} : px_len none pc (.ref 58 :: r) (hp t g) = some (pc + 1, .int 8 :: r, hp t g) := rfl
theorem thl_58 {f : Rw} : ∀ m i : Nat, i + m = 4 → bc d M_X10_takeHalf none 2 [some (.ref 58), some (.int (Int32.ofNat i))] [] (hp t (hR g 58 (thR 4 i f))) cn sn = some (.inl none, hp t (hR g 58 (thR 4 4 f)), cn, sn) := by
  have ed : (8 : Int32) / 2 = Int32.ofNat 4 := by decide
  intro m
  induction m with
  | zero =>
    intro i hi
    obtain rfl : i = 4 := by omega
    rw [st_X10_takeHalf_2]
    simp (disch := first | omega | decide) only [st_X10_takeHalf_3, st_X10_takeHalf_4, st_X10_takeHalf_5, st_X10_takeHalf_6, st_X10_takeHalf_7, st_X10_takeHalf_27, bM_some, ln_58, ed, nn_lt, Nat.lt_irrefl, if_false, Nat.reduceAdd]
  | succ m ih =>
    intro i hi
    have e := ih (i + 1) (by omega)
    rw [← e]
    have ev : thR 4 i f (4 + i) = f (4 + i) := if_neg (by omega)
    have eu : hI (hR g 58 (thR 4 i f)) 58 i (f (4 + i)) = hR g 58 (thR 4 (i + 1) f) := by
      rw [hI_R, hR_same, hR_hR]
      congr 1
      funext j
      unfold upd thR
      by_cases hj : j = i
      · rw [if_pos hj, if_pos (by omega), hj]
      · rw [if_neg hj]
        by_cases hj' : j < i
        · rw [if_pos hj', if_pos (by omega)]
        · rw [if_neg hj', if_neg (by omega)]
    rw [st_X10_takeHalf_2]
    simp (disch := first | omega | decide) only [st_X10_takeHalf_3, st_X10_takeHalf_4, st_X10_takeHalf_5, st_X10_takeHalf_6, st_X10_takeHalf_7, st_X10_takeHalf_10, st_X10_takeHalf_11, st_X10_takeHalf_12, st_X10_takeHalf_13, st_X10_takeHalf_14, st_X10_takeHalf_15, st_X10_takeHalf_16, st_X10_takeHalf_17, st_X10_takeHalf_18, st_X10_takeHalf_19, st_X10_takeHalf_20, st_X10_takeHalf_21, st_X10_takeHalf_24, bM_some, ln_58, ha_58, hw_58, ed, nn_lt, show i < 4 by omega, if_true, nn_add, nn_out, nn_clamp, cond_false, hR_same, ev, eu, lc_r, lc_i, nn_r1, Nat.reduceAdd]
theorem th_58 : bc d M_X10_takeHalf none 0 [some (.ref 58), none] [] (hp t g) cn sn = some (.inl none, hp t (hR g 58 (thR 4 4 (g.1 58))), cn, sn) := by
  have e := thl_58 (d := d) (t := t) (g := g) (cn := cn) (sn := sn) (f := g.1 58) 4 0 (by omega)
  rw [show thR 4 0 (g.1 58) = g.1 58 from funext fun j => if_neg (Nat.not_lt_zero j), hR_self, show Int32.ofNat 0 = (0 : Int32) from rfl] at e
  rw [← e]
  simp (disch := omega) only [st_X10_takeHalf_0, st_X10_takeHalf_1, lc_r]
theorem ln_59 {pc : Nat} {r : List Value} : px_len none pc (.ref 59 :: r) (hp t g) = some (pc + 1, .int 10 :: r, hp t g) := rfl
theorem thl_59 {f : Rw} : ∀ m i : Nat, i + m = 5 → bc d M_X10_takeHalf none 2 [some (.ref 59), some (.int (Int32.ofNat i))] [] (hp t (hR g 59 (thR 5 i f))) cn sn = some (.inl none, hp t (hR g 59 (thR 5 5 f)), cn, sn) := by
  have ed : (10 : Int32) / 2 = Int32.ofNat 5 := by decide
  intro m
  induction m with
  | zero =>
    intro i hi
    obtain rfl : i = 5 := by omega
    rw [st_X10_takeHalf_2]
    simp (disch := first | omega | decide) only [st_X10_takeHalf_3, st_X10_takeHalf_4, st_X10_takeHalf_5, st_X10_takeHalf_6, st_X10_takeHalf_7, st_X10_takeHalf_27, bM_some, ln_59, ed, nn_lt, Nat.lt_irrefl, if_false, Nat.reduceAdd]
  | succ m ih =>
    intro i hi
    have e := ih (i + 1) (by omega)
    rw [← e]
    have ev : thR 5 i f (5 + i) = f (5 + i) := if_neg (by omega)
    have eu : hI (hR g 59 (thR 5 i f)) 59 i (f (5 + i)) = hR g 59 (thR 5 (i + 1) f) := by
      rw [hI_R, hR_same, hR_hR]
      congr 1
      funext j
      unfold upd thR
      by_cases hj : j = i
      · rw [if_pos hj, if_pos (by omega), hj]
      · rw [if_neg hj]
        by_cases hj' : j < i
        · rw [if_pos hj', if_pos (by omega)]
        · rw [if_neg hj', if_neg (by omega)]
    rw [st_X10_takeHalf_2]
    simp (disch := first | omega | decide) only [st_X10_takeHalf_3, st_X10_takeHalf_4, st_X10_takeHalf_5, st_X10_takeHalf_6, st_X10_takeHalf_7, st_X10_takeHalf_10, st_X10_takeHalf_11, st_X10_takeHalf_12, st_X10_takeHalf_13, st_X10_takeHalf_14, st_X10_takeHalf_15, st_X10_takeHalf_16, st_X10_takeHalf_17, st_X10_takeHalf_18, st_X10_takeHalf_19, st_X10_takeHalf_20, st_X10_takeHalf_21, st_X10_takeHalf_24, bM_some, ln_59, ha_59, hw_59, ed, nn_lt, show i < 5 by omega, if_true, nn_add, nn_out, nn_clamp, cond_false, hR_same, ev, eu, lc_r, lc_i, nn_r1, Nat.reduceAdd]
theorem th_59 : bc d M_X10_takeHalf none 0 [some (.ref 59), none] [] (hp t g) cn sn = some (.inl none, hp t (hR g 59 (thR 5 5 (g.1 59))), cn, sn) := by
  have e := thl_59 (d := d) (t := t) (g := g) (cn := cn) (sn := sn) (f := g.1 59) 5 0 (by omega)
  rw [show thR 5 0 (g.1 59) = g.1 59 from funext fun j => if_neg (Nat.not_lt_zero j), hR_self, show Int32.ofNat 0 = (0 : Int32) from rfl] at e
  rw [← e]
  simp (disch := omega) only [st_X10_takeHalf_0, st_X10_takeHalf_1, lc_r]
theorem ln_60 {pc : Nat} {r : List Value} : px_len none pc (.ref 60 :: r) (hp t g) = some (pc + 1, .int 30 :: r, hp t g) := rfl
theorem thl_60 {f : Rw} : ∀ m i : Nat, i + m = 15 → bc d M_X10_takeHalf none 2 [some (.ref 60), some (.int (Int32.ofNat i))] [] (hp t (hR g 60 (thR 15 i f))) cn sn = some (.inl none, hp t (hR g 60 (thR 15 15 f)), cn, sn) := by
  have ed : (30 : Int32) / 2 = Int32.ofNat 15 := by decide
  intro m
  induction m with
  | zero =>
    intro i hi
    obtain rfl : i = 15 := by omega
    rw [st_X10_takeHalf_2]
    simp (disch := first | omega | decide) only [st_X10_takeHalf_3, st_X10_takeHalf_4, st_X10_takeHalf_5, st_X10_takeHalf_6, st_X10_takeHalf_7, st_X10_takeHalf_27, bM_some, ln_60, ed, nn_lt, Nat.lt_irrefl, if_false, Nat.reduceAdd]
  | succ m ih =>
    intro i hi
    have e := ih (i + 1) (by omega)
    rw [← e]
    have ev : thR 15 i f (15 + i) = f (15 + i) := if_neg (by omega)
    have eu : hI (hR g 60 (thR 15 i f)) 60 i (f (15 + i)) = hR g 60 (thR 15 (i + 1) f) := by
      rw [hI_R, hR_same, hR_hR]
      congr 1
      funext j
      unfold upd thR
      by_cases hj : j = i
      · rw [if_pos hj, if_pos (by omega), hj]
      · rw [if_neg hj]
        by_cases hj' : j < i
        · rw [if_pos hj', if_pos (by omega)]
        · rw [if_neg hj', if_neg (by omega)]
    rw [st_X10_takeHalf_2]
    simp (disch := first | omega | decide) only [st_X10_takeHalf_3, st_X10_takeHalf_4, st_X10_takeHalf_5, st_X10_takeHalf_6, st_X10_takeHalf_7, st_X10_takeHalf_10, st_X10_takeHalf_11, st_X10_takeHalf_12, st_X10_takeHalf_13, st_X10_takeHalf_14, st_X10_takeHalf_15, st_X10_takeHalf_16, st_X10_takeHalf_17, st_X10_takeHalf_18, st_X10_takeHalf_19, st_X10_takeHalf_20, st_X10_takeHalf_21, st_X10_takeHalf_24, bM_some, ln_60, ha_60, hw_60, ed, nn_lt, show i < 15 by omega, if_true, nn_add, nn_out, nn_clamp, cond_false, hR_same, ev, eu, lc_r, lc_i, nn_r1, Nat.reduceAdd]
theorem th_60 : bc d M_X10_takeHalf none 0 [some (.ref 60), none] [] (hp t g) cn sn = some (.inl none, hp t (hR g 60 (thR 15 15 (g.1 60))), cn, sn) := by
  have e := thl_60 (d := d) (t := t) (g := g) (cn := cn) (sn := sn) (f := g.1 60) 15 0 (by omega)
  rw [show thR 15 0 (g.1 60) = g.1 60 from funext fun j => if_neg (Nat.not_lt_zero j), hR_self, show Int32.ofNat 0 = (0 : Int32) from rfl] at e
  rw [← e]
  simp (disch := omega) only [st_X10_takeHalf_0, st_X10_takeHalf_1, lc_r]
theorem ln_61 {pc : Nat} {r : List Value} : px_len none pc (.ref 61 :: r) (hp t g) = some (pc + 1, .int 1200 :: r, hp t g) := rfl
theorem thl_61 {f : Rw} : ∀ m i : Nat, i + m = 600 → bc d M_X10_takeHalf none 2 [some (.ref 61), some (.int (Int32.ofNat i))] [] (hp t (hR g 61 (thR 600 i f))) cn sn = some (.inl none, hp t (hR g 61 (thR 600 600 f)), cn, sn) := by
  have ed : (1200 : Int32) / 2 = Int32.ofNat 600 := by decide
  intro m
  induction m with
  | zero =>
    intro i hi
    obtain rfl : i = 600 := by omega
    rw [st_X10_takeHalf_2]
    simp (disch := first | omega | decide) only [st_X10_takeHalf_3, st_X10_takeHalf_4, st_X10_takeHalf_5, st_X10_takeHalf_6, st_X10_takeHalf_7, st_X10_takeHalf_27, bM_some, ln_61, ed, nn_lt, Nat.lt_irrefl, if_false, Nat.reduceAdd]
  | succ m ih =>
    intro i hi
    have e := ih (i + 1) (by omega)
    rw [← e]
    have ev : thR 600 i f (600 + i) = f (600 + i) := if_neg (by omega)
    have eu : hI (hR g 61 (thR 600 i f)) 61 i (f (600 + i)) = hR g 61 (thR 600 (i + 1) f) := by
      rw [hI_R, hR_same, hR_hR]
      congr 1
      funext j
      unfold upd thR
      by_cases hj : j = i
      · rw [if_pos hj, if_pos (by omega), hj]
      · rw [if_neg hj]
        by_cases hj' : j < i
        · rw [if_pos hj', if_pos (by omega)]
        · rw [if_neg hj', if_neg (by omega)]
    rw [st_X10_takeHalf_2]
    simp (disch := first | omega | decide) only [st_X10_takeHalf_3, st_X10_takeHalf_4, st_X10_takeHalf_5, st_X10_takeHalf_6, st_X10_takeHalf_7, st_X10_takeHalf_10, st_X10_takeHalf_11, st_X10_takeHalf_12, st_X10_takeHalf_13, st_X10_takeHalf_14, st_X10_takeHalf_15, st_X10_takeHalf_16, st_X10_takeHalf_17, st_X10_takeHalf_18, st_X10_takeHalf_19, st_X10_takeHalf_20, st_X10_takeHalf_21, st_X10_takeHalf_24, bM_some, ln_61, ha_61, hw_61, ed, nn_lt, show i < 600 by omega, if_true, nn_add, nn_out, nn_clamp, cond_false, hR_same, ev, eu, lc_r, lc_i, nn_r1, Nat.reduceAdd]
theorem th_61 : bc d M_X10_takeHalf none 0 [some (.ref 61), none] [] (hp t g) cn sn = some (.inl none, hp t (hR g 61 (thR 600 600 (g.1 61))), cn, sn) := by
  have e := thl_61 (d := d) (t := t) (g := g) (cn := cn) (sn := sn) (f := g.1 61) 600 0 (by omega)
  rw [show thR 600 0 (g.1 61) = g.1 61 from funext fun j => if_neg (Nat.not_lt_zero j), hR_self, show Int32.ofNat 0 = (0 : Int32) from rfl] at e
  rw [← e]
  simp (disch := omega) only [st_X10_takeHalf_0, st_X10_takeHalf_1, lc_r]
end MKIT2
