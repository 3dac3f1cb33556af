/-! ===== the class: the draft taken, the evening opened ===== -/
def tkG (g : hG) : hG := hR (hI (hR (hR (hR (hR (hR (hR (hR (hR (hI (hI (hI g 16 10 (g.1 3 10)) 16 11 (g.1 3 11)) 16 12 (g.1 3 12)) 17 (va_cpy (g.1 4) (g.1 17) 0 0 8)) 18 (va_cpy (g.1 5) (g.1 18) 0 0 8)) 19 (va_cpy (g.1 6) (g.1 19) 0 0 8)) 20 (va_cpy (g.1 7) (g.1 20) 0 0 8)) 21 (va_cpy (g.1 8) (g.1 21) 0 0 8)) 22 (va_cpy (g.1 9) (g.1 22) 0 0 4)) 23 (va_cpy (g.1 10) (g.1 23) 0 0 5)) 24 (va_cpy (g.1 11) (g.1 24) 0 0 15)) 25 2 (g.1 12 2)) 26 (va_cpy (g.1 13) (g.1 26) 0 0 600)
section CTAKE
variable {d D : Nat} {t : List px_E} {g : hG} {n cn sn : Nat} {x y : Int32} {N : Nat} {f : Rw}
set_option maxHeartbeats 8000000 in
theorem c_take : bc (d + 3) M_X4_take none 0 [some (.ref 16), some (.ref 3)] [] (hp t g) cn sn = some (.inl none, hp t (tkG g), cn, sn) := by
  have v0 : (0 : Int32).toNatClampNeg = 0 := by decide
  have v8 : (8 : Int32).toNatClampNeg = 8 := by decide
  have v4 : (4 : Int32).toNatClampNeg = 4 := by decide
  have v5 : (5 : Int32).toNatClampNeg = 5 := by decide
  have v15 : (15 : Int32).toNatClampNeg = 15 := by decide
  have v600 : (600 : Int32).toNatClampNeg = 600 := by decide
  have p8 : px_cpok 0 0 8 8 8 = true := by decide
  have p4 : px_cpok 0 0 4 4 4 = true := by decide
  have p5 : px_cpok 0 0 5 5 5 = true := by decide
  have p15 : px_cpok 0 0 15 15 15 = true := by decide
  have p600 : px_cpok 0 0 600 600 600 = true := by decide
  simp (disch := omega) only [st_X4_take_0, st_X4_take_1, st_X4_take_2, st_X4_take_5, st_X4_take_8, st_X4_take_9, st_X4_take_10, st_X4_take_13, st_X4_take_16, st_X4_take_17, st_X4_take_18, st_X4_take_21, st_X4_take_24, st_X4_take_25, st_X4_take_28, st_X4_take_29, st_X4_take_30, st_X4_take_33, st_X4_take_34, st_X4_take_36, st_X4_take_39, st_X4_take_40, st_X4_take_43, st_X4_take_44, st_X4_take_45, st_X4_take_48, st_X4_take_49, st_X4_take_51, st_X4_take_54, st_X4_take_55, st_X4_take_58, st_X4_take_59, st_X4_take_60, st_X4_take_63, st_X4_take_64, st_X4_take_66, st_X4_take_69, st_X4_take_70, st_X4_take_73, st_X4_take_74, st_X4_take_75, st_X4_take_78, st_X4_take_79, st_X4_take_81, st_X4_take_84, st_X4_take_85, st_X4_take_88, st_X4_take_89, st_X4_take_90, st_X4_take_93, st_X4_take_94, st_X4_take_96, st_X4_take_99, st_X4_take_100, st_X4_take_103, st_X4_take_104, st_X4_take_105, st_X4_take_108, st_X4_take_109, st_X4_take_110, st_X4_take_113, st_X4_take_114, st_X4_take_117, st_X4_take_118, st_X4_take_119, st_X4_take_122, st_X4_take_123, st_X4_take_124, st_X4_take_127, st_X4_take_128, st_X4_take_131, st_X4_take_132, st_X4_take_133, st_X4_take_136, st_X4_take_137, st_X4_take_139, st_X4_take_142, st_X4_take_143, st_X4_take_146, st_X4_take_147, st_X4_take_153, st_X7_take_0, st_X7_take_1, st_X7_take_2, st_X7_take_5, st_X7_take_8, st_X7_take_9, st_X7_take_12, st_X7_take_13, st_X7_take_14, st_X7_take_17, st_X7_take_18, st_X7_take_21, st_X7_take_24, st_X4_take_150 (p := 25) hq_25 ps_, bM_some, bP_some, hg_3_0, hg_3_1, hg_3_2, hg_3_3, hg_3_4, hg_3_5, hg_3_6, hg_3_7, hg_3_8, hg_3_10, hg_3_11, hg_3_12, hg_16_0, hg_16_1, hg_16_2, hg_16_3, hg_16_4, hg_16_5, hg_16_6, hg_16_7, hg_16_8, hs_16_10, hs_16_11, hs_16_12, hg_12_0, hg_12_2, hg_25_0, hs_25_2, hcp_4_17, hcp_5_18, hcp_6_19, hcp_7_20, hcp_8_21, hcp_9_22, hcp_10_23, hcp_11_24, hcp_13_26, v0, v8, v4, v5, v15, v600, p8, p4, p5, p15, p600, cond_true, bC_inl, Option.toList, List.nil_append, Nat.add_zero, Nat.reduceAdd]
  rfl
theorem cop_1 : ∀ m i : Nat, i + m = 8 → ∀ f : Rw, bc d M_X4_open none 7 [some (.ref 16), some (.ref 29), some (.int (Int32.ofNat i))] [] (hp t (hR g 29 f)) cn sn = bc d M_X4_open none 32 [some (.ref 16), some (.ref 29), some (.int (Int32.ofNat 8))] [] (hp t (hR g 29 (fun j => if (i ≤ j ∧ j < 8) ∨ (40 + i ≤ j ∧ j < 48) then -1 else f j))) cn sn := by
  intro m
  induction m with
  | zero =>
    intro i hi f
    obtain rfl : i = 8 := by omega
    rw [show (fun j => if (8 ≤ j ∧ j < 8) ∨ (40 + 8 ≤ j ∧ j < 48) then -1 else f j) = f from funext fun j => if_neg (by omega), st_X4_open_7]
    simp (disch := omega) only [st_X4_open_8, st_X4_open_10, nn_l8, Nat.lt_irrefl, if_false]
  | succ m ih =>
    intro i hi f
    have l0 : (0 : Int32) + Int32.ofNat i = Int32.ofNat (0 + i) := nn_add (a := 0)
    have l40 : (40 : Int32) + Int32.ofNat i = Int32.ofNat (40 + i) := nn_add (a := 40)
    have eu : hI (hI (hR g 29 f) 29 (0 + i) (-1)) 29 (40 + i) (-1) = hR g 29 (upd (upd f i (-1)) (40 + i) (-1)) := by
      rw [Nat.zero_add, hI_R, hI_R, hR_same, hR_hR, hR_same, hR_hR]
    have e := ih (i + 1) (by omega) (upd (upd f i (-1)) (40 + i) (-1))
    rw [show (fun j => if (i + 1 ≤ j ∧ j < 8) ∨ (40 + (i + 1) ≤ j ∧ j < 48) then -1 else upd (upd f i (-1)) (40 + i) (-1) j) = (fun j => if (i ≤ j ∧ j < 8) ∨ (40 + i ≤ j ∧ j < 48) then -1 else f j) from funext fun j => by
      unfold upd
      repeat' split
      all_goals first | rfl | (exfalso; omega)] at e
    rw [← e, st_X4_open_7]
    simp (disch := omega) only [st_X4_open_8, st_X4_open_10, st_X4_open_13, st_X4_open_14, st_X4_open_15, st_X4_open_16, st_X4_open_17, st_X4_open_18, st_X4_open_19, st_X4_open_20, st_X4_open_22, st_X4_open_23, st_X4_open_24, st_X4_open_25, st_X4_open_26, st_X4_open_29, bM_some, hw_29, nn_l8, show i < 8 by omega, if_true, l0, l40, nn_out, nn_clamp, cond_false, eu, lc_r, lc_i, nn_r1, Nat.reduceAdd]
theorem cop_2 (hN : N ≤ 8) (h10 : g.1 16 10 = Int32.ofNat N) : ∀ m i : Nat, i + m = N → ∀ f : Rw, bc d M_X4_open none 34 [some (.ref 16), some (.ref 29), some (.int (Int32.ofNat i))] [] (hp t (hR g 29 f)) cn sn = bc d M_X4_open none 72 [some (.ref 16), some (.ref 29), some (.int (Int32.ofNat N))] [] (hp t (hR g 29 (fun j => if 16 + i ≤ j ∧ j < 16 + N then g.1 20 (j - 16) else if 24 + i ≤ j ∧ j < 24 + N then g.1 21 (j - 24) else f j))) cn sn := by
  intro m
  induction m with
  | zero =>
    intro i hi f
    obtain rfl : i = N := by omega
    rw [show (fun j => if 16 + i ≤ j ∧ j < 16 + i then g.1 20 (j - 16) else if 24 + i ≤ j ∧ j < 24 + i then g.1 21 (j - 24) else f j) = f from funext fun j => by rw [if_neg (by omega), if_neg (by omega)], st_X4_open_34]
    have h10' : (hR g 29 f).1 16 10 = Int32.ofNat i := h10
    simp (disch := omega) only [st_X4_open_35, st_X4_open_36, st_X4_open_39, bM_some, hg_16_10, h10', nn_lt, Nat.lt_irrefl, if_false, Nat.reduceAdd]
  | succ m ih =>
    intro i hi f
    have l16 : (16 : Int32) + Int32.ofNat i = Int32.ofNat (16 + i) := nn_add (a := 16)
    have l24 : (24 : Int32) + Int32.ofNat i = Int32.ofNat (24 + i) := nn_add (a := 24)
    have h10' : (hR g 29 f).1 16 10 = Int32.ofNat N := h10
    have r20 : (hR g 29 f).1 20 i = g.1 20 i := rfl
    have r21 : (hI (hR g 29 f) 29 (16 + i) (g.1 20 i)).1 21 i = g.1 21 i := rfl
    have eu : hI (hI (hR g 29 f) 29 (16 + i) (g.1 20 i)) 29 (24 + i) (g.1 21 i) = hR g 29 (upd (upd f (16 + i) (g.1 20 i)) (24 + i) (g.1 21 i)) := by
      rw [hI_R, hI_R, hR_same, hR_hR, hR_same, hR_hR]
    have e := ih (i + 1) (by omega) (upd (upd f (16 + i) (g.1 20 i)) (24 + i) (g.1 21 i))
    rw [show (fun j => if 16 + (i + 1) ≤ j ∧ j < 16 + N then g.1 20 (j - 16) else if 24 + (i + 1) ≤ j ∧ j < 24 + N then g.1 21 (j - 24) else upd (upd f (16 + i) (g.1 20 i)) (24 + i) (g.1 21 i) j) = (fun j => if 16 + i ≤ j ∧ j < 16 + N then g.1 20 (j - 16) else if 24 + i ≤ j ∧ j < 24 + N then g.1 21 (j - 24) else f j) from funext fun j => by
      unfold upd
      repeat' split
      all_goals first | rfl | (exfalso; omega) | (subst_vars; simp only [Nat.add_sub_cancel_left])] at e
    rw [← e, st_X4_open_34]
    simp (disch := omega) only [st_X4_open_35, st_X4_open_36, st_X4_open_39, st_X4_open_42, st_X4_open_43, st_X4_open_45, st_X4_open_46, st_X4_open_47, st_X4_open_48, st_X4_open_51, st_X4_open_52, st_X4_open_53, st_X4_open_54, st_X4_open_55, st_X4_open_57, st_X4_open_58, st_X4_open_59, st_X4_open_60, st_X4_open_63, st_X4_open_64, st_X4_open_65, st_X4_open_66, st_X4_open_69, bM_some, hg_16_10, hg_16_3, hg_16_4, ha_20, ha_21, hw_29, h10', nn_lt, show i < N by omega, if_true, l16, l24, r20, r21, nn_out, nn_clamp, cond_false, eu, lc_r, lc_i, nn_r1, Nat.reduceAdd]
theorem cop_3 : ∀ m i : Nat, i + m = 5 → ∀ f : Rw, bc d M_X4_open none 74 [some (.ref 16), some (.ref 29), some (.int (Int32.ofNat i))] [] (hp t (hR g 29 f)) cn sn = some (.inl none, hp t (hR g 29 (fun j => if 48 + i ≤ j ∧ j < 53 then -1 else f j)), cn, sn) := by
  intro m
  induction m with
  | zero =>
    intro i hi f
    obtain rfl : i = 5 := by omega
    rw [show (fun j => if 48 + 5 ≤ j ∧ j < 53 then -1 else f j) = f from funext fun j => if_neg (by omega), st_X4_open_74]
    simp (disch := omega) only [st_X4_open_75, st_X4_open_76, st_X4_open_92, nn_l5, Nat.lt_irrefl, if_false]
  | succ m ih =>
    intro i hi f
    have l48 : (48 : Int32) + Int32.ofNat i = Int32.ofNat (48 + i) := nn_add (a := 48)
    have eu : hI (hR g 29 f) 29 (48 + i) (-1) = hR g 29 (upd f (48 + i) (-1)) := by rw [hI_R, hR_same, hR_hR]
    have e := ih (i + 1) (by omega) (upd f (48 + i) (-1))
    rw [show (fun j => if 48 + (i + 1) ≤ j ∧ j < 53 then -1 else upd f (48 + i) (-1) j) = (fun j => if 48 + i ≤ j ∧ j < 53 then -1 else f j) from funext fun j => by
      unfold upd
      repeat' split
      all_goals first | rfl | (exfalso; omega)] at e
    rw [← e, st_X4_open_74]
    simp (disch := omega) only [st_X4_open_75, st_X4_open_76, st_X4_open_79, st_X4_open_80, st_X4_open_82, st_X4_open_83, st_X4_open_84, st_X4_open_85, st_X4_open_86, st_X4_open_89, bM_some, hw_29, nn_l5, show i < 5 by omega, if_true, l48, nn_out, nn_clamp, cond_false, eu, lc_r, lc_i, nn_r1, Nat.reduceAdd]
set_option maxHeartbeats 2000000 in
theorem c_open (hN : N ≤ 8) (h10 : g.1 16 10 = Int32.ofNat N) (hz : Z54 (g.1 29)) : bc (d + 2) M_X4_open none 0 [some (.ref 16), some (.ref 29), none] [] (hp t g) cn sn = some (.inl none, hp t (hR g 29 (opnR (g.1 20) (g.1 21) N)), cn, sn) := by
  have ef := fill_29 (d := d + 1) (t := t) (g := g) (x := 0) (cn := 0) (sn := 0)
  have e1 := cop_1 (d := d + 2) (t := t) (g := g) (cn := cn) (sn := sn) 8 0 (by omega) (filF 0 54 0 (g.1 29))
  have e2 := cop_2 (d := d + 2) (t := t) (g := g) (cn := cn) (sn := sn) hN h10 N 0 (by omega) (fun j => if (0 ≤ j ∧ j < 8) ∨ (40 + 0 ≤ j ∧ j < 48) then -1 else filF 0 54 0 (g.1 29) j)
  have e3 := cop_3 (d := d + 2) (t := t) (g := g) (cn := cn) (sn := sn) 5 0 (by omega) (fun j => if 16 + 0 ≤ j ∧ j < 16 + N then g.1 20 (j - 16) else if 24 + 0 ≤ j ∧ j < 24 + N then g.1 21 (j - 24) else if (0 ≤ j ∧ j < 8) ∨ (40 + 0 ≤ j ∧ j < 48) then -1 else filF 0 54 0 (g.1 29) j)
  rw [show (fun j => if 48 + 0 ≤ j ∧ j < 53 then -1 else if 16 + 0 ≤ j ∧ j < 16 + N then g.1 20 (j - 16) else if 24 + 0 ≤ j ∧ j < 24 + N then g.1 21 (j - 24) else if (0 ≤ j ∧ j < 8) ∨ (40 + 0 ≤ j ∧ j < 48) then -1 else filF 0 54 0 (g.1 29) j) = opnR (g.1 20) (g.1 21) N from funext fun j => by
    unfold opnR filF
    repeat' split
    all_goals first | rfl | (exfalso; omega) | exact hz j (by omega)] at e3
  rw [show Int32.ofNat 0 = (0 : Int32) from rfl] at e1 e2 e3
  simp (disch := omega) only [st_X4_open_0, st_X4_open_1, st_X4_open_5, st_X4_open_6, st_X4_open_2 ps_, ef, bC_inl, Option.toList, List.nil_append, Nat.add_zero, lc_r, lc_n]
  refine e1.trans ?_
  simp (disch := omega) only [st_X4_open_32, st_X4_open_33, lc_r]
  refine e2.trans ?_
  simp (disch := omega) only [st_X4_open_72, st_X4_open_73, lc_r]
  exact e3
end CTAKE
