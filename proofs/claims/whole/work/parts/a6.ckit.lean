/-! ===== the class: the call that reads a kitchen ===== -/
section CKIT
variable {d D : Nat} {t : List px_E} {g : hG} {n cn sn : Nat} {x y : Int32} {N T : Nat} {f : Rw}
/-- what the call leaves when the reading found no fault: g is the heap behind the reading -/
def kdG (g : hG) (N : Nat) : hG := hI (hI (hI (hI (hI (hI (hR (tkG g) 29 (opnR ((tkG g).1 20) ((tkG g).1 21) N)) 32 1 0) 32 2 0) 34 2 0) 0 11 0) 41 4 (-1)) 37 4 0
set_option maxHeartbeats 8000000 in
theorem c_kit (hT : g.1 1 2 = Int32.ofNat T) (hT6 : T ≤ 600) (hn : n ≤ T) (hz : Z54 (g.1 29)) : ∃ g1 : hG, CR (g.1 2) n (pRead (g.1 2) n (sg0 (dC g))) g1 ∧ Sm g g1 ∧
    bc (d + 54) M_X9_kitchen none 0 [some (.ref 0), some (.int (Int32.ofNat n)), none] [] (hp t g) cn sn =
      (if (pRead (g.1 2) n (sg0 (dC g))).1 0 = 0 then some (.inl (some (.int 0)), hp t (kdG g1 ((pRead (g.1 2) n (sg0 (dC g))).1 6)), cn, sn)
      else some (.inl (some (.int (Int32.ofNat ((pRead (g.1 2) n (sg0 (dC g))).1 0)))), hp t (hI g1 31 0 (g1.1 31 0 + 1)), cn, sn)) := by
  obtain ⟨g1, c1, m1, e1⟩ := c_read (d := d) (t := t) (cn := 0) (sn := 0) hT hT6 hn
  refine ⟨g1, c1, m1, ?_⟩
  generalize pRead (g.1 2) n (sg0 (dC g)) = σ at *
  have hs0 : σ.1 0 ≤ 5 := c1.2.1.2.1
  have v0 : (0 : Int32).toNatClampNeg = 0 := by decide
  have o0 : px_out 0 3 = false := by decide
  by_cases h0 : σ.1 0 = 0
  · rw [if_pos h0]
    obtain ⟨⟨q1, q2, q3, q4⟩, -⟩ := c1.2.2.2.1.2 h0
    have hN : σ.1 6 ≤ 8 := (c1.2.2.2.2 h0).1
    have z1 : Z54 ((tkG g1).1 29) := by
      rw [show (tkG g1).1 29 = g1.1 29 from rfl, m1.2 29 (by omega)]; exact hz
    have et := c_take (d := d + 50) (t := t) (g := g1) (cn := 0) (sn := 0)
    have eo := c_open (d := d + 51) (t := t) (g := tkG g1) (cn := 0) (sn := 0) hN (show (tkG g1).1 16 10 = Int32.ofNat (σ.1 6) from q1) z1
    rw [h0, show Int32.ofNat 0 = (0 : Int32) from rfl] at e1
    simp (disch := omega) only [st_X9_kitchen_0, st_X9_kitchen_1, st_X9_kitchen_4, st_X9_kitchen_5, st_X9_kitchen_6, st_X9_kitchen_9, st_X9_kitchen_12, st_X9_kitchen_25, st_X9_kitchen_26, st_X9_kitchen_29, st_X9_kitchen_33, st_X9_kitchen_34, st_X9_kitchen_35, st_X9_kitchen_50, st_X9_kitchen_51, st_X9_kitchen_54, st_X9_kitchen_55, st_X9_kitchen_58, st_X9_kitchen_64, st_X9_kitchen_65, st_X9_kitchen_68, st_X9_kitchen_69, st_X9_kitchen_75, st_X9_kitchen_76, st_X9_kitchen_82, st_X9_kitchen_83, st_X9_kitchen_89, st_X9_kitchen_90, st_X9_kitchen_91, st_X9_kitchen_94, st_X9_kitchen_98, st_X9_kitchen_99, st_X0_clear_0, st_X0_clear_1, st_X0_clear_2, st_X0_clear_5, st_X0_clear_6, st_X0_clear_7, st_X0_clear_10, st_X2_clear_0, st_X2_clear_1, st_X2_clear_2, st_X2_clear_5, st_X9_changed_0, st_X9_changed_1, st_X9_changed_4, st_X9_changed_5, st_X9_changed_8, st_X9_changed_9, st_X9_changed_12, st_X9_changed_13, st_X9_changed_16, st_X9_kitchen_30 (p := 1) hq_1 ps_, st_X9_kitchen_61 (p := 16) hq_16 ps_, st_X9_kitchen_72 (p := 16) hq_16 ps_, st_X9_kitchen_79 (p := 32) hq_32 ps_, st_X9_kitchen_86 (p := 34) hq_34 ps_, st_X9_kitchen_95 (p := 0) hq_0 ps_, bM_some, hg_0_0, hg_0_1, hg_0_2, hg_0_5, hg_0_6, hg_0_7, hg_0_8, hg_1_1, hg_1_2, hT, nn_l0, nn_lt, show ¬ n < 0 by omega, show ¬ T < n by omega, if_false, if_true, e1, et, eo, hs_32_1, hs_32_2, hs_34_2, hs_0_11_0, hs_41_4, hs_37_4_0, bC_inl, Option.toList, List.cons_append, List.nil_append, Nat.add_zero, lc_r, lc_i, lc_n, Nat.reduceAdd]
    rfl
  · rw [if_neg h0]
    have ez : (Int32.ofNat (σ.1 0) = 0) = False := by rw [nn_e0 (by omega)]; exact eq_false h0
    simp (disch := omega) only [st_X9_kitchen_0, st_X9_kitchen_1, st_X9_kitchen_4, st_X9_kitchen_5, st_X9_kitchen_6, st_X9_kitchen_9, st_X9_kitchen_12, st_X9_kitchen_25, st_X9_kitchen_26, st_X9_kitchen_29, st_X9_kitchen_33, st_X9_kitchen_34, st_X9_kitchen_35, st_X9_kitchen_38, st_X9_kitchen_39, st_X9_kitchen_42, st_X9_kitchen_43, st_X9_kitchen_44, st_X9_kitchen_45, st_X9_kitchen_46, st_X9_kitchen_47, st_X9_kitchen_48, st_X9_kitchen_49, st_X9_kitchen_30 (p := 1) hq_1 ps_, bM_some, hg_0_0, hg_0_4, hg_1_2, hT, ha_31, hw_31, nn_l0, nn_lt, show ¬ n < 0 by omega, show ¬ T < n by omega, if_false, ez, e1, v0, o0, cond_false, bC_inl, Option.toList, List.cons_append, List.nil_append, Nat.add_zero, lc_r, lc_i, lc_n, Nat.reduceAdd]
/-- n that is none of the lengths -/
theorem c_kit_no (hT : g.1 1 2 = Int32.ofNat T) (hx : x < 0 ∨ Int32.ofNat T < x) : bc (d + 12) M_X9_kitchen none 0 [some (.ref 0), some (.int x), none] [] (hp t g) cn sn = some (.inr 0, hp t g, cn + 1, sn + 6) := by
  by_cases h0 : x < 0
  · simp (disch := omega) only [st_X9_kitchen_0, st_X9_kitchen_1, st_X9_kitchen_15, h0, if_true]
  · have h1 : Int32.ofNat T < x := hx.resolve_left h0
    simp (disch := omega) only [st_X9_kitchen_0, st_X9_kitchen_1, st_X9_kitchen_4, st_X9_kitchen_5, st_X9_kitchen_6, st_X9_kitchen_9, st_X9_kitchen_12, st_X9_kitchen_15, bM_some, hg_0_0, hg_1_2, hT, h0, h1, if_true, if_false, Nat.reduceAdd]
end CKIT
