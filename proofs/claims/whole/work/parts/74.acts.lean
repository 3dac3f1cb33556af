/-! ===== acts: the class's ring, the reference's row of rows ===== -/
theorem nn_div {a b : Nat} (ha : a < 2147483648) (hb : b < 2147483648) (h0 : 0 < b) : Int32.ofNat a / Int32.ofNat b = Int32.ofNat (a / b) := by
  have h1 : a / b ≤ a := Nat.div_le_self a b
  rw [ii_eq, ii_div (by rw [ii_ofNat ha]; omega) (by rw [ii_ofNat hb]; omega), ii_ofNat ha, ii_ofNat hb, ii_ofNat (by omega)]
  exact (Int.natCast_ediv a b).symm
theorem nn_sub {a b : Nat} (h : b ≤ a) : Int32.ofNat a - Int32.ofNat b = Int32.ofNat (a - b) := by
  obtain ⟨c, rfl⟩ := Nat.exists_eq_add_of_le h
  rw [Nat.add_sub_cancel_left, Int32.ofNat_add, Int32.add_comm]
  exact Int32.add_sub_cancel _ _
theorem nn_rem {a b : Nat} (ha : a < 2147483648) (hb : b < 2147483648) (h0 : 0 < b) : Int32.ofNat a - Int32.ofNat a / Int32.ofNat b * Int32.ofNat b = Int32.ofNat (a % b) := by
  have h1 := Nat.div_add_mod a b
  have h2 : b * (a / b) = a / b * b := Nat.mul_comm _ _
  rw [nn_div ha hb h0, nn_mul, nn_sub (by omega)]
  congr 1
  omega
theorem nn_rem40 {a : Nat} (ha : a < 2147483648) : Int32.ofNat a - Int32.ofNat a / 40 * 40 = Int32.ofNat (a % 40) := nn_rem ha (by decide) (by decide)
def pushA (n : Nat) (ac : Nat → Rw) (w : Rw) : Nat × (Nat → Rw) := if n = 40 then (40, fun i => if i = 39 then w else ac (i + 1)) else (n + 1, fun i => if i = n then w else ac i)
/-- the class keeps these acts -/
def cA (n : Nat) (ac : Nat → Rw) (g : hG) : Prop := n ≤ 40 ∧ ∃ f : Nat, f < 40 ∧ g.1 32 1 = Int32.ofNat f ∧ g.1 32 2 = Int32.ofNat n ∧ ∀ i, i < n → ∀ j, j < 54 → g.1 33 ((f + i) % 40 * 54 + j) = ac i j
/-- the reference keeps these acts -/
def mAc (n : Nat) (ac : Nat → Rw) (g : hG) : Prop := g.1 49 34 = Int32.ofNat n ∧ ∀ i, i < n → ∀ j, j < 54 → unpR (g.1 71) (54 * i) j = ac i j
def gA (g : hG) (R : Rw) (f n : Int32) : hG := hI (hI (hR g 33 R) 32 1 f) 32 2 n
section ACTS
variable {d : Nat} {t : List px_E} {g : hG} {n cn sn N S D L : Nat} {ac : Nat → Rw} {w a k : Rw} {K : Kt}
theorem cpok_a {f : Nat} (h : f < 40) : px_cpok 0 (Int32.ofNat (f * 54)) 54 54 2160 = true := by
  unfold px_cpok
  rw [nn_clamp (by omega), decide_eq_false (show ¬ Int32.ofNat (f * 54) < 0 by rw [nn_l0 (by omega)]; omega)]
  rw [show (0 : Int32).toNatClampNeg = 0 by decide, show (54 : Int32).toNatClampNeg = 54 by decide]
  have h1 : Nat.ble (f * 54 + 54) 2160 = true := Nat.ble_eq_true_of_le (by omega)
  rw [h1]
  decide
theorem cpok_b {f : Nat} (h : f < 40) : px_cpok (Int32.ofNat (f * 54)) 0 54 2160 54 = true := by
  unfold px_cpok
  rw [nn_clamp (by omega), decide_eq_false (show ¬ Int32.ofNat (f * 54) < 0 by rw [nn_l0 (by omega)]; omega)]
  rw [show (0 : Int32).toNatClampNeg = 0 by decide, show (54 : Int32).toNatClampNeg = 54 by decide]
  have h1 : Nat.ble (f * 54 + 54) 2160 = true := Nat.ble_eq_true_of_le (by omega)
  rw [h1]
  decide
theorem hR_hI {g : hG} {c c' i : Nat} {f : Rw} {x : Int32} (h : ¬ c = c') : hR (hI g c' i x) c f = hI (hR g c f) c' i x := by
  rw [hI_R, hI_R, hR_oth (fun z => h z.symm), hR_comm h]
theorem hI_cell {g : hG} {c c' i : Nat} {x : Int32} (h : ¬ c' = c) : (hI g c i x).1 c' = g.1 c' := by rw [hI_R, hR_oth h]
set_option maxHeartbeats 2000000 in
theorem c_push (h : cA n ac g) : ∃ (R : Rw) (f' : Int32), bc (d + 1) M_X0_push none 0 [some (.ref 32), some (.ref 29)] [] (hp t g) cn sn = some (.inl none, hp t (gA g R f' (Int32.ofNat (pushA n ac (g.1 29)).1)), cn, sn) ∧ cA (pushA n ac (g.1 29)).1 (pushA n ac (g.1 29)).2 (gA g R f' (Int32.ofNat (pushA n ac (g.1 29)).1)) := by
  obtain ⟨hn, f, hf, e1, e2, e3⟩ := h
  unfold pushA
  by_cases h : n = 40
  · subst h
    rw [if_pos rfl]
    refine ⟨va_cpy (g.1 29) (g.1 33) 0 (((f + 1) % 40 + 39) % 40 * 54) 54, Int32.ofNat ((f + 1) % 40), ?_, ?_⟩
    · have hc := cpok_a (f := ((f + 1) % 40 + 39) % 40) (by omega)
      simp (disch := omega) only [st_X0_push_0, bM_some, hg_32_2, st_X0_push_1, st_X0_push_4, st_X0_push_6, st_X0_push_9, st_X0_push_10, hg_32_1, st_X0_push_11, st_X0_push_14, st_X0_push_15, st_X0_push_16, st_X0_push_18v, hs_32_1, st_X0_push_19, st_X0_push_22, st_X0_push_23, st_X0_push_23r, st_X0_push_24, st_X0_push_27, st_X0_push_28, hs_32_2, st_X0_push_29, st_X0_push_32, st_X0_push_33, st_X0_push_34, hg_32_0, st_X0_push_35, st_X0_push_38, st_X0_push_39, st_X0_push_42, st_X0_push_43, st_X0_push_46, st_X0_push_47, st_X0_push_49v, st_X0_push_50, st_X0_push_52, st_X0_push_53, bP_some, hcp_29_33, cond_true, st_X0_push_55, st_X0_push_58, st_X0_push_59, st_X0_push_59r, st_X0_push_60, st_X0_push_63, st_X0_push_64, st_X0_push_65, st_X0_push_68, Nat.reduceAdd, st_X0_push_23r, st_X0_push_59r, e1, e2, nn_e40, if_true, dv_40, if_false, nn_r1, nn_rem40, nn_p1, hI_at, true_and, false_and, and_false, and_true, nn_add, nn_mul54, hc, nn_clamp, show (0 : Int32).toNatClampNeg = 0 by decide, show (54 : Int32).toNatClampNeg = 54 by decide, show ¬ (1 : Nat) = 2 by decide, show ¬ (2 : Nat) = 1 by decide, hI_cell, hI_hI, hR_hI, hR_at, show ¬ (32 : Nat) = 33 by decide, show ¬ (33 : Nat) = 32 by decide, show ¬ (29 : Nat) = 32 by decide, show 40 - 1 = 39 by decide, show 39 + 1 = 40 by decide]
      rfl
    · refine ⟨Nat.le_refl 40, (f + 1) % 40, by omega, rfl, rfl, ?_⟩
      intro i hi j hj
      show va_cpy (g.1 29) (g.1 33) 0 (((f + 1) % 40 + 39) % 40 * 54) 54 (((f + 1) % 40 + i) % 40 * 54 + j) = (if i = 39 then g.1 29 else ac (i + 1)) j
      unfold va_cpy
      by_cases hi9 : i = 39
      · rw [if_pos hi9, if_pos (by omega)]
        exact congrArg (g.1 29) (by omega)
      · rw [if_neg hi9, if_neg (by omega)]
        rw [← e3 (i + 1) (by omega) j hj]
        exact congrArg (g.1 33) (by omega)
  · rw [if_neg h]
    refine ⟨va_cpy (g.1 29) (g.1 33) 0 ((f + n) % 40 * 54) 54, Int32.ofNat f, ?_, ?_⟩
    · have hc := cpok_a (f := (f + n) % 40) (by omega)
      simp (disch := omega) only [st_X0_push_0, bM_some, hg_32_2, st_X0_push_1, st_X0_push_4, st_X0_push_6, st_X0_push_9, st_X0_push_10, hg_32_1, st_X0_push_11, st_X0_push_14, st_X0_push_15, st_X0_push_16, st_X0_push_18v, hs_32_1, st_X0_push_19, st_X0_push_22, st_X0_push_23, st_X0_push_23r, st_X0_push_24, st_X0_push_27, st_X0_push_28, hs_32_2, st_X0_push_29, st_X0_push_32, st_X0_push_33, st_X0_push_34, hg_32_0, st_X0_push_35, st_X0_push_38, st_X0_push_39, st_X0_push_42, st_X0_push_43, st_X0_push_46, st_X0_push_47, st_X0_push_49v, st_X0_push_50, st_X0_push_52, st_X0_push_53, bP_some, hcp_29_33, cond_true, st_X0_push_55, st_X0_push_58, st_X0_push_59, st_X0_push_59r, st_X0_push_60, st_X0_push_63, st_X0_push_64, st_X0_push_65, st_X0_push_68, Nat.reduceAdd, st_X0_push_59r, e1, e2, nn_e40, h, dv_40, if_false, nn_rem40, nn_add, nn_mul54, hc, nn_clamp, show (0 : Int32).toNatClampNeg = 0 by decide, show (54 : Int32).toNatClampNeg = 54 by decide, hR_at, show ¬ (32 : Nat) = 33 by decide, nn_r1]
      unfold gA
      rw [show hI (hR g 33 (va_cpy (g.1 29) (g.1 33) 0 ((f + n) % 40 * 54) 54)) 32 1 (Int32.ofNat f) = hR g 33 (va_cpy (g.1 29) (g.1 33) 0 ((f + n) % 40 * 54) 54) from by rw [← e1]; exact hI_self' (g := hR g 33 (va_cpy (g.1 29) (g.1 33) 0 ((f + n) % 40 * 54) 54)) (c := 32) (j := 1)]
    · refine ⟨by show n + 1 ≤ 40; omega, f, hf, rfl, rfl, ?_⟩
      intro i hi j hj
      have hi : i < n + 1 := hi
      show va_cpy (g.1 29) (g.1 33) 0 ((f + n) % 40 * 54) 54 ((f + i) % 40 * 54 + j) = (if i = n then g.1 29 else ac i) j
      unfold va_cpy
      by_cases hi9 : i = n
      · rw [if_pos hi9, if_pos (by subst hi9; omega)]
        exact congrArg (g.1 29) (by subst hi9; omega)
      · rw [if_neg hi9, if_neg (by omega)]
        exact e3 i (by omega) j hj
set_option maxHeartbeats 2000000 in
theorem c_pop (h : cA n ac g) (hn0 : 0 < n) (hz : Z54 (g.1 29)) (hza : Z54 (ac (n - 1))) : bc (d + 1) M_X0_pop none 0 [some (.ref 32), some (.ref 29)] [] (hp t g) cn sn = some (.inl none, hp t (hR (hI g 32 2 (Int32.ofNat (n - 1))) 29 (ac (n - 1))), cn, sn) ∧ cA (n - 1) ac (hR (hI g 32 2 (Int32.ofNat (n - 1))) 29 (ac (n - 1))) := by
  obtain ⟨hn, f, hf, e1, e2, e3⟩ := h
  have hc := cpok_b (f := (f + (n - 1)) % 40) (by omega)
  constructor
  · simp (disch := omega) only [st_X0_pop_0, bM_some, hg_32_2, st_X0_pop_1, st_X0_pop_4, st_X0_pop_7, st_X0_pop_8, st_X0_pop_8r, st_X0_pop_9, st_X0_pop_12, st_X0_pop_13, hs_32_2, st_X0_pop_14, st_X0_pop_17, hg_32_0, st_X0_pop_18, st_X0_pop_21, hg_32_1, st_X0_pop_22, st_X0_pop_25, st_X0_pop_26, st_X0_pop_29, st_X0_pop_30, st_X0_pop_32v, st_X0_pop_33, st_X0_pop_35, st_X0_pop_36, st_X0_pop_37, st_X0_pop_38, bP_some, hcp_33_29, cond_true, st_X0_pop_40, st_X0_pop_43, Nat.reduceAdd, st_X0_pop_8r, e1, e2, nn_g0, hn0, if_true, dv_40, if_false, nn_p1, hI_at, true_and, and_true, and_false, nn_rem40, nn_add, nn_mul54, hc, nn_clamp, show (0 : Int32).toNatClampNeg = 0 by decide, show (54 : Int32).toNatClampNeg = 54 by decide, show ¬ (1 : Nat) = 2 by decide, hI_cell]
    congr 4
    congr 1
    funext i
    unfold va_cpy
    by_cases hi : i < 54
    · rw [if_pos (by omega), show i - 0 = i by omega, e3 (n - 1) (by omega) i hi]
    · rw [if_neg (by omega), hz i (by omega), hza i (by omega)]
  · refine ⟨by omega, f, hf, e1, rfl, ?_⟩
    intro i hi j hj
    exact e3 i (by omega) j hj
end ACTS
