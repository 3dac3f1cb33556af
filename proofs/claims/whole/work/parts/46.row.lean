/-! ===== rows of the class, numbers ===== -/
def isRow (r : Nat) : Prop := r = 29 ∨ r = 30 ∨ r = 38 ∨ r = 42
theorem ha_row {t : List px_E} {g : hG} {pc r : Nat} {rest : List Value} {s : Option (Nat × (Nat → Int32))} {i : Int32} (hr : isRow r) : px_ald s pc (.int i :: .ref r :: rest) (hp t g) = bif px_out i 54 then none else some (pc + 1, .int (g.1 r i.toNatClampNeg) :: rest, hp t g) := by
  rcases hr with h | h | h | h <;> subst h <;> rfl
theorem hw_row {t : List px_E} {g : hG} {pc r : Nat} {rest : List Value} {i x : Int32} (hr : isRow r) : px_ast pc (.int x :: .int i :: .ref r :: rest) (hp t g) = bif px_out i 54 then none else some (pc + 1, rest, hp t (hI g r i.toNatClampNeg x)) := by
  rcases hr with h | h | h | h <;> subst h <;> rfl
theorem hI_R {g : hG} {c j : Nat} {x : Int32} : hI g c j x = hR g c (upd (g.1 c) j x) := rfl
theorem hR_same {g : hG} {c : Nat} {f : Nat → Int32} : (hR g c f).1 c = f := by
  show (bif Nat.beq c c then f else g.1 c) = f
  have : Nat.beq c c = true := Nat.beq_refl c
  rw [this]; rfl
theorem hR_oth {g : hG} {c k : Nat} {f : Nat → Int32} (h : ¬ k = c) : (hR g c f).1 k = g.1 k := by
  show (bif Nat.beq k c then f else g.1 k) = g.1 k
  cases z : Nat.beq k c with
  | false => rfl
  | true => exact absurd (Nat.eq_of_beq_eq_true z) h
theorem hR_hR {g : hG} {c : Nat} {f f' : Nat → Int32} : hR (hR g c f) c f' = hR g c f' := by
  unfold hR
  congr 1
  funext k
  show (bif Nat.beq k c then f' else (bif Nat.beq k c then f else g.1 k)) = _
  cases Nat.beq k c <;> rfl
theorem hR_self {g : hG} {c : Nat} : hR g c (g.1 c) = g := by
  obtain ⟨a, b⟩ := g
  unfold hR
  congr 1
  funext k
  show (bif Nat.beq k c then a c else a k) = _
  cases z : Nat.beq k c with
  | false => rfl
  | true => rw [Nat.eq_of_beq_eq_true z]; rfl
theorem hR_comm {g : hG} {c c' : Nat} {f f' : Nat → Int32} (h : ¬ c = c') : hR (hR g c f) c' f' = hR (hR g c' f') c f := by
  unfold hR
  congr 1
  funext k
  show (bif Nat.beq k c' then f' else (bif Nat.beq k c then f else g.1 k)) = (bif Nat.beq k c then f else (bif Nat.beq k c' then f' else g.1 k))
  cases z : Nat.beq k c' <;> cases z' : Nat.beq k c <;> try rfl
  exact absurd ((Nat.eq_of_beq_eq_true z').symm.trans (Nat.eq_of_beq_eq_true z)) h
theorem hR_2 {g : hG} {c : Nat} {f : Nat → Int32} : (hR g c f).2 = g.2 := rfl
theorem hJ_1 {g : hG} {c j : Nat} {x : Int64} : (hJ g c j x).1 = g.1 := rfl
theorem upd_at {f : Nat → Int32} {i k : Nat} {x : Int32} : upd f i x k = if k = i then x else f k := rfl
theorem upd_same {f : Nat → Int32} {i : Nat} {x : Int32} : upd f i x i = x := by rw [upd_at, if_pos rfl]
theorem upd_oth {f : Nat → Int32} {i k : Nat} {x : Int32} (h : ¬ k = i) : upd f i x k = f k := by rw [upd_at, if_neg h]
theorem upd_upd {f : Nat → Int32} {i : Nat} {x y : Int32} : upd (upd f i x) i y = upd f i y := by
  funext k; simp only [upd_at]; split <;> rfl
/-- numbers -/
theorem nn_lt {a b : Nat} (ha : a < 2147483648) (hb : b < 2147483648) : (Int32.ofNat a < Int32.ofNat b) = (a < b) := by
  have := (Int32.ofNat_le_ofNat hb ha)
  apply propext
  rw [← Int32.not_le, ← Nat.not_le]
  exact not_congr this
theorem nn_clamp {a : Nat} (ha : a < 2147483648) : (Int32.ofNat a).toNatClampNeg = a := by
  rw [Int32.toNatClampNeg]
  rw [Int32.toInt_ofNat_of_lt ha]
  rfl
theorem nn_out {a n : Nat} (ha : a < 2147483648) (hn : a < n) : px_out (Int32.ofNat a) n = false := by
  unfold px_out
  rw [nn_clamp ha]
  have h1 : ¬ (Int32.ofNat a < 0) := by
    rw [show (0 : Int32) = Int32.ofNat 0 from rfl, nn_lt ha (by decide)]
    exact Nat.not_lt_zero _
  have h2 : Nat.ble n a = false := by
    cases z : Nat.ble n a with
    | false => rfl
    | true => have := Nat.le_of_ble_eq_true z; omega
  rw [decide_eq_false h1, h2]; rfl
theorem nn_suc {a : Nat} : Int32.ofNat a + 1 = Int32.ofNat (a + 1) := (Int32.ofNat_add a 1).symm
theorem nn_inj {a b : Nat} (ha : a < 2147483648) (hb : b < 2147483648) : (Int32.ofNat a = Int32.ofNat b) = (a = b) := by
  apply propext
  constructor
  · intro h
    have := congrArg Int32.toNatClampNeg h
    rwa [nn_clamp ha, nn_clamp hb] at this
  · intro h; rw [h]
theorem nn_add {a b : Nat} : Int32.ofNat a + Int32.ofNat b = Int32.ofNat (a + b) := (Int32.ofNat_add a b).symm
theorem nn_mul {a b : Nat} : Int32.ofNat a * Int32.ofNat b = Int32.ofNat (a * b) := (Int32.ofNat_mul a b).symm

theorem nn_1 {j : Nat} : (1 : Int32) + Int32.ofNat j = Int32.ofNat (1 + j) := (Int32.ofNat_add 1 j).symm
theorem nn_r1 {j : Nat} : Int32.ofNat j + 1 = Int32.ofNat (j + 1) := (Int32.ofNat_add j 1).symm
theorem nn_m1 {j : Nat} : (1 : Int32) * Int32.ofNat j = Int32.ofNat (1 * j) := (Int32.ofNat_mul 1 j).symm
theorem nn_t1 {j : Nat} : Int32.ofNat j * 1 = Int32.ofNat (j * 1) := (Int32.ofNat_mul j 1).symm

theorem nn_2 {j : Nat} : (2 : Int32) + Int32.ofNat j = Int32.ofNat (2 + j) := (Int32.ofNat_add 2 j).symm
theorem nn_r2 {j : Nat} : Int32.ofNat j + 2 = Int32.ofNat (j + 2) := (Int32.ofNat_add j 2).symm
theorem nn_m2 {j : Nat} : (2 : Int32) * Int32.ofNat j = Int32.ofNat (2 * j) := (Int32.ofNat_mul 2 j).symm
theorem nn_t2 {j : Nat} : Int32.ofNat j * 2 = Int32.ofNat (j * 2) := (Int32.ofNat_mul j 2).symm

theorem nn_3 {j : Nat} : (3 : Int32) + Int32.ofNat j = Int32.ofNat (3 + j) := (Int32.ofNat_add 3 j).symm
theorem nn_r3 {j : Nat} : Int32.ofNat j + 3 = Int32.ofNat (j + 3) := (Int32.ofNat_add j 3).symm
theorem nn_m3 {j : Nat} : (3 : Int32) * Int32.ofNat j = Int32.ofNat (3 * j) := (Int32.ofNat_mul 3 j).symm
theorem nn_t3 {j : Nat} : Int32.ofNat j * 3 = Int32.ofNat (j * 3) := (Int32.ofNat_mul j 3).symm

theorem nn_4 {j : Nat} : (4 : Int32) + Int32.ofNat j = Int32.ofNat (4 + j) := (Int32.ofNat_add 4 j).symm
theorem nn_r4 {j : Nat} : Int32.ofNat j + 4 = Int32.ofNat (j + 4) := (Int32.ofNat_add j 4).symm
theorem nn_m4 {j : Nat} : (4 : Int32) * Int32.ofNat j = Int32.ofNat (4 * j) := (Int32.ofNat_mul 4 j).symm
theorem nn_t4 {j : Nat} : Int32.ofNat j * 4 = Int32.ofNat (j * 4) := (Int32.ofNat_mul j 4).symm

theorem nn_5 {j : Nat} : (5 : Int32) + Int32.ofNat j = Int32.ofNat (5 + j) := (Int32.ofNat_add 5 j).symm
theorem nn_r5 {j : Nat} : Int32.ofNat j + 5 = Int32.ofNat (j + 5) := (Int32.ofNat_add j 5).symm
theorem nn_m5 {j : Nat} : (5 : Int32) * Int32.ofNat j = Int32.ofNat (5 * j) := (Int32.ofNat_mul 5 j).symm
theorem nn_t5 {j : Nat} : Int32.ofNat j * 5 = Int32.ofNat (j * 5) := (Int32.ofNat_mul j 5).symm

theorem nn_6 {j : Nat} : (6 : Int32) + Int32.ofNat j = Int32.ofNat (6 + j) := (Int32.ofNat_add 6 j).symm
theorem nn_r6 {j : Nat} : Int32.ofNat j + 6 = Int32.ofNat (j + 6) := (Int32.ofNat_add j 6).symm
theorem nn_m6 {j : Nat} : (6 : Int32) * Int32.ofNat j = Int32.ofNat (6 * j) := (Int32.ofNat_mul 6 j).symm
theorem nn_t6 {j : Nat} : Int32.ofNat j * 6 = Int32.ofNat (j * 6) := (Int32.ofNat_mul j 6).symm

theorem nn_7 {j : Nat} : (7 : Int32) + Int32.ofNat j = Int32.ofNat (7 + j) := (Int32.ofNat_add 7 j).symm
theorem nn_r7 {j : Nat} : Int32.ofNat j + 7 = Int32.ofNat (j + 7) := (Int32.ofNat_add j 7).symm
theorem nn_m7 {j : Nat} : (7 : Int32) * Int32.ofNat j = Int32.ofNat (7 * j) := (Int32.ofNat_mul 7 j).symm
theorem nn_t7 {j : Nat} : Int32.ofNat j * 7 = Int32.ofNat (j * 7) := (Int32.ofNat_mul j 7).symm

theorem nn_8 {j : Nat} : (8 : Int32) + Int32.ofNat j = Int32.ofNat (8 + j) := (Int32.ofNat_add 8 j).symm
theorem nn_r8 {j : Nat} : Int32.ofNat j + 8 = Int32.ofNat (j + 8) := (Int32.ofNat_add j 8).symm
theorem nn_m8 {j : Nat} : (8 : Int32) * Int32.ofNat j = Int32.ofNat (8 * j) := (Int32.ofNat_mul 8 j).symm
theorem nn_t8 {j : Nat} : Int32.ofNat j * 8 = Int32.ofNat (j * 8) := (Int32.ofNat_mul j 8).symm

theorem nn_9 {j : Nat} : (9 : Int32) + Int32.ofNat j = Int32.ofNat (9 + j) := (Int32.ofNat_add 9 j).symm
theorem nn_r9 {j : Nat} : Int32.ofNat j + 9 = Int32.ofNat (j + 9) := (Int32.ofNat_add j 9).symm
theorem nn_m9 {j : Nat} : (9 : Int32) * Int32.ofNat j = Int32.ofNat (9 * j) := (Int32.ofNat_mul 9 j).symm
theorem nn_t9 {j : Nat} : Int32.ofNat j * 9 = Int32.ofNat (j * 9) := (Int32.ofNat_mul j 9).symm

theorem nn_10 {j : Nat} : (10 : Int32) + Int32.ofNat j = Int32.ofNat (10 + j) := (Int32.ofNat_add 10 j).symm
theorem nn_r10 {j : Nat} : Int32.ofNat j + 10 = Int32.ofNat (j + 10) := (Int32.ofNat_add j 10).symm
theorem nn_m10 {j : Nat} : (10 : Int32) * Int32.ofNat j = Int32.ofNat (10 * j) := (Int32.ofNat_mul 10 j).symm
theorem nn_t10 {j : Nat} : Int32.ofNat j * 10 = Int32.ofNat (j * 10) := (Int32.ofNat_mul j 10).symm

theorem nn_16 {j : Nat} : (16 : Int32) + Int32.ofNat j = Int32.ofNat (16 + j) := (Int32.ofNat_add 16 j).symm
theorem nn_r16 {j : Nat} : Int32.ofNat j + 16 = Int32.ofNat (j + 16) := (Int32.ofNat_add j 16).symm
theorem nn_m16 {j : Nat} : (16 : Int32) * Int32.ofNat j = Int32.ofNat (16 * j) := (Int32.ofNat_mul 16 j).symm
theorem nn_t16 {j : Nat} : Int32.ofNat j * 16 = Int32.ofNat (j * 16) := (Int32.ofNat_mul j 16).symm

theorem nn_24 {j : Nat} : (24 : Int32) + Int32.ofNat j = Int32.ofNat (24 + j) := (Int32.ofNat_add 24 j).symm
theorem nn_r24 {j : Nat} : Int32.ofNat j + 24 = Int32.ofNat (j + 24) := (Int32.ofNat_add j 24).symm
theorem nn_m24 {j : Nat} : (24 : Int32) * Int32.ofNat j = Int32.ofNat (24 * j) := (Int32.ofNat_mul 24 j).symm
theorem nn_t24 {j : Nat} : Int32.ofNat j * 24 = Int32.ofNat (j * 24) := (Int32.ofNat_mul j 24).symm

theorem nn_32 {j : Nat} : (32 : Int32) + Int32.ofNat j = Int32.ofNat (32 + j) := (Int32.ofNat_add 32 j).symm
theorem nn_r32 {j : Nat} : Int32.ofNat j + 32 = Int32.ofNat (j + 32) := (Int32.ofNat_add j 32).symm
theorem nn_m32 {j : Nat} : (32 : Int32) * Int32.ofNat j = Int32.ofNat (32 * j) := (Int32.ofNat_mul 32 j).symm
theorem nn_t32 {j : Nat} : Int32.ofNat j * 32 = Int32.ofNat (j * 32) := (Int32.ofNat_mul j 32).symm

theorem nn_40 {j : Nat} : (40 : Int32) + Int32.ofNat j = Int32.ofNat (40 + j) := (Int32.ofNat_add 40 j).symm
theorem nn_r40 {j : Nat} : Int32.ofNat j + 40 = Int32.ofNat (j + 40) := (Int32.ofNat_add j 40).symm
theorem nn_m40 {j : Nat} : (40 : Int32) * Int32.ofNat j = Int32.ofNat (40 * j) := (Int32.ofNat_mul 40 j).symm
theorem nn_t40 {j : Nat} : Int32.ofNat j * 40 = Int32.ofNat (j * 40) := (Int32.ofNat_mul j 40).symm

theorem nn_48 {j : Nat} : (48 : Int32) + Int32.ofNat j = Int32.ofNat (48 + j) := (Int32.ofNat_add 48 j).symm
theorem nn_r48 {j : Nat} : Int32.ofNat j + 48 = Int32.ofNat (j + 48) := (Int32.ofNat_add j 48).symm
theorem nn_m48 {j : Nat} : (48 : Int32) * Int32.ofNat j = Int32.ofNat (48 * j) := (Int32.ofNat_mul 48 j).symm
theorem nn_t48 {j : Nat} : Int32.ofNat j * 48 = Int32.ofNat (j * 48) := (Int32.ofNat_mul j 48).symm

theorem nn_54 {j : Nat} : (54 : Int32) + Int32.ofNat j = Int32.ofNat (54 + j) := (Int32.ofNat_add 54 j).symm
theorem nn_r54 {j : Nat} : Int32.ofNat j + 54 = Int32.ofNat (j + 54) := (Int32.ofNat_add j 54).symm
theorem nn_m54 {j : Nat} : (54 : Int32) * Int32.ofNat j = Int32.ofNat (54 * j) := (Int32.ofNat_mul 54 j).symm
theorem nn_t54 {j : Nat} : Int32.ofNat j * 54 = Int32.ofNat (j * 54) := (Int32.ofNat_mul j 54).symm

theorem nn_60 {j : Nat} : (60 : Int32) + Int32.ofNat j = Int32.ofNat (60 + j) := (Int32.ofNat_add 60 j).symm
theorem nn_r60 {j : Nat} : Int32.ofNat j + 60 = Int32.ofNat (j + 60) := (Int32.ofNat_add j 60).symm
theorem nn_m60 {j : Nat} : (60 : Int32) * Int32.ofNat j = Int32.ofNat (60 * j) := (Int32.ofNat_mul 60 j).symm
theorem nn_t60 {j : Nat} : Int32.ofNat j * 60 = Int32.ofNat (j * 60) := (Int32.ofNat_mul j 60).symm

theorem nn_600 {j : Nat} : (600 : Int32) + Int32.ofNat j = Int32.ofNat (600 + j) := (Int32.ofNat_add 600 j).symm
theorem nn_r600 {j : Nat} : Int32.ofNat j + 600 = Int32.ofNat (j + 600) := (Int32.ofNat_add j 600).symm
theorem nn_m600 {j : Nat} : (600 : Int32) * Int32.ofNat j = Int32.ofNat (600 * j) := (Int32.ofNat_mul 600 j).symm
theorem nn_t600 {j : Nat} : Int32.ofNat j * 600 = Int32.ofNat (j * 600) := (Int32.ofNat_mul j 600).symm

theorem nn_1200 {j : Nat} : (1200 : Int32) + Int32.ofNat j = Int32.ofNat (1200 + j) := (Int32.ofNat_add 1200 j).symm
theorem nn_r1200 {j : Nat} : Int32.ofNat j + 1200 = Int32.ofNat (j + 1200) := (Int32.ofNat_add j 1200).symm
theorem nn_m1200 {j : Nat} : (1200 : Int32) * Int32.ofNat j = Int32.ofNat (1200 * j) := (Int32.ofNat_mul 1200 j).symm
theorem nn_t1200 {j : Nat} : Int32.ofNat j * 1200 = Int32.ofNat (j * 1200) := (Int32.ofNat_mul j 1200).symm

theorem nn_2160 {j : Nat} : (2160 : Int32) + Int32.ofNat j = Int32.ofNat (2160 + j) := (Int32.ofNat_add 2160 j).symm
theorem nn_r2160 {j : Nat} : Int32.ofNat j + 2160 = Int32.ofNat (j + 2160) := (Int32.ofNat_add j 2160).symm
theorem nn_m2160 {j : Nat} : (2160 : Int32) * Int32.ofNat j = Int32.ofNat (2160 * j) := (Int32.ofNat_mul 2160 j).symm
theorem nn_t2160 {j : Nat} : Int32.ofNat j * 2160 = Int32.ofNat (j * 2160) := (Int32.ofNat_mul j 2160).symm

theorem dv_5 : ((5 : Int32) = 0) = False := by decide
theorem dv_10 : ((10 : Int32) = 0) = False := by decide
theorem dv_3 : ((3 : Int32) = 0) = False := by decide
theorem dv_2 : ((2 : Int32) = 0) = False := by decide
theorem dv_4 : ((4 : Int32) = 0) = False := by decide
theorem dv_40 : ((40 : Int32) = 0) = False := by decide
theorem in_m1 : Int32.ofInt (-1) = -1 := by decide
theorem in_m8 : Int32.ofInt (-8) = -8 := by decide
/-- two ends that differ in their answers alone -/
theorem r_ite {P : Prop} {q : Decidable P} {x y : Int32} {h : px_H} {c k : Nat} : (@ite _ P q (some (.inl (some (.int x)), h, c, k)) (some (.inl (some (.int y)), h, c, k)) : Option (px_Res × px_H × Nat × Nat)) = some (.inl (some (.int (@ite _ P q x y))), h, c, k) := by
  split <;> rfl
/-- two ends that differ in a row alone -/
theorem w_ite {P : Prop} {q : Decidable P} {t : List px_E} {g : hG} {r : Nat} {f f' : Nat → Int32} {v : Option Value} {c k : Nat} : (@ite _ P q (some (.inl v, hp t (hR g r f), c, k)) (some (.inl v, hp t (hR g r f'), c, k)) : Option (px_Res × px_H × Nat × Nat)) = some (.inl v, hp t (hR g r (@ite _ P q f f')), c, k) := by
  split <;> rfl
theorem bC_ite {P : Prop} {q : Decidable P} {a b : Option (px_Res × px_H × Nat × Nat)} {f : Option Value → px_H → Nat → Nat → Option (px_Res × px_H × Nat × Nat)} {g : Nat → px_H → Nat → Nat → Option (px_Res × px_H × Nat × Nat)} : bC (@ite _ P q a b) f g = @ite _ P q (bC a f g) (bC b f g) := by
  split <;> rfl
theorem r_ign {α : Type} {P : Prop} {q : Decidable P} {x : α} : @ite _ P q x x = x := by split <;> rfl
theorem nn_one0 : ((1 : Int32) = 0) = False := by decide
theorem nn_00 : ((0 : Int32) = 0) = True := by decide
theorem nn_neg0 : ((-1 : Int32) = 0) = False := by decide
theorem nn_c0 : (0 : Int32).toNatClampNeg = 0 := by decide
theorem nn_c1 : (1 : Int32).toNatClampNeg = 1 := by decide
theorem nn_c2 : (2 : Int32).toNatClampNeg = 2 := by decide
theorem nn_c3 : (3 : Int32).toNatClampNeg = 3 := by decide
theorem nn_c4 : (4 : Int32).toNatClampNeg = 4 := by decide
theorem nn_c5 : (5 : Int32).toNatClampNeg = 5 := by decide
theorem nn_c6 : (6 : Int32).toNatClampNeg = 6 := by decide
theorem nn_c7 : (7 : Int32).toNatClampNeg = 7 := by decide
theorem nn_c8 : (8 : Int32).toNatClampNeg = 8 := by decide
theorem nn_c53 : (53 : Int32).toNatClampNeg = 53 := by decide
theorem nn_o53 : px_out 53 54 = false := by decide
theorem nn_o0 {n : Nat} : px_out 0 (n + 1) = false := by
  unfold px_out; rfl
theorem lc_i {x : Int32} : lc_c2 (some (.int x)) = some (.int x) := rfl
theorem lc_r {x : Nat} : lc_c2 (some (.ref x)) = some (.ref x) := rfl
theorem lc_f {x : UInt32} : lc_c2 (some (.float x)) = some (.float x) := rfl
theorem lc_j {x : Int64} : lc_c2 (some (.long x)) = none := rfl
theorem lc_z : lc_c2 (some .null) = some .null := rfl
theorem lc_n : lc_c2 none = none := rfl
theorem nn_lz {a : Nat} (ha : a < 2147483648) : (0 < Int32.ofNat a) = (0 < a) := nn_lt (a := 0) (by decide) ha
theorem nn_l0 {a : Nat} (ha : a < 2147483648) : (Int32.ofNat a < 0) = (a < 0) := nn_lt (b := 0) ha (by decide)
theorem nn_g0 {a : Nat} (ha : a < 2147483648) : (0 < Int32.ofNat a) = (0 < a) := nn_lt (a := 0) (by decide) ha
theorem nn_e0 {a : Nat} (ha : a < 2147483648) : (Int32.ofNat a = 0) = (a = 0) := nn_inj (b := 0) ha (by decide)
theorem nn_l1 {a : Nat} (ha : a < 2147483648) : (Int32.ofNat a < 1) = (a < 1) := nn_lt (b := 1) ha (by decide)
theorem nn_g1 {a : Nat} (ha : a < 2147483648) : (1 < Int32.ofNat a) = (1 < a) := nn_lt (a := 1) (by decide) ha
theorem nn_e1 {a : Nat} (ha : a < 2147483648) : (Int32.ofNat a = 1) = (a = 1) := nn_inj (b := 1) ha (by decide)
theorem nn_l3 {a : Nat} (ha : a < 2147483648) : (Int32.ofNat a < 3) = (a < 3) := nn_lt (b := 3) ha (by decide)
theorem nn_g3 {a : Nat} (ha : a < 2147483648) : (3 < Int32.ofNat a) = (3 < a) := nn_lt (a := 3) (by decide) ha
theorem nn_e3 {a : Nat} (ha : a < 2147483648) : (Int32.ofNat a = 3) = (a = 3) := nn_inj (b := 3) ha (by decide)
theorem nn_l4 {a : Nat} (ha : a < 2147483648) : (Int32.ofNat a < 4) = (a < 4) := nn_lt (b := 4) ha (by decide)
theorem nn_g4 {a : Nat} (ha : a < 2147483648) : (4 < Int32.ofNat a) = (4 < a) := nn_lt (a := 4) (by decide) ha
theorem nn_e4 {a : Nat} (ha : a < 2147483648) : (Int32.ofNat a = 4) = (a = 4) := nn_inj (b := 4) ha (by decide)
theorem nn_l5 {a : Nat} (ha : a < 2147483648) : (Int32.ofNat a < 5) = (a < 5) := nn_lt (b := 5) ha (by decide)
theorem nn_g5 {a : Nat} (ha : a < 2147483648) : (5 < Int32.ofNat a) = (5 < a) := nn_lt (a := 5) (by decide) ha
theorem nn_e5 {a : Nat} (ha : a < 2147483648) : (Int32.ofNat a = 5) = (a = 5) := nn_inj (b := 5) ha (by decide)
theorem nn_l8 {a : Nat} (ha : a < 2147483648) : (Int32.ofNat a < 8) = (a < 8) := nn_lt (b := 8) ha (by decide)
theorem nn_g8 {a : Nat} (ha : a < 2147483648) : (8 < Int32.ofNat a) = (8 < a) := nn_lt (a := 8) (by decide) ha
theorem nn_e8 {a : Nat} (ha : a < 2147483648) : (Int32.ofNat a = 8) = (a = 8) := nn_inj (b := 8) ha (by decide)
theorem nn_l20 {a : Nat} (ha : a < 2147483648) : (Int32.ofNat a < 20) = (a < 20) := nn_lt (b := 20) ha (by decide)
theorem nn_g20 {a : Nat} (ha : a < 2147483648) : (20 < Int32.ofNat a) = (20 < a) := nn_lt (a := 20) (by decide) ha
theorem nn_e20 {a : Nat} (ha : a < 2147483648) : (Int32.ofNat a = 20) = (a = 20) := nn_inj (b := 20) ha (by decide)
theorem nn_l30 {a : Nat} (ha : a < 2147483648) : (Int32.ofNat a < 30) = (a < 30) := nn_lt (b := 30) ha (by decide)
theorem nn_g30 {a : Nat} (ha : a < 2147483648) : (30 < Int32.ofNat a) = (30 < a) := nn_lt (a := 30) (by decide) ha
theorem nn_e30 {a : Nat} (ha : a < 2147483648) : (Int32.ofNat a = 30) = (a = 30) := nn_inj (b := 30) ha (by decide)
theorem nn_l40 {a : Nat} (ha : a < 2147483648) : (Int32.ofNat a < 40) = (a < 40) := nn_lt (b := 40) ha (by decide)
theorem nn_g40 {a : Nat} (ha : a < 2147483648) : (40 < Int32.ofNat a) = (40 < a) := nn_lt (a := 40) (by decide) ha
theorem nn_e40 {a : Nat} (ha : a < 2147483648) : (Int32.ofNat a = 40) = (a = 40) := nn_inj (b := 40) ha (by decide)
theorem nn_l60 {a : Nat} (ha : a < 2147483648) : (Int32.ofNat a < 60) = (a < 60) := nn_lt (b := 60) ha (by decide)
theorem nn_g60 {a : Nat} (ha : a < 2147483648) : (60 < Int32.ofNat a) = (60 < a) := nn_lt (a := 60) (by decide) ha
theorem nn_e60 {a : Nat} (ha : a < 2147483648) : (Int32.ofNat a = 60) = (a = 60) := nn_inj (b := 60) ha (by decide)
theorem nn_l61 {a : Nat} (ha : a < 2147483648) : (Int32.ofNat a < 61) = (a < 61) := nn_lt (b := 61) ha (by decide)
theorem nn_g61 {a : Nat} (ha : a < 2147483648) : (61 < Int32.ofNat a) = (61 < a) := nn_lt (a := 61) (by decide) ha
theorem nn_e61 {a : Nat} (ha : a < 2147483648) : (Int32.ofNat a = 61) = (a = 61) := nn_inj (b := 61) ha (by decide)
theorem nn_l90 {a : Nat} (ha : a < 2147483648) : (Int32.ofNat a < 90) = (a < 90) := nn_lt (b := 90) ha (by decide)
theorem nn_g90 {a : Nat} (ha : a < 2147483648) : (90 < Int32.ofNat a) = (90 < a) := nn_lt (a := 90) (by decide) ha
theorem nn_e90 {a : Nat} (ha : a < 2147483648) : (Int32.ofNat a = 90) = (a = 90) := nn_inj (b := 90) ha (by decide)
theorem nn_l120 {a : Nat} (ha : a < 2147483648) : (Int32.ofNat a < 120) = (a < 120) := nn_lt (b := 120) ha (by decide)
theorem nn_g120 {a : Nat} (ha : a < 2147483648) : (120 < Int32.ofNat a) = (120 < a) := nn_lt (a := 120) (by decide) ha
theorem nn_e120 {a : Nat} (ha : a < 2147483648) : (Int32.ofNat a = 120) = (a = 120) := nn_inj (b := 120) ha (by decide)
theorem nn_l600 {a : Nat} (ha : a < 2147483648) : (Int32.ofNat a < 600) = (a < 600) := nn_lt (b := 600) ha (by decide)
theorem nn_g600 {a : Nat} (ha : a < 2147483648) : (600 < Int32.ofNat a) = (600 < a) := nn_lt (a := 600) (by decide) ha
theorem nn_e600 {a : Nat} (ha : a < 2147483648) : (Int32.ofNat a = 600) = (a = 600) := nn_inj (b := 600) ha (by decide)
theorem nn_p1 {a : Nat} (h : 1 ≤ a) : Int32.ofNat a - 1 = Int32.ofNat (a - 1) := by
  obtain ⟨b, rfl⟩ := Nat.exists_eq_add_of_le h
  rw [Nat.add_sub_cancel_left, Int32.ofNat_add, Int32.add_comm]
  exact Int32.add_sub_cancel _ _
theorem nn_q1 {a : Nat} (h : 1 ≤ a) : Int32.ofNat a + -1 = Int32.ofNat (a - 1) := by
  rw [← nn_p1 h, Int32.sub_eq_add_neg]
theorem nn_nneg {a : Nat} (ha : a < 2147483648) : (Int32.ofNat a = -1) = False := by
  apply propext
  constructor
  · intro h
    have := congrArg Int32.toInt h
    rw [Int32.toInt_ofNat_of_lt ha] at this
    have h2 : (-1 : Int32).toInt = -1 := by decide
    omega
  · exact False.elim
/-- ints as integers -/
theorem ii_add {a b : Int32} (h1 : -2147483648 ≤ a.toInt + b.toInt) (h2 : a.toInt + b.toInt ≤ 2147483647) : (a + b).toInt = a.toInt + b.toInt := by
  rw [Int32.toInt_add]; exact Int.bmod_eq_of_le (by omega) (by omega)
theorem ii_sub {a b : Int32} (h1 : -2147483648 ≤ a.toInt - b.toInt) (h2 : a.toInt - b.toInt ≤ 2147483647) : (a - b).toInt = a.toInt - b.toInt := by
  rw [Int32.toInt_sub]; exact Int.bmod_eq_of_le (by omega) (by omega)
theorem ii_mul {a b : Int32} (h1 : -2147483648 ≤ a.toInt * b.toInt) (h2 : a.toInt * b.toInt ≤ 2147483647) : (a * b).toInt = a.toInt * b.toInt := by
  rw [Int32.toInt_mul]; exact Int.bmod_eq_of_le (by omega) (by omega)
theorem ii_lt {a b : Int32} : (a < b) = (a.toInt < b.toInt) := propext Int32.lt_iff_toInt_lt
theorem ii_le {a b : Int32} : (a ≤ b) = (a.toInt ≤ b.toInt) := propext Int32.le_iff_toInt_le
theorem ii_eq {a b : Int32} : (a = b) = (a.toInt = b.toInt) := propext Int32.toInt_inj.symm
theorem ti_0 : (0 : Int32).toInt = 0 := by decide
theorem ti_1 : (1 : Int32).toInt = 1 := by decide
theorem ti_2 : (2 : Int32).toInt = 2 := by decide
theorem ti_3 : (3 : Int32).toInt = 3 := by decide
theorem ti_4 : (4 : Int32).toInt = 4 := by decide
theorem ti_5 : (5 : Int32).toInt = 5 := by decide
theorem ti_6 : (6 : Int32).toInt = 6 := by decide
theorem ti_7 : (7 : Int32).toInt = 7 := by decide
theorem ti_8 : (8 : Int32).toInt = 8 := by decide
theorem ti_9 : (9 : Int32).toInt = 9 := by decide
theorem ti_10 : (10 : Int32).toInt = 10 := by decide
theorem ti_11 : (11 : Int32).toInt = 11 := by decide
theorem ti_12 : (12 : Int32).toInt = 12 := by decide
theorem ti_15 : (15 : Int32).toInt = 15 := by decide
theorem ti_16 : (16 : Int32).toInt = 16 := by decide
theorem ti_20 : (20 : Int32).toInt = 20 := by decide
theorem ti_24 : (24 : Int32).toInt = 24 := by decide
theorem ti_30 : (30 : Int32).toInt = 30 := by decide
theorem ti_32 : (32 : Int32).toInt = 32 := by decide
theorem ti_34 : (34 : Int32).toInt = 34 := by decide
theorem ti_40 : (40 : Int32).toInt = 40 := by decide
theorem ti_48 : (48 : Int32).toInt = 48 := by decide
theorem ti_53 : (53 : Int32).toInt = 53 := by decide
theorem ti_54 : (54 : Int32).toInt = 54 := by decide
theorem ti_57 : (57 : Int32).toInt = 57 := by decide
theorem ti_58 : (58 : Int32).toInt = 58 := by decide
theorem ti_59 : (59 : Int32).toInt = 59 := by decide
theorem ti_60 : (60 : Int32).toInt = 60 := by decide
theorem ti_61 : (61 : Int32).toInt = 61 := by decide
theorem ti_63 : (63 : Int32).toInt = 63 := by decide
theorem ti_72 : (72 : Int32).toInt = 72 := by decide
theorem ti_90 : (90 : Int32).toInt = 90 := by decide
theorem ti_95 : (95 : Int32).toInt = 95 := by decide
theorem ti_97 : (97 : Int32).toInt = 97 := by decide
theorem ti_100 : (100 : Int32).toInt = 100 := by decide
theorem ti_120 : (120 : Int32).toInt = 120 := by decide
theorem ti_122 : (122 : Int32).toInt = 122 := by decide
theorem ti_150 : (150 : Int32).toInt = 150 := by decide
theorem ti_255 : (255 : Int32).toInt = 255 := by decide
theorem ti_600 : (600 : Int32).toInt = 600 := by decide
theorem ti_1000 : (1000 : Int32).toInt = 1000 := by decide
theorem ti_9999 : (9999 : Int32).toInt = 9999 := by decide
theorem ti_10000 : (10000 : Int32).toInt = 10000 := by decide
theorem ti_10007 : (10007 : Int32).toInt = 10007 := by decide
theorem ti_10008 : (10008 : Int32).toInt = 10008 := by decide
theorem ti_10009 : (10009 : Int32).toInt = 10009 := by decide
theorem ti_10010 : (10010 : Int32).toInt = 10010 := by decide
theorem ti_10011 : (10011 : Int32).toInt = 10011 := by decide
theorem ti_10012 : (10012 : Int32).toInt = 10012 := by decide
theorem ti_10013 : (10013 : Int32).toInt = 10013 := by decide
theorem ti_10014 : (10014 : Int32).toInt = 10014 := by decide
theorem ti_10015 : (10015 : Int32).toInt = 10015 := by decide
theorem ti_100000 : (100000 : Int32).toInt = 100000 := by decide
theorem ti_1000000 : (1000000 : Int32).toInt = 1000000 := by decide
theorem ti_m1 : (-1 : Int32).toInt = -1 := by decide
theorem ti_m2 : (-2 : Int32).toInt = -2 := by decide
theorem ii_clamp {a : Int32} : (a.toNatClampNeg : Int) = max a.toInt 0 := by
  rw [Int32.toNatClampNeg]; omega
theorem ii_out {a : Int32} {n : Nat} (h0 : 0 ≤ a.toInt) (h1 : a.toInt < n) : px_out a n = false := by
  unfold px_out
  have h2 : ¬ a < 0 := by rw [ii_lt, ti_0]; omega
  have h3 : Nat.ble n a.toNatClampNeg = false := by
    cases z : Nat.ble n a.toNatClampNeg with
    | false => rfl
    | true =>
      have z1 := Nat.le_of_ble_eq_true z
      have z2 := ii_clamp (a := a)
      omega
  rw [decide_eq_false h2, h3]; rfl
theorem ii_nat {a : Int32} (h0 : 0 ≤ a.toInt) : Int32.ofNat a.toNatClampNeg = a := by
  rw [ii_eq, Int32.toInt_ofNat_of_lt (by have := ii_clamp (a := a); have := Int32.toInt_lt a; omega), ii_clamp]
  omega
theorem ii_ofNat {a : Nat} (h : a < 2147483648) : (Int32.ofNat a).toInt = a := Int32.toInt_ofNat_of_lt h
theorem nn_oc0 : ∀ {n : Nat}, px_out 0 (n + 0 + 1) = false := by
  intro n
  unfold px_out
  rw [decide_eq_false (by decide), Bool.false_or]
  cases z : Nat.ble (n + 0 + 1) (0 : Int32).toNatClampNeg with
  | false => rfl
  | true =>
    have h1 := Nat.le_of_ble_eq_true z
    have h2 : (0 : Int32).toNatClampNeg = 0 := by decide
    omega
theorem nn_oc1 : ∀ {n : Nat}, px_out 1 (n + 1 + 1) = false := by
  intro n
  unfold px_out
  rw [decide_eq_false (by decide), Bool.false_or]
  cases z : Nat.ble (n + 1 + 1) (1 : Int32).toNatClampNeg with
  | false => rfl
  | true =>
    have h1 := Nat.le_of_ble_eq_true z
    have h2 : (1 : Int32).toNatClampNeg = 1 := by decide
    omega
theorem nn_oc2 : ∀ {n : Nat}, px_out 2 (n + 2 + 1) = false := by
  intro n
  unfold px_out
  rw [decide_eq_false (by decide), Bool.false_or]
  cases z : Nat.ble (n + 2 + 1) (2 : Int32).toNatClampNeg with
  | false => rfl
  | true =>
    have h1 := Nat.le_of_ble_eq_true z
    have h2 : (2 : Int32).toNatClampNeg = 2 := by decide
    omega
theorem nn_oc3 : ∀ {n : Nat}, px_out 3 (n + 3 + 1) = false := by
  intro n
  unfold px_out
  rw [decide_eq_false (by decide), Bool.false_or]
  cases z : Nat.ble (n + 3 + 1) (3 : Int32).toNatClampNeg with
  | false => rfl
  | true =>
    have h1 := Nat.le_of_ble_eq_true z
    have h2 : (3 : Int32).toNatClampNeg = 3 := by decide
    omega
theorem nn_oc4 : ∀ {n : Nat}, px_out 4 (n + 4 + 1) = false := by
  intro n
  unfold px_out
  rw [decide_eq_false (by decide), Bool.false_or]
  cases z : Nat.ble (n + 4 + 1) (4 : Int32).toNatClampNeg with
  | false => rfl
  | true =>
    have h1 := Nat.le_of_ble_eq_true z
    have h2 : (4 : Int32).toNatClampNeg = 4 := by decide
    omega
theorem nn_oc5 : ∀ {n : Nat}, px_out 5 (n + 5 + 1) = false := by
  intro n
  unfold px_out
  rw [decide_eq_false (by decide), Bool.false_or]
  cases z : Nat.ble (n + 5 + 1) (5 : Int32).toNatClampNeg with
  | false => rfl
  | true =>
    have h1 := Nat.le_of_ble_eq_true z
    have h2 : (5 : Int32).toNatClampNeg = 5 := by decide
    omega
theorem nn_oc6 : ∀ {n : Nat}, px_out 6 (n + 6 + 1) = false := by
  intro n
  unfold px_out
  rw [decide_eq_false (by decide), Bool.false_or]
  cases z : Nat.ble (n + 6 + 1) (6 : Int32).toNatClampNeg with
  | false => rfl
  | true =>
    have h1 := Nat.le_of_ble_eq_true z
    have h2 : (6 : Int32).toNatClampNeg = 6 := by decide
    omega
theorem nn_77 : ((10007 : Int32) < 10007) = False := by decide
