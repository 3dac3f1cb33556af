/-! ===== rows of the class, numbers ===== -/
def isRow (r : Nat) : Prop := r = 29 ∨ r = 30 ∨ r = 38 ∨ r = 42
theorem ha_row {t : List px_E} {g : hG} {pc r : Nat} {rest : List Value} {s : Option (Nat × (Nat → Int32))} {i : Int32} (hr : isRow r) : px_ald s pc (.int i :: .ref r :: rest) (hp t g) = bif px_out i 54 then none else some (pc + 1, .int (g.1 r i.toNatClampNeg) :: rest, hp t g) := by
  rcases hr with h | h | h | h <;> subst h <;> rfl
theorem hw_row {t : List px_E} {g : hG} {pc r : Nat} {rest : List Value} {i x : Int32} (hr : isRow r) : px_ast pc (.int x :: .int i :: .ref r :: rest) (hp t g) = bif px_out i 54 then none else some (pc + 1, rest, hp t (hI g r i.toNatClampNeg x)) := by
  rcases hr with h | h | h | h <;> subst h <;> rfl
theorem hI_R {g : hG} {c j : Nat} {x : Int32} : hI g c j x = hR g c (upd (g.1 c) j x) := rfl
theorem hR_same {g : hG} {c : Nat} {f : Nat → Int32} : (hR g c f).1 c = f := by
  show (bif Nat.beq c c then f else g.1 c) = f
  have : Nat.beq c c = true := Nat.beq_refl c
  rw [this]; rfl
theorem hR_oth {g : hG} {c k : Nat} {f : Nat → Int32} (h : ¬ k = c) : (hR g c f).1 k = g.1 k := by
  show (bif Nat.beq k c then f else g.1 k) = g.1 k
  cases z : Nat.beq k c with
  | false => rfl
  | true => exact absurd (Nat.eq_of_beq_eq_true z) h
theorem hR_hR {g : hG} {c : Nat} {f f' : Nat → Int32} : hR (hR g c f) c f' = hR g c f' := by
  unfold hR
  congr 1
  funext k
  show (bif Nat.beq k c then f' else (bif Nat.beq k c then f else g.1 k)) = _
  cases Nat.beq k c <;> rfl
theorem hR_self {g : hG} {c : Nat} : hR g c (g.1 c) = g := by
  obtain ⟨a, b⟩ := g
  unfold hR
  congr 1
  funext k
  show (bif Nat.beq k c then a c else a k) = _
  cases z : Nat.beq k c with
  | false => rfl
  | true => rw [Nat.eq_of_beq_eq_true z]; rfl
theorem hR_comm {g : hG} {c c' : Nat} {f f' : Nat → Int32} (h : ¬ c = c') : hR (hR g c f) c' f' = hR (hR g c' f') c f := by
  unfold hR
  congr 1
  funext k
  show (bif Nat.beq k c' then f' else (bif Nat.beq k c then f else g.1 k)) = (bif Nat.beq k c then f else (bif Nat.beq k c' then f' else g.1 k))
  cases z : Nat.beq k c' <;> cases z' : Nat.beq k c <;> try rfl
  exact absurd ((Nat.eq_of_beq_eq_true z').symm.trans (Nat.eq_of_beq_eq_true z)) h
theorem hR_2 {g : hG} {c : Nat} {f : Nat → Int32} : (hR g c f).2 = g.2 := rfl
theorem hJ_1 {g : hG} {c j : Nat} {x : Int64} : (hJ g c j x).1 = g.1 := rfl
theorem upd_at {f : Nat → Int32} {i k : Nat} {x : Int32} : upd f i x k = if k = i then x else f k := rfl
theorem upd_same {f : Nat → Int32} {i : Nat} {x : Int32} : upd f i x i = x := by rw [upd_at, if_pos rfl]
theorem upd_oth {f : Nat → Int32} {i k : Nat} {x : Int32} (h : ¬ k = i) : upd f i x k = f k := by rw [upd_at, if_neg h]
theorem upd_upd {f : Nat → Int32} {i : Nat} {x y : Int32} : upd (upd f i x) i y = upd f i y := by
  funext k; simp only [upd_at]; split <;> rfl
/-- numbers -/
theorem nn_lt {a b : Nat} (ha : a < 2147483648) (hb : b < 2147483648) : (Int32.ofNat a < Int32.ofNat b) = (a < b) := by
  have := (Int32.ofNat_le_ofNat hb ha)
  apply propext
  rw [← Int32.not_le, ← Nat.not_le]
  exact not_congr this
theorem nn_clamp {a : Nat} (ha : a < 2147483648) : (Int32.ofNat a).toNatClampNeg = a := by
  rw [Int32.toNatClampNeg]
  rw [Int32.toInt_ofNat_of_lt ha]
  rfl
theorem nn_out {a n : Nat} (ha : a < 2147483648) (hn : a < n) : px_out (Int32.ofNat a) n = false := by
  unfold px_out
  rw [nn_clamp ha]
  have h1 : ¬ (Int32.ofNat a < 0) := by
    rw [show (0 : Int32) = Int32.ofNat 0 from rfl, nn_lt ha (by decide)]
    exact Nat.not_lt_zero _
  have h2 : Nat.ble n a = false := by
    cases z : Nat.ble n a with
    | false => rfl
    | true => have := Nat.le_of_ble_eq_true z; omega
  rw [decide_eq_false h1, h2]; rfl
theorem nn_suc {a : Nat} : Int32.ofNat a + 1 = Int32.ofNat (a + 1) := (Int32.ofNat_add a 1).symm
theorem nn_inj {a b : Nat} (ha : a < 2147483648) (hb : b < 2147483648) : (Int32.ofNat a = Int32.ofNat b) = (a = b) := by
  apply propext
  constructor
  · intro h
    have := congrArg Int32.toNatClampNeg h
    rwa [nn_clamp ha, nn_clamp hb] at this
  · intro h; rw [h]
theorem nn_add {a b : Nat} : Int32.ofNat a + Int32.ofNat b = Int32.ofNat (a + b) := (Int32.ofNat_add a b).symm
theorem nn_mul {a b : Nat} : Int32.ofNat a * Int32.ofNat b = Int32.ofNat (a * b) := (Int32.ofNat_mul a b).symm

theorem nn_1 {j : Nat} : (1 : Int32) + Int32.ofNat j = Int32.ofNat (1 + j) := (Int32.ofNat_add 1 j).symm
theorem nn_r1 {j : Nat} : Int32.ofNat j + 1 = Int32.ofNat (j + 1) := (Int32.ofNat_add j 1).symm
theorem nn_m1 {j : Nat} : (1 : Int32) * Int32.ofNat j = Int32.ofNat (1 * j) := (Int32.ofNat_mul 1 j).symm
theorem nn_t1 {j : Nat} : Int32.ofNat j * 1 = Int32.ofNat (j * 1) := (Int32.ofNat_mul j 1).symm

theorem nn_2 {j : Nat} : (2 : Int32) + Int32.ofNat j = Int32.ofNat (2 + j) := (Int32.ofNat_add 2 j).symm
theorem nn_r2 {j : Nat} : Int32.ofNat j + 2 = Int32.ofNat (j + 2) := (Int32.ofNat_add j 2).symm
theorem nn_m2 {j : Nat} : (2 : Int32) * Int32.ofNat j = Int32.ofNat (2 * j) := (Int32.ofNat_mul 2 j).symm
theorem nn_t2 {j : Nat} : Int32.ofNat j * 2 = Int32.ofNat (j * 2) := (Int32.ofNat_mul j 2).symm

theorem nn_3 {j : Nat} : (3 : Int32) + Int32.ofNat j = Int32.ofNat (3 + j) := (Int32.ofNat_add 3 j).symm
theorem nn_r3 {j : Nat} : Int32.ofNat j + 3 = Int32.ofNat (j + 3) := (Int32.ofNat_add j 3).symm
theorem nn_m3 {j : Nat} : (3 : Int32) * Int32.ofNat j = Int32.ofNat (3 * j) := (Int32.ofNat_mul 3 j).symm
theorem nn_t3 {j : Nat} : Int32.ofNat j * 3 = Int32.ofNat (j * 3) := (Int32.ofNat_mul j 3).symm

theorem nn_4 {j : Nat} : (4 : Int32) + Int32.ofNat j = Int32.ofNat (4 + j) := (Int32.ofNat_add 4 j).symm
theorem nn_r4 {j : Nat} : Int32.ofNat j + 4 = Int32.ofNat (j + 4) := (Int32.ofNat_add j 4).symm
theorem nn_m4 {j : Nat} : (4 : Int32) * Int32.ofNat j = Int32.ofNat (4 * j) := (Int32.ofNat_mul 4 j).symm
theorem nn_t4 {j : Nat} : Int32.ofNat j * 4 = Int32.ofNat (j * 4) := (Int32.ofNat_mul j 4).symm

theorem nn_5 {j : Nat} : (5 : Int32) + Int32.ofNat j = Int32.ofNat (5 + j) := (Int32.ofNat_add 5 j).symm
theorem nn_r5 {j : Nat} : Int32.ofNat j + 5 = Int32.ofNat (j + 5) := (Int32.ofNat_add j 5).symm
theorem nn_m5 {j : Nat} : (5 : Int32) * Int32.ofNat j = Int32.ofNat (5 * j) := (Int32.ofNat_mul 5 j).symm
theorem nn_t5 {j : Nat} : Int32.ofNat j * 5 = Int32.ofNat (j * 5) := (Int32.ofNat_mul j 5).symm

theorem nn_6 {j : Nat} : (6 : Int32) + Int32.ofNat j = Int32.ofNat (6 + j) := (Int32.ofNat_add 6 j).symm
theorem nn_r6 {j : Nat} : Int32.ofNat j + 6 = Int32.ofNat (j + 6) := (Int32.ofNat_add j 6).symm
theorem nn_m6 {j : Nat} : (6 : Int32) * Int32.ofNat j = Int32.ofNat (6 * j) := (Int32.ofNat_mul 6 j).symm
theorem nn_t6 {j : Nat} : Int32.ofNat j * 6 = Int32.ofNat (j * 6) := (Int32.ofNat_mul j 6).symm

theorem nn_7 {j : Nat} : (7 : Int32) + Int32.ofNat j = Int32.ofNat (7 + j) := (Int32.ofNat_add 7 j).symm
theorem nn_r7 {j : Nat} : Int32.ofNat j + 7 = Int32.ofNat (j + 7) := (Int32.ofNat_add j 7).symm
theorem nn_m7 {j : Nat} : (7 : Int32) * Int32.ofNat j = Int32.ofNat (7 * j) := (Int32.ofNat_mul 7 j).symm
theorem nn_t7 {j : Nat} : Int32.ofNat j * 7 = Int32.ofNat (j * 7) := (Int32.ofNat_mul j 7).symm

theorem nn_8 {j : Nat} : (8 : Int32) + Int32.ofNat j = Int32.ofNat (8 + j) := (Int32.ofNat_add 8 j).symm
theorem nn_r8 {j : Nat} : Int32.ofNat j + 8 = Int32.ofNat (j + 8) := (Int32.ofNat_add j 8).symm
theorem nn_m8 {j : Nat} : (8 : Int32) * Int32.ofNat j = Int32.ofNat (8 * j) := (Int32.ofNat_mul 8 j).symm
theorem nn_t8 {j : Nat} : Int32.ofNat j * 8 = Int32.ofNat (j * 8) := (Int32.ofNat_mul j 8).symm

theorem nn_9 {j : Nat} : (9 : Int32) + Int32.ofNat j = Int32.ofNat (9 + j) := (Int32.ofNat_add 9 j).symm
theorem nn_r9 {j : Nat} : Int32.ofNat j + 9 = Int32.ofNat (j + 9) := (Int32.ofNat_add j 9).symm
theorem nn_m9 {j : Nat} : (9 : Int32) * Int32.ofNat j = Int32.ofNat (9 * j) := (Int32.ofNat_mul 9 j).symm
theorem nn_t9 {j : Nat} : Int32.ofNat j * 9 = Int32.ofNat (j * 9) := (Int32.ofNat_mul j 9).symm

theorem nn_10 {j : Nat} : (10 : Int32) + Int32.ofNat j = Int32.ofNat (10 + j) := (Int32.ofNat_add 10 j).symm
theorem nn_r10 {j : Nat} : Int32.ofNat j + 10 = Int32.ofNat (j + 10) := (Int32.ofNat_add j 10).symm
theorem nn_m10 {j : Nat} : (10 : Int32) * Int32.ofNat j = Int32.ofNat (10 * j) := (Int32.ofNat_mul 10 j).symm
theorem nn_t10 {j : Nat} : Int32.ofNat j * 10 = Int32.ofNat (j * 10) := (Int32.ofNat_mul j 10).symm

theorem nn_16 {j : Nat} : (16 : Int32) + Int32.ofNat j = Int32.ofNat (16 + j) := (Int32.ofNat_add 16 j).symm
theorem nn_r16 {j : Nat} : Int32.ofNat j + 16 = Int32.ofNat (j + 16) := (Int32.ofNat_add j 16).symm
theorem nn_m16 {j : Nat} : (16 : Int32) * Int32.ofNat j = Int32.ofNat (16 * j) := (Int32.ofNat_mul 16 j).symm
theorem nn_t16 {j : Nat} : Int32.ofNat j * 16 = Int32.ofNat (j * 16) := (Int32.ofNat_mul j 16).symm

theorem nn_24 {j : Nat} : (24 : Int32) + Int32.ofNat j = Int32.ofNat (24 + j) := (Int32.ofNat_add 24 j).symm
theorem nn_r24 {j : Nat} : Int32.ofNat j + 24 = Int32.ofNat (j + 24) := (Int32.ofNat_add j 24).symm
theorem nn_m24 {j : Nat} : (24 : Int32) * Int32.ofNat j = Int32.ofNat (24 * j) := (Int32.ofNat_mul 24 j).symm
theorem nn_t24 {j : Nat} : Int32.ofNat j * 24 = Int32.ofNat (j * 24) := (Int32.ofNat_mul j 24).symm

theorem nn_32 {j : Nat} : (32 : Int32) + Int32.ofNat j = Int32.ofNat (32 + j) := (Int32.ofNat_add 32 j).symm
theorem nn_r32 {j : Nat} : Int32.ofNat j + 32 = Int32.ofNat (j + 32) := (Int32.ofNat_add j 32).symm
theorem nn_m32 {j : Nat} : (32 : Int32) * Int32.ofNat j = Int32.ofNat (32 * j) := (Int32.ofNat_mul 32 j).symm
theorem nn_t32 {j : Nat} : Int32.ofNat j * 32 = Int32.ofNat (j * 32) := (Int32.ofNat_mul j 32).symm

theorem nn_40 {j : Nat} : (40 : Int32) + Int32.ofNat j = Int32.ofNat (40 + j) := (Int32.ofNat_add 40 j).symm
theorem nn_r40 {j : Nat} : Int32.ofNat j + 40 = Int32.ofNat (j + 40) := (Int32.ofNat_add j 40).symm
theorem nn_m40 {j : Nat} : (40 : Int32) * Int32.ofNat j = Int32.ofNat (40 * j) := (Int32.ofNat_mul 40 j).symm
theorem nn_t40 {j : Nat} : Int32.ofNat j * 40 = Int32.ofNat (j * 40) := (Int32.ofNat_mul j 40).symm

theorem nn_48 {j : Nat} : (48 : Int32) + Int32.ofNat j = Int32.ofNat (48 + j) := (Int32.ofNat_add 48 j).symm
theorem nn_r48 {j : Nat} : Int32.ofNat j + 48 = Int32.ofNat (j + 48) := (Int32.ofNat_add j 48).symm
theorem nn_m48 {j : Nat} : (48 : Int32) * Int32.ofNat j = Int32.ofNat (48 * j) := (Int32.ofNat_mul 48 j).symm
theorem nn_t48 {j : Nat} : Int32.ofNat j * 48 = Int32.ofNat (j * 48) := (Int32.ofNat_mul j 48).symm

theorem nn_54 {j : Nat} : (54 : Int32) + Int32.ofNat j = Int32.ofNat (54 + j) := (Int32.ofNat_add 54 j).symm
theorem nn_r54 {j : Nat} : Int32.ofNat j + 54 = Int32.ofNat (j + 54) := (Int32.ofNat_add j 54).symm
theorem nn_m54 {j : Nat} : (54 : Int32) * Int32.ofNat j = Int32.ofNat (54 * j) := (Int32.ofNat_mul 54 j).symm
theorem nn_t54 {j : Nat} : Int32.ofNat j * 54 = Int32.ofNat (j * 54) := (Int32.ofNat_mul j 54).symm

theorem nn_60 {j : Nat} : (60 : Int32) + Int32.ofNat j = Int32.ofNat (60 + j) := (Int32.ofNat_add 60 j).symm
theorem nn_r60 {j : Nat} : Int32.ofNat j + 60 = Int32.ofNat (j + 60) := (Int32.ofNat_add j 60).symm
theorem nn_m60 {j : Nat} : (60 : Int32) * Int32.ofNat j = Int32.ofNat (60 * j) := (Int32.ofNat_mul 60 j).symm
theorem nn_t60 {j : Nat} : Int32.ofNat j * 60 = Int32.ofNat (j * 60) := (Int32.ofNat_mul j 60).symm

theorem nn_600 {j : Nat} : (600 : Int32) + Int32.ofNat j = Int32.ofNat (600 + j) := (Int32.ofNat_add 600 j).symm
theorem nn_r600 {j : Nat} : Int32.ofNat j + 600 = Int32.ofNat (j + 600) := (Int32.ofNat_add j 600).symm
theorem nn_m600 {j : Nat} : (600 : Int32) * Int32.ofNat j = Int32.ofNat (600 * j) := (Int32.ofNat_mul 600 j).symm
theorem nn_t600 {j : Nat} : Int32.ofNat j * 600 = Int32.ofNat (j * 600) := (Int32.ofNat_mul j 600).symm

theorem nn_1200 {j : Nat} : (1200 : Int32) + Int32.ofNat j = Int32.ofNat (1200 + j) := (Int32.ofNat_add 1200 j).symm
theorem nn_r1200 {j : Nat} : Int32.ofNat j + 1200 = Int32.ofNat (j + 1200) := (Int32.ofNat_add j 1200).symm
theorem nn_m1200 {j : Nat} : (1200 : Int32) * Int32.ofNat j = Int32.ofNat (1200 * j) := (Int32.ofNat_mul 1200 j).symm
theorem nn_t1200 {j : Nat} : Int32.ofNat j * 1200 = Int32.ofNat (j * 1200) := (Int32.ofNat_mul j 1200).symm

theorem nn_2160 {j : Nat} : (2160 : Int32) + Int32.ofNat j = Int32.ofNat (2160 + j) := (Int32.ofNat_add 2160 j).symm
theorem nn_r2160 {j : Nat} : Int32.ofNat j + 2160 = Int32.ofNat (j + 2160) := (Int32.ofNat_add j 2160).symm
theorem nn_m2160 {j : Nat} : (2160 : Int32) * Int32.ofNat j = Int32.ofNat (2160 * j) := (Int32.ofNat_mul 2160 j).symm
theorem nn_t2160 {j : Nat} : Int32.ofNat j * 2160 = Int32.ofNat (j * 2160) := (Int32.ofNat_mul j 2160).symm

theorem dv_5 : ((5 : Int32) = 0) = False := by decide
theorem dv_10 : ((10 : Int32) = 0) = False := by decide
theorem dv_3 : ((3 : Int32) = 0) = False := by decide
theorem dv_2 : ((2 : Int32) = 0) = False := by decide
theorem dv_4 : ((4 : Int32) = 0) = False := by decide
theorem dv_40 : ((40 : Int32) = 0) = False := by decide
theorem in_m1 : Int32.ofInt (-1) = -1 := by decide
theorem in_m8 : Int32.ofInt (-8) = -8 := by decide
/-- two ends that differ in their answers alone -/
theorem r_ite {P : Prop} {q : Decidable P} {x y : Int32} {h : px_H} {c k : Nat} : (@ite _ P q (some (.inl (some (.int x)), h, c, k)) (some (.inl (some (.int y)), h, c, k)) : Option (px_Res × px_H × Nat × Nat)) = some (.inl (some (.int (@ite _ P q x y))), h, c, k) := by
  split <;> rfl
/-- two ends that differ in a row alone -/
theorem w_ite {P : Prop} {q : Decidable P} {t : List px_E} {g : hG} {r : Nat} {f f' : Nat → Int32} {v : Option Value} {c k : Nat} : (@ite _ P q (some (.inl v, hp t (hR g r f), c, k)) (some (.inl v, hp t (hR g r f'), c, k)) : Option (px_Res × px_H × Nat × Nat)) = some (.inl v, hp t (hR g r (@ite _ P q f f')), c, k) := by
  split <;> rfl
theorem bC_ite {P : Prop} {q : Decidable P} {a b : Option (px_Res × px_H × Nat × Nat)} {f : Option Value → px_H → Nat → Nat → Option (px_Res × px_H × Nat × Nat)} {g : Nat → px_H → Nat → Nat → Option (px_Res × px_H × Nat × Nat)} : bC (@ite _ P q a b) f g = @ite _ P q (bC a f g) (bC b f g) := by
  split <;> rfl
theorem r_ign {α : Type} {P : Prop} {q : Decidable P} {x : α} : @ite _ P q x x = x := by split <;> rfl
theorem nn_one0 : ((1 : Int32) = 0) = False := by decide
theorem nn_00 : ((0 : Int32) = 0) = True := by decide
theorem nn_neg0 : ((-1 : Int32) = 0) = False := by decide
theorem nn_c0 : (0 : Int32).toNatClampNeg = 0 := by decide
theorem nn_c1 : (1 : Int32).toNatClampNeg = 1 := by decide
theorem nn_c2 : (2 : Int32).toNatClampNeg = 2 := by decide
theorem nn_c3 : (3 : Int32).toNatClampNeg = 3 := by decide
theorem nn_c4 : (4 : Int32).toNatClampNeg = 4 := by decide
theorem nn_c5 : (5 : Int32).toNatClampNeg = 5 := by decide
theorem nn_c6 : (6 : Int32).toNatClampNeg = 6 := by decide
theorem nn_c7 : (7 : Int32).toNatClampNeg = 7 := by decide
theorem nn_c8 : (8 : Int32).toNatClampNeg = 8 := by decide
theorem nn_c53 : (53 : Int32).toNatClampNeg = 53 := by decide
theorem nn_o53 : px_out 53 54 = false := by decide
theorem nn_o0 {n : Nat} : px_out 0 (n + 1) = false := by
  unfold px_out; rfl
theorem lc_i {x : Int32} : lc_c2 (some (.int x)) = some (.int x) := rfl
theorem lc_r {x : Nat} : lc_c2 (some (.ref x)) = some (.ref x) := rfl
theorem lc_f {x : UInt32} : lc_c2 (some (.float x)) = some (.float x) := rfl
theorem lc_j {x : Int64} : lc_c2 (some (.long x)) = none := rfl
theorem lc_z : lc_c2 (some .null) = some .null := rfl
theorem lc_n : lc_c2 none = none := rfl
