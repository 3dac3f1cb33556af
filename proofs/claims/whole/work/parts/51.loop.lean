/-! ===== numbers: small counts as ints; a first loop ===== -/
theorem nn_lt {a b : Nat} (ha : a < 2147483648) (hb : b < 2147483648) : (Int32.ofNat a < Int32.ofNat b) = (a < b) := by
  have := (Int32.ofNat_le_ofNat hb ha)
  apply propext
  rw [← Int32.not_le, ← Nat.not_le]
  exact not_congr this
theorem nn_clamp {a : Nat} (ha : a < 2147483648) : (Int32.ofNat a).toNatClampNeg = a := by
  rw [Int32.toNatClampNeg]
  rw [Int32.toInt_ofNat_of_lt ha]
  rfl
theorem nn_out {a n : Nat} (ha : a < 2147483648) (hn : a < n) : px_out (Int32.ofNat a) n = false := by
  unfold px_out
  rw [nn_clamp ha]
  have h1 : ¬ (Int32.ofNat a < 0) := by
    rw [show (0 : Int32) = Int32.ofNat 0 from rfl, nn_lt ha (by decide)]
    exact Nat.not_lt_zero _
  have h2 : Nat.ble n a = false := by
    cases z : Nat.ble n a with
    | false => rfl
    | true => have := Nat.le_of_ble_eq_true z; omega
  rw [decide_eq_false h1, h2]; rfl
theorem nn_suc {a : Nat} : Int32.ofNat a + 1 = Int32.ofNat (a + 1) := (Int32.ofNat_add a 1).symm
/-- the first place from j on, of m, where a row has s -/
def k_find (row : Nat → Int32) (s : Int32) : Nat → Nat → Int32
  | 0, _ => -1
  | m + 1, j => if row j = s then Int32.ofNat j else k_find row s m (j + 1)
set_option maxHeartbeats 2000000 in
theorem k_kettleOn_loop {d : Nat} {t : List px_E} {g : hG} {s : Int32} {cn sn n : Nat} (hn : g.1 16 10 = Int32.ofNat n) (h8 : n ≤ 8) : ∀ m j : Nat, j + m = n →
    bc d M_X4_kettleOn none 2 [some (.ref 16), some (.ref 29), some (.int s), some (.int (Int32.ofNat j))] [] (hp t g) cn sn = some (.inl (some (.int (k_find (g.1 29) s m j))), hp t g, cn, sn) := by
  intro m
  induction m with
  | zero =>
    intro j hj
    rw [st_X4_kettleOn_2]
    simp only [st_X4_kettleOn_0, st_X4_kettleOn_1, st_X4_kettleOn_3, st_X4_kettleOn_4, st_X4_kettleOn_7, st_X4_kettleOn_10, st_X4_kettleOn_11, st_X4_kettleOn_12, st_X4_kettleOn_13, st_X4_kettleOn_14, st_X4_kettleOn_15, st_X4_kettleOn_16, st_X4_kettleOn_19, st_X4_kettleOn_20, st_X4_kettleOn_21, st_X4_kettleOn_24, st_X4_kettleOn_27, st_X4_kettleOn_28, bM_some, hg_16_10, hn, nn_lt (a := j) (b := n) (by omega) (by omega), show ¬ j < n by omega, if_false, Nat.reduceAdd, k_find]
  | succ m ih =>
    intro j hj
    rw [st_X4_kettleOn_2]
    simp only [st_X4_kettleOn_0, st_X4_kettleOn_1, st_X4_kettleOn_3, st_X4_kettleOn_4, st_X4_kettleOn_7, st_X4_kettleOn_10, st_X4_kettleOn_11, st_X4_kettleOn_12, st_X4_kettleOn_13, st_X4_kettleOn_14, st_X4_kettleOn_15, st_X4_kettleOn_16, st_X4_kettleOn_19, st_X4_kettleOn_20, st_X4_kettleOn_21, st_X4_kettleOn_24, st_X4_kettleOn_27, st_X4_kettleOn_28, bM_some, hg_16_10, hn, nn_lt (a := j) (b := n) (by omega) (by omega), show j < n by omega, if_true, Nat.reduceAdd, k_find, Int32.zero_add, ha_29, nn_out (a := j) (n := 54) (by omega) (by omega), cond_false, nn_clamp (a := j) (by omega), nn_suc, lc_c2]
    split
    · rfl
    · exact ih (j + 1) (by omega)
