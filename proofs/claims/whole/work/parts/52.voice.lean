/-! ===== Kitchen: who could sing, a voice ===== -/
theorem nn_8 {j : Nat} : (8 : Int32) + Int32.ofNat j = Int32.ofNat (8 + j) := (Int32.ofNat_add 8 j).symm
theorem nn_16 {j : Nat} : (16 : Int32) + Int32.ofNat j = Int32.ofNat (16 + j) := (Int32.ofNat_add 16 j).symm
theorem nn_24 {j : Nat} : (24 : Int32) + Int32.ofNat j = Int32.ofNat (24 + j) := (Int32.ofNat_add 24 j).symm
theorem nn_32 {j : Nat} : (32 : Int32) + Int32.ofNat j = Int32.ofNat (32 + j) := (Int32.ofNat_add 32 j).symm
theorem nn_40 {j : Nat} : (40 : Int32) + Int32.ofNat j = Int32.ofNat (40 + j) := (Int32.ofNat_add 40 j).symm
theorem nn_48 {j : Nat} : (48 : Int32) + Int32.ofNat j = Int32.ofNat (48 + j) := (Int32.ofNat_add 48 j).symm
theorem px_sum_nil : px_sum [] = 0 := rfl
theorem px_sum_int {x : Int32} {r : List Value} : px_sum (.int x :: r) = 1 + px_sum r := rfl
theorem px_sum_ref {x : Nat} {r : List Value} : px_sum (.ref x :: r) = 1 + px_sum r := rfl
theorem px_sum_long {x : Int64} {r : List Value} : px_sum (.long x :: r) = 2 + px_sum r := rfl
/-- would a kettle of this size, fill, chalk sing, were it hot enough (1) or not (0) -/
def k_could (sz f c : Int32) : Int32 := if f < 1 then 0 else if 9 * sz < 10 * f then 0 else if c = 9 then 0 else 1
set_option maxHeartbeats 2000000 in
theorem k_couldSing {d : Nat} {t : List px_E} {g : hG} {j cn sn : Nat} (hj : j < 8) :
    bc d M_X4_couldSing none 0 [some (.ref 16), some (.ref 29), some (.int (Int32.ofNat j)), none] [] (hp t g) cn sn = some (.inl (some (.int (k_could (g.1 19 j) (g.1 29 (16 + j)) (g.1 29 (24 + j))))), hp t g, cn, sn) := by
  simp only [st_X4_couldSing_0, st_X4_couldSing_1, st_X4_couldSing_3, st_X4_couldSing_4, st_X4_couldSing_5, st_X4_couldSing_6, st_X4_couldSing_7, st_X4_couldSing_8, st_X4_couldSing_9, st_X4_couldSing_12, st_X4_couldSing_14, st_X4_couldSing_15, st_X4_couldSing_16, st_X4_couldSing_18, st_X4_couldSing_19, st_X4_couldSing_22, st_X4_couldSing_23, st_X4_couldSing_24, st_X4_couldSing_25, st_X4_couldSing_28, st_X4_couldSing_29, st_X4_couldSing_31, st_X4_couldSing_32, st_X4_couldSing_33, st_X4_couldSing_34, st_X4_couldSing_36, st_X4_couldSing_39, st_X4_couldSing_40, st_X4_couldSing_43, st_X4_couldSing_44, st_X4_couldSing_44b, bM_some, hg_16_2, ha_19, ha_29, nn_16, nn_24, nn_out (a := j) (n := 8) (by omega) (by omega), nn_out (a := 16 + j) (n := 54) (by omega) (by omega), nn_out (a := 24 + j) (n := 54) (by omega) (by omega), nn_clamp (a := j) (by omega), nn_clamp (a := 16 + j) (by omega), nn_clamp (a := 24 + j) (by omega), cond_false, lc_c2, Nat.reduceAdd, Value.category, Nat.reduceBEq, r_ite, k_could]
