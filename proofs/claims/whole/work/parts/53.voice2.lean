/-! ===== rows of the heap's picture; a voice ===== -/
theorem hI_R {g : hG} {c j : Nat} {x : Int32} : hI g c j x = hR g c (upd (g.1 c) j x) := rfl
theorem hR_same {g : hG} {c : Nat} {f : Nat → Int32} : (hR g c f).1 c = f := by
  show (bif Nat.beq c c then f else g.1 c) = f
  have : Nat.beq c c = true := Nat.beq_refl c
  rw [this]; rfl
theorem hR_oth {g : hG} {c k : Nat} {f : Nat → Int32} (h : ¬ k = c) : (hR g c f).1 k = g.1 k := by
  show (bif Nat.beq k c then f else g.1 k) = g.1 k
  cases z : Nat.beq k c with
  | false => rfl
  | true => exact absurd (Nat.eq_of_beq_eq_true z) h
theorem hR_2 {g : hG} {c : Nat} {f : Nat → Int32} : (hR g c f).2 = g.2 := rfl
theorem hR_hR {g : hG} {c : Nat} {f f' : Nat → Int32} : hR (hR g c f) c f' = hR g c f' := by
  unfold hR
  congr 1
  funext k
  show (bif Nat.beq k c then f' else (bif Nat.beq k c then f else g.1 k)) = _
  cases Nat.beq k c <;> rfl
theorem px_sum0 : px_sum [] ≤ 8 := Nat.zero_le 8
theorem px_sum2 {x : Int32} {p : Nat} : px_sum [.int x, .ref p] ≤ 8 := by rw [px_sum_int, px_sum_ref, px_sum_nil]; decide
theorem upd_at {f : Nat → Int32} {i k : Nat} {x : Int32} : upd f i x k = if k = i then x else f k := rfl
def k_voiceR (kd sp sz : Int32) (row : Nat → Int32) (j : Nat) : Nat → Int32 :=
  if row (8 + j) < 100 then upd row (40 + j) (-1)
  else if k_could sz (row (16 + j)) (row (24 + j)) = 0 then upd row (40 + j) (-1)
  else upd (upd (upd row (40 + j) (-1)) (40 + j) (k_note kd sp sz (row (16 + j)) (row (8 + j)) (row (24 + j)))) (32 + j) (row (32 + j) + 1)
set_option maxHeartbeats 2000000 in
theorem k_voice {d : Nat} {t : List px_E} {g : hG} {j cn sn : Nat} (hj : j < 8) :
    bc (d + 1) M_X4_voice none 0 [some (.ref 16), some (.ref 29), some (.int (Int32.ofNat j))] [] (hp t g) cn sn = some (.inl none, hp t (hR g 29 (k_voiceR (g.1 17 j) (g.1 18 j) (g.1 19 j) (g.1 29) j)), cn, sn) := by
  simp only [st_X4_voice_0, st_X4_voice_1, st_X4_voice_3, st_X4_voice_4, st_X4_voice_5, st_X4_voice_6, st_X4_voice_7, st_X4_voice_8, st_X4_voice_10, st_X4_voice_11, st_X4_voice_12, st_X4_voice_13, st_X4_voice_15, st_X4_voice_18, st_X4_voice_19, st_X4_voice_20, st_X4_voice_21 (p := 16) hq_16 px_sum0, st_X4_voice_24, st_X4_voice_27, st_X4_voice_28, st_X4_voice_30, st_X4_voice_31, st_X4_voice_32, st_X4_voice_33, st_X4_voice_34, st_X4_voice_35, st_X4_voice_37, st_X4_voice_38, st_X4_voice_39, st_X4_voice_40, st_X4_voice_41, st_X4_voice_43, st_X4_voice_44, st_X4_voice_45, st_X4_voice_46, st_X4_voice_47, st_X4_voice_49, st_X4_voice_50, st_X4_voice_51, st_X4_voice_52 (p := 16) hq_16 px_sum2, st_X4_voice_55, st_X4_voice_56, st_X4_voice_57, st_X4_voice_59, st_X4_voice_60, st_X4_voice_61, st_X4_voice_62, st_X4_voice_63, st_X4_voice_64, st_X4_voice_65, st_X4_voice_66, bM_some, ha_29, hw_29, hq_16, px_sum_nil, px_sum_int, px_sum_ref, Nat.zero_le, Nat.reduceLeDiff, nn_8, nn_16, nn_24, nn_32, nn_40, nn_out (a := 8 + j) (n := 54) (by omega) (by omega), nn_out (a := 32 + j) (n := 54) (by omega) (by omega), nn_out (a := 40 + j) (n := 54) (by omega) (by omega), nn_out (a := 16 + j) (n := 54) (by omega) (by omega), nn_out (a := 24 + j) (n := 54) (by omega) (by omega), nn_clamp (a := 8 + j) (by omega), nn_clamp (a := 40 + j) (by omega), nn_clamp (a := 32 + j) (by omega), nn_clamp (a := j) (by omega), nn_clamp (a := 16 + j) (by omega), nn_clamp (a := 24 + j) (by omega), cond_false, Nat.reduceAdd, bC_inl, k_couldSing hj, k_noteOf (nn_out (a := j) (n := 8) (by omega) (by omega)), Option.toList, List.cons_append, List.nil_append, Nat.add_zero, hI_R, hR_same, hR_hR, hR_oth (k := 17) (c := 29) (by decide), hR_oth (k := 18) (c := 29) (by decide), hR_oth (k := 19) (c := 29) (by decide), upd_at, Nat.add_right_cancel_iff, Nat.reduceEqDiff, if_false]
  unfold k_voiceR
  split
  · rfl
  · split <;> rfl
