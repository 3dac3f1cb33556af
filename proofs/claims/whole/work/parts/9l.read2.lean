/-! ===== the Reader: tokens ===== -/
theorem sw_X6_sortAt_10 {d : Nat} {scr : Option (Nat × (Nat → Int32))} {st : List Value} {h : px_H} {cn sn : Nat} {a0 a1 a2 : Option Value} : bc d M_X6_sortAt scr 50 [a0, a1, a2] (.int 10 :: st) h cn sn = bc d M_X6_sortAt scr 148 [a0, a1, a2] st h cn sn := bc_L rfl rfl
theorem sw_X6_sortAt_32 {d : Nat} {scr : Option (Nat × (Nat → Int32))} {st : List Value} {h : px_H} {cn sn : Nat} {a0 a1 a2 : Option Value} : bc d M_X6_sortAt scr 50 [a0, a1, a2] (.int 32 :: st) h cn sn = bc d M_X6_sortAt scr 148 [a0, a1, a2] st h cn sn := bc_L rfl rfl
theorem sw_X6_sortAt_40 {d : Nat} {scr : Option (Nat × (Nat → Int32))} {st : List Value} {h : px_H} {cn sn : Nat} {a0 a1 a2 : Option Value} : bc d M_X6_sortAt scr 50 [a0, a1, a2] (.int 40 :: st) h cn sn = bc d M_X6_sortAt scr 150 [a0, a1, a2] st h cn sn := bc_L rfl rfl
theorem sw_X6_sortAt_41 {d : Nat} {scr : Option (Nat × (Nat → Int32))} {st : List Value} {h : px_H} {cn sn : Nat} {a0 a1 a2 : Option Value} : bc d M_X6_sortAt scr 50 [a0, a1, a2] (.int 41 :: st) h cn sn = bc d M_X6_sortAt scr 150 [a0, a1, a2] st h cn sn := bc_L rfl rfl
theorem sw_X6_sortAt_42 {d : Nat} {scr : Option (Nat × (Nat → Int32))} {st : List Value} {h : px_H} {cn sn : Nat} {a0 a1 a2 : Option Value} : bc d M_X6_sortAt scr 50 [a0, a1, a2] (.int 42 :: st) h cn sn = bc d M_X6_sortAt scr 150 [a0, a1, a2] st h cn sn := bc_L rfl rfl
theorem sw_X6_sortAt_43 {d : Nat} {scr : Option (Nat × (Nat → Int32))} {st : List Value} {h : px_H} {cn sn : Nat} {a0 a1 a2 : Option Value} : bc d M_X6_sortAt scr 50 [a0, a1, a2] (.int 43 :: st) h cn sn = bc d M_X6_sortAt scr 150 [a0, a1, a2] st h cn sn := bc_L rfl rfl
theorem sw_X6_sortAt_45 {d : Nat} {scr : Option (Nat × (Nat → Int32))} {st : List Value} {h : px_H} {cn sn : Nat} {a0 a1 a2 : Option Value} : bc d M_X6_sortAt scr 50 [a0, a1, a2] (.int 45 :: st) h cn sn = bc d M_X6_sortAt scr 150 [a0, a1, a2] st h cn sn := bc_L rfl rfl
theorem sw_X6_sortAt_47 {d : Nat} {scr : Option (Nat × (Nat → Int32))} {st : List Value} {h : px_H} {cn sn : Nat} {a0 a1 a2 : Option Value} : bc d M_X6_sortAt scr 50 [a0, a1, a2] (.int 47 :: st) h cn sn = bc d M_X6_sortAt scr 150 [a0, a1, a2] st h cn sn := bc_L rfl rfl
theorem sw_X6_sortAt_59 {d : Nat} {scr : Option (Nat × (Nat → Int32))} {st : List Value} {h : px_H} {cn sn : Nat} {a0 a1 a2 : Option Value} : bc d M_X6_sortAt scr 50 [a0, a1, a2] (.int 59 :: st) h cn sn = bc d M_X6_sortAt scr 150 [a0, a1, a2] st h cn sn := bc_L rfl rfl
theorem sw_X6_sortAt_60 {d : Nat} {scr : Option (Nat × (Nat → Int32))} {st : List Value} {h : px_H} {cn sn : Nat} {a0 a1 a2 : Option Value} : bc d M_X6_sortAt scr 50 [a0, a1, a2] (.int 60 :: st) h cn sn = bc d M_X6_sortAt scr 150 [a0, a1, a2] st h cn sn := bc_L rfl rfl
theorem sw_X6_sortAt_61 {d : Nat} {scr : Option (Nat × (Nat → Int32))} {st : List Value} {h : px_H} {cn sn : Nat} {a0 a1 a2 : Option Value} : bc d M_X6_sortAt scr 50 [a0, a1, a2] (.int 61 :: st) h cn sn = bc d M_X6_sortAt scr 150 [a0, a1, a2] st h cn sn := bc_L rfl rfl
theorem sw_X6_sortAt_d {d : Nat} {scr : Option (Nat × (Nat → Int32))} {st : List Value} {h : px_H} {cn sn : Nat} {x : Int32} {a0 a1 a2 : Option Value} (e0 : ¬ x = 10) (e1 : ¬ x = 32) (e2 : ¬ x = 40) (e3 : ¬ x = 41) (e4 : ¬ x = 42) (e5 : ¬ x = 43) (e6 : ¬ x = 45) (e7 : ¬ x = 47) (e8 : ¬ x = 59) (e9 : ¬ x = 60) (e10 : ¬ x = 61) : bc d M_X6_sortAt scr 50 [a0, a1, a2] (.int x :: st) h cn sn = bc d M_X6_sortAt scr 152 [a0, a1, a2] st h cn sn := by rw [st_X6_sortAt_50, if_neg e0, if_neg e1, if_neg e2, if_neg e3, if_neg e4, if_neg e5, if_neg e6, if_neg e7, if_neg e8, if_neg e9, if_neg e10]
section READ2
variable {d : Nat} {t : List px_E} {g : hG} {n cn sn : Nat} {b r : Rw} {x : Int32}
theorem upd_self {f : Rw} {i : Nat} : upd f i (f i) = f := by funext j; rw [upd_at]; split <;> simp_all
theorem h1_i {i : Nat} : hI (hR g 1 r) 1 i x = hR g 1 (upd r i x) := by rw [hI_R, hR_same, hR_hR]
theorem h1_1 : (hR g 1 r).1 1 = r := rfl
theorem h1_2 : (hR g 1 r).1 2 = g.1 2 := rfl
theorem sort_s {i : Nat} (hi : i < n) : sor b n i = srt (b i) := by unfold sor; rw [if_pos hi]
theorem srt_10 : srt 10 = 4 := by decide
theorem sa_10 {i : Nat} (hn : n ≤ 600) (hi : i < n) (h4 : r 4 = Int32.ofNat n) (hx : g.1 2 i = 10) : bc d M_X6_sortAt none 0 [some (.ref 1), some (.int (Int32.ofNat i)), none] [] (hp t (hR g 1 r)) cn sn = some (.inl (some (.int 4)), hp t (hR g 1 r), cn, sn) := by
  simp (disch := omega) only [st_X6_sortAt_0, st_X6_sortAt_1, st_X6_sortAt_4, st_X6_sortAt_5, st_X6_sortAt_6, st_X6_sortAt_9, st_X6_sortAt_14, st_X6_sortAt_15, st_X6_sortAt_18, st_X6_sortAt_19, st_X6_sortAt_20, st_X6_sortAt_21, st_X6_sortAt_22, st_X6_sortAt_24, st_X6_sortAt_35, st_X6_sortAt_36, st_X6_sortAt_38, st_X6_sortAt_49, st_X6_sortAt_148, st_X6_sortAt_149, st_X6_sortAt_150, st_X6_sortAt_151, sw_X6_sortAt_10, nn_l0, Nat.not_lt_zero, if_false, if_true, bM_some, hg_1_4, hg_1_0, ha_2, h1_1, h1_2, h4, hx, nn_lt, hi, nn_out, nn_clamp, cond_false, show ((10 : Int32) < 97) = True by decide, show ((10 : Int32) < 48) = True by decide, lc_r, lc_i, lc_n, Nat.reduceAdd]
theorem srt_32 : srt 32 = 4 := by decide
theorem sa_32 {i : Nat} (hn : n ≤ 600) (hi : i < n) (h4 : r 4 = Int32.ofNat n) (hx : g.1 2 i = 32) : bc d M_X6_sortAt none 0 [some (.ref 1), some (.int (Int32.ofNat i)), none] [] (hp t (hR g 1 r)) cn sn = some (.inl (some (.int 4)), hp t (hR g 1 r), cn, sn) := by
  simp (disch := omega) only [st_X6_sortAt_0, st_X6_sortAt_1, st_X6_sortAt_4, st_X6_sortAt_5, st_X6_sortAt_6, st_X6_sortAt_9, st_X6_sortAt_14, st_X6_sortAt_15, st_X6_sortAt_18, st_X6_sortAt_19, st_X6_sortAt_20, st_X6_sortAt_21, st_X6_sortAt_22, st_X6_sortAt_24, st_X6_sortAt_35, st_X6_sortAt_36, st_X6_sortAt_38, st_X6_sortAt_49, st_X6_sortAt_148, st_X6_sortAt_149, st_X6_sortAt_150, st_X6_sortAt_151, sw_X6_sortAt_32, nn_l0, Nat.not_lt_zero, if_false, if_true, bM_some, hg_1_4, hg_1_0, ha_2, h1_1, h1_2, h4, hx, nn_lt, hi, nn_out, nn_clamp, cond_false, show ((32 : Int32) < 97) = True by decide, show ((32 : Int32) < 48) = True by decide, lc_r, lc_i, lc_n, Nat.reduceAdd]
theorem srt_40 : srt 40 = 3 := by decide
theorem sa_40 {i : Nat} (hn : n ≤ 600) (hi : i < n) (h4 : r 4 = Int32.ofNat n) (hx : g.1 2 i = 40) : bc d M_X6_sortAt none 0 [some (.ref 1), some (.int (Int32.ofNat i)), none] [] (hp t (hR g 1 r)) cn sn = some (.inl (some (.int 3)), hp t (hR g 1 r), cn, sn) := by
  simp (disch := omega) only [st_X6_sortAt_0, st_X6_sortAt_1, st_X6_sortAt_4, st_X6_sortAt_5, st_X6_sortAt_6, st_X6_sortAt_9, st_X6_sortAt_14, st_X6_sortAt_15, st_X6_sortAt_18, st_X6_sortAt_19, st_X6_sortAt_20, st_X6_sortAt_21, st_X6_sortAt_22, st_X6_sortAt_24, st_X6_sortAt_35, st_X6_sortAt_36, st_X6_sortAt_38, st_X6_sortAt_49, st_X6_sortAt_148, st_X6_sortAt_149, st_X6_sortAt_150, st_X6_sortAt_151, sw_X6_sortAt_40, nn_l0, Nat.not_lt_zero, if_false, if_true, bM_some, hg_1_4, hg_1_0, ha_2, h1_1, h1_2, h4, hx, nn_lt, hi, nn_out, nn_clamp, cond_false, show ((40 : Int32) < 97) = True by decide, show ((40 : Int32) < 48) = True by decide, lc_r, lc_i, lc_n, Nat.reduceAdd]
theorem srt_41 : srt 41 = 3 := by decide
theorem sa_41 {i : Nat} (hn : n ≤ 600) (hi : i < n) (h4 : r 4 = Int32.ofNat n) (hx : g.1 2 i = 41) : bc d M_X6_sortAt none 0 [some (.ref 1), some (.int (Int32.ofNat i)), none] [] (hp t (hR g 1 r)) cn sn = some (.inl (some (.int 3)), hp t (hR g 1 r), cn, sn) := by
  simp (disch := omega) only [st_X6_sortAt_0, st_X6_sortAt_1, st_X6_sortAt_4, st_X6_sortAt_5, st_X6_sortAt_6, st_X6_sortAt_9, st_X6_sortAt_14, st_X6_sortAt_15, st_X6_sortAt_18, st_X6_sortAt_19, st_X6_sortAt_20, st_X6_sortAt_21, st_X6_sortAt_22, st_X6_sortAt_24, st_X6_sortAt_35, st_X6_sortAt_36, st_X6_sortAt_38, st_X6_sortAt_49, st_X6_sortAt_148, st_X6_sortAt_149, st_X6_sortAt_150, st_X6_sortAt_151, sw_X6_sortAt_41, nn_l0, Nat.not_lt_zero, if_false, if_true, bM_some, hg_1_4, hg_1_0, ha_2, h1_1, h1_2, h4, hx, nn_lt, hi, nn_out, nn_clamp, cond_false, show ((41 : Int32) < 97) = True by decide, show ((41 : Int32) < 48) = True by decide, lc_r, lc_i, lc_n, Nat.reduceAdd]
theorem srt_42 : srt 42 = 3 := by decide
theorem sa_42 {i : Nat} (hn : n ≤ 600) (hi : i < n) (h4 : r 4 = Int32.ofNat n) (hx : g.1 2 i = 42) : bc d M_X6_sortAt none 0 [some (.ref 1), some (.int (Int32.ofNat i)), none] [] (hp t (hR g 1 r)) cn sn = some (.inl (some (.int 3)), hp t (hR g 1 r), cn, sn) := by
  simp (disch := omega) only [st_X6_sortAt_0, st_X6_sortAt_1, st_X6_sortAt_4, st_X6_sortAt_5, st_X6_sortAt_6, st_X6_sortAt_9, st_X6_sortAt_14, st_X6_sortAt_15, st_X6_sortAt_18, st_X6_sortAt_19, st_X6_sortAt_20, st_X6_sortAt_21, st_X6_sortAt_22, st_X6_sortAt_24, st_X6_sortAt_35, st_X6_sortAt_36, st_X6_sortAt_38, st_X6_sortAt_49, st_X6_sortAt_148, st_X6_sortAt_149, st_X6_sortAt_150, st_X6_sortAt_151, sw_X6_sortAt_42, nn_l0, Nat.not_lt_zero, if_false, if_true, bM_some, hg_1_4, hg_1_0, ha_2, h1_1, h1_2, h4, hx, nn_lt, hi, nn_out, nn_clamp, cond_false, show ((42 : Int32) < 97) = True by decide, show ((42 : Int32) < 48) = True by decide, lc_r, lc_i, lc_n, Nat.reduceAdd]
theorem srt_43 : srt 43 = 3 := by decide
theorem sa_43 {i : Nat} (hn : n ≤ 600) (hi : i < n) (h4 : r 4 = Int32.ofNat n) (hx : g.1 2 i = 43) : bc d M_X6_sortAt none 0 [some (.ref 1), some (.int (Int32.ofNat i)), none] [] (hp t (hR g 1 r)) cn sn = some (.inl (some (.int 3)), hp t (hR g 1 r), cn, sn) := by
  simp (disch := omega) only [st_X6_sortAt_0, st_X6_sortAt_1, st_X6_sortAt_4, st_X6_sortAt_5, st_X6_sortAt_6, st_X6_sortAt_9, st_X6_sortAt_14, st_X6_sortAt_15, st_X6_sortAt_18, st_X6_sortAt_19, st_X6_sortAt_20, st_X6_sortAt_21, st_X6_sortAt_22, st_X6_sortAt_24, st_X6_sortAt_35, st_X6_sortAt_36, st_X6_sortAt_38, st_X6_sortAt_49, st_X6_sortAt_148, st_X6_sortAt_149, st_X6_sortAt_150, st_X6_sortAt_151, sw_X6_sortAt_43, nn_l0, Nat.not_lt_zero, if_false, if_true, bM_some, hg_1_4, hg_1_0, ha_2, h1_1, h1_2, h4, hx, nn_lt, hi, nn_out, nn_clamp, cond_false, show ((43 : Int32) < 97) = True by decide, show ((43 : Int32) < 48) = True by decide, lc_r, lc_i, lc_n, Nat.reduceAdd]
theorem srt_45 : srt 45 = 3 := by decide
theorem sa_45 {i : Nat} (hn : n ≤ 600) (hi : i < n) (h4 : r 4 = Int32.ofNat n) (hx : g.1 2 i = 45) : bc d M_X6_sortAt none 0 [some (.ref 1), some (.int (Int32.ofNat i)), none] [] (hp t (hR g 1 r)) cn sn = some (.inl (some (.int 3)), hp t (hR g 1 r), cn, sn) := by
  simp (disch := omega) only [st_X6_sortAt_0, st_X6_sortAt_1, st_X6_sortAt_4, st_X6_sortAt_5, st_X6_sortAt_6, st_X6_sortAt_9, st_X6_sortAt_14, st_X6_sortAt_15, st_X6_sortAt_18, st_X6_sortAt_19, st_X6_sortAt_20, st_X6_sortAt_21, st_X6_sortAt_22, st_X6_sortAt_24, st_X6_sortAt_35, st_X6_sortAt_36, st_X6_sortAt_38, st_X6_sortAt_49, st_X6_sortAt_148, st_X6_sortAt_149, st_X6_sortAt_150, st_X6_sortAt_151, sw_X6_sortAt_45, nn_l0, Nat.not_lt_zero, if_false, if_true, bM_some, hg_1_4, hg_1_0, ha_2, h1_1, h1_2, h4, hx, nn_lt, hi, nn_out, nn_clamp, cond_false, show ((45 : Int32) < 97) = True by decide, show ((45 : Int32) < 48) = True by decide, lc_r, lc_i, lc_n, Nat.reduceAdd]
theorem srt_47 : srt 47 = 3 := by decide
theorem sa_47 {i : Nat} (hn : n ≤ 600) (hi : i < n) (h4 : r 4 = Int32.ofNat n) (hx : g.1 2 i = 47) : bc d M_X6_sortAt none 0 [some (.ref 1), some (.int (Int32.ofNat i)), none] [] (hp t (hR g 1 r)) cn sn = some (.inl (some (.int 3)), hp t (hR g 1 r), cn, sn) := by
  simp (disch := omega) only [st_X6_sortAt_0, st_X6_sortAt_1, st_X6_sortAt_4, st_X6_sortAt_5, st_X6_sortAt_6, st_X6_sortAt_9, st_X6_sortAt_14, st_X6_sortAt_15, st_X6_sortAt_18, st_X6_sortAt_19, st_X6_sortAt_20, st_X6_sortAt_21, st_X6_sortAt_22, st_X6_sortAt_24, st_X6_sortAt_35, st_X6_sortAt_36, st_X6_sortAt_38, st_X6_sortAt_49, st_X6_sortAt_148, st_X6_sortAt_149, st_X6_sortAt_150, st_X6_sortAt_151, sw_X6_sortAt_47, nn_l0, Nat.not_lt_zero, if_false, if_true, bM_some, hg_1_4, hg_1_0, ha_2, h1_1, h1_2, h4, hx, nn_lt, hi, nn_out, nn_clamp, cond_false, show ((47 : Int32) < 97) = True by decide, show ((47 : Int32) < 48) = True by decide, lc_r, lc_i, lc_n, Nat.reduceAdd]
theorem srt_59 : srt 59 = 3 := by decide
theorem sa_59 {i : Nat} (hn : n ≤ 600) (hi : i < n) (h4 : r 4 = Int32.ofNat n) (hx : g.1 2 i = 59) : bc d M_X6_sortAt none 0 [some (.ref 1), some (.int (Int32.ofNat i)), none] [] (hp t (hR g 1 r)) cn sn = some (.inl (some (.int 3)), hp t (hR g 1 r), cn, sn) := by
  simp (disch := omega) only [st_X6_sortAt_0, st_X6_sortAt_1, st_X6_sortAt_4, st_X6_sortAt_5, st_X6_sortAt_6, st_X6_sortAt_9, st_X6_sortAt_14, st_X6_sortAt_15, st_X6_sortAt_18, st_X6_sortAt_19, st_X6_sortAt_20, st_X6_sortAt_21, st_X6_sortAt_22, st_X6_sortAt_24, st_X6_sortAt_35, st_X6_sortAt_36, st_X6_sortAt_38, st_X6_sortAt_41, st_X6_sortAt_42, st_X6_sortAt_44, st_X6_sortAt_49, st_X6_sortAt_150, st_X6_sortAt_151, sw_X6_sortAt_59, nn_l0, Nat.not_lt_zero, if_false, if_true, bM_some, hg_1_4, hg_1_0, ha_2, h1_1, h1_2, h4, hx, nn_lt, hi, nn_out, nn_clamp, cond_false, show ((59 : Int32) < 97) = True by decide, show ((59 : Int32) < 48) = False by decide, show ((57 : Int32) < 59) = True by decide, lc_r, lc_i, lc_n, Nat.reduceAdd]
theorem srt_60 : srt 60 = 3 := by decide
theorem sa_60 {i : Nat} (hn : n ≤ 600) (hi : i < n) (h4 : r 4 = Int32.ofNat n) (hx : g.1 2 i = 60) : bc d M_X6_sortAt none 0 [some (.ref 1), some (.int (Int32.ofNat i)), none] [] (hp t (hR g 1 r)) cn sn = some (.inl (some (.int 3)), hp t (hR g 1 r), cn, sn) := by
  simp (disch := omega) only [st_X6_sortAt_0, st_X6_sortAt_1, st_X6_sortAt_4, st_X6_sortAt_5, st_X6_sortAt_6, st_X6_sortAt_9, st_X6_sortAt_14, st_X6_sortAt_15, st_X6_sortAt_18, st_X6_sortAt_19, st_X6_sortAt_20, st_X6_sortAt_21, st_X6_sortAt_22, st_X6_sortAt_24, st_X6_sortAt_35, st_X6_sortAt_36, st_X6_sortAt_38, st_X6_sortAt_41, st_X6_sortAt_42, st_X6_sortAt_44, st_X6_sortAt_49, st_X6_sortAt_150, st_X6_sortAt_151, sw_X6_sortAt_60, nn_l0, Nat.not_lt_zero, if_false, if_true, bM_some, hg_1_4, hg_1_0, ha_2, h1_1, h1_2, h4, hx, nn_lt, hi, nn_out, nn_clamp, cond_false, show ((60 : Int32) < 97) = True by decide, show ((60 : Int32) < 48) = False by decide, show ((57 : Int32) < 60) = True by decide, lc_r, lc_i, lc_n, Nat.reduceAdd]
theorem srt_61 : srt 61 = 3 := by decide
theorem sa_61 {i : Nat} (hn : n ≤ 600) (hi : i < n) (h4 : r 4 = Int32.ofNat n) (hx : g.1 2 i = 61) : bc d M_X6_sortAt none 0 [some (.ref 1), some (.int (Int32.ofNat i)), none] [] (hp t (hR g 1 r)) cn sn = some (.inl (some (.int 3)), hp t (hR g 1 r), cn, sn) := by
  simp (disch := omega) only [st_X6_sortAt_0, st_X6_sortAt_1, st_X6_sortAt_4, st_X6_sortAt_5, st_X6_sortAt_6, st_X6_sortAt_9, st_X6_sortAt_14, st_X6_sortAt_15, st_X6_sortAt_18, st_X6_sortAt_19, st_X6_sortAt_20, st_X6_sortAt_21, st_X6_sortAt_22, st_X6_sortAt_24, st_X6_sortAt_35, st_X6_sortAt_36, st_X6_sortAt_38, st_X6_sortAt_41, st_X6_sortAt_42, st_X6_sortAt_44, st_X6_sortAt_49, st_X6_sortAt_150, st_X6_sortAt_151, sw_X6_sortAt_61, nn_l0, Nat.not_lt_zero, if_false, if_true, bM_some, hg_1_4, hg_1_0, ha_2, h1_1, h1_2, h4, hx, nn_lt, hi, nn_out, nn_clamp, cond_false, show ((61 : Int32) < 97) = True by decide, show ((61 : Int32) < 48) = False by decide, show ((57 : Int32) < 61) = True by decide, lc_r, lc_i, lc_n, Nat.reduceAdd]
set_option maxHeartbeats 2000000 in
theorem c_sortAt {i : Nat} (hn : n ≤ 600) (hi : i ≤ 600) (h4 : r 4 = Int32.ofNat n) : bc d M_X6_sortAt none 0 [some (.ref 1), some (.int (Int32.ofNat i)), none] [] (hp t (hR g 1 r)) cn sn = some (.inl (some (.int (Int32.ofNat (sor (g.1 2) n i)))), hp t (hR g 1 r), cn, sn) := by
  by_cases hin : i < n
  · rw [sort_s hin]
    by_cases hA : 97 ≤ (g.1 2 i).toInt ∧ (g.1 2 i).toInt ≤ 122
    · have e1 : (g.1 2 i < 97) = False := by rw [ii_lt, ti_97]; exact eq_false (by omega)
      have e2 : (122 < g.1 2 i) = False := by rw [ii_lt, ti_122]; exact eq_false (by omega)
      unfold srt
      rw [if_pos hA]
      simp (disch := omega) only [st_X6_sortAt_0, st_X6_sortAt_1, st_X6_sortAt_4, st_X6_sortAt_5, st_X6_sortAt_6, st_X6_sortAt_9, st_X6_sortAt_14, st_X6_sortAt_15, st_X6_sortAt_18, st_X6_sortAt_19, st_X6_sortAt_20, st_X6_sortAt_21, st_X6_sortAt_22, st_X6_sortAt_24, st_X6_sortAt_27, st_X6_sortAt_28, st_X6_sortAt_30, st_X6_sortAt_33, st_X6_sortAt_34, nn_l0, Nat.not_lt_zero, if_false, if_true, bM_some, hg_1_4, hg_1_0, ha_2, h1_1, h1_2, h4, nn_lt, hin, nn_out, nn_clamp, cond_false, e1, e2, lc_r, lc_i, lc_n, Nat.reduceAdd]
      rfl
    · by_cases hB : 48 ≤ (g.1 2 i).toInt ∧ (g.1 2 i).toInt ≤ 57
      · have e1 : (g.1 2 i < 97) = True := by rw [ii_lt, ti_97]; exact eq_true (by omega)
        have e2 : (g.1 2 i < 48) = False := by rw [ii_lt, ti_48]; exact eq_false (by omega)
        have e3 : (57 < g.1 2 i) = False := by rw [ii_lt, ti_57]; exact eq_false (by omega)
        unfold srt
        rw [if_neg hA, if_pos hB]
        simp (disch := omega) only [st_X6_sortAt_0, st_X6_sortAt_1, st_X6_sortAt_4, st_X6_sortAt_5, st_X6_sortAt_6, st_X6_sortAt_9, st_X6_sortAt_14, st_X6_sortAt_15, st_X6_sortAt_18, st_X6_sortAt_19, st_X6_sortAt_20, st_X6_sortAt_21, st_X6_sortAt_22, st_X6_sortAt_24, st_X6_sortAt_35, st_X6_sortAt_36, st_X6_sortAt_38, st_X6_sortAt_41, st_X6_sortAt_42, st_X6_sortAt_44, st_X6_sortAt_47, st_X6_sortAt_48, nn_l0, Nat.not_lt_zero, if_false, if_true, bM_some, hg_1_4, hg_1_0, ha_2, h1_1, h1_2, h4, nn_lt, hin, nn_out, nn_clamp, cond_false, e1, e2, e3, lc_r, lc_i, lc_n, Nat.reduceAdd]
        rfl
      · by_cases h10 : g.1 2 i = 10
        · rw [sa_10 hn hin h4 h10, h10, srt_10]; rfl
        by_cases h32 : g.1 2 i = 32
        · rw [sa_32 hn hin h4 h32, h32, srt_32]; rfl
        by_cases h40 : g.1 2 i = 40
        · rw [sa_40 hn hin h4 h40, h40, srt_40]; rfl
        by_cases h41 : g.1 2 i = 41
        · rw [sa_41 hn hin h4 h41, h41, srt_41]; rfl
        by_cases h42 : g.1 2 i = 42
        · rw [sa_42 hn hin h4 h42, h42, srt_42]; rfl
        by_cases h43 : g.1 2 i = 43
        · rw [sa_43 hn hin h4 h43, h43, srt_43]; rfl
        by_cases h45 : g.1 2 i = 45
        · rw [sa_45 hn hin h4 h45, h45, srt_45]; rfl
        by_cases h47 : g.1 2 i = 47
        · rw [sa_47 hn hin h4 h47, h47, srt_47]; rfl
        by_cases h59 : g.1 2 i = 59
        · rw [sa_59 hn hin h4 h59, h59, srt_59]; rfl
        by_cases h60 : g.1 2 i = 60
        · rw [sa_60 hn hin h4 h60, h60, srt_60]; rfl
        by_cases h61 : g.1 2 i = 61
        · rw [sa_61 hn hin h4 h61, h61, srt_61]; rfl
        have es : srt (g.1 2 i) = 5 := by
          unfold srt
          rw [if_neg hA, if_neg hB, if_neg (by simp only [h10, h32, or_self, not_false_eq_true]), if_neg (by simp only [h40, h41, h42, h43, h45, h47, h59, h60, h61, or_self, not_false_eq_true])]
        have sd : ∀ (d : Nat) (st : List Value) (h : px_H) (cn sn : Nat) (a0 a1 a2 : Option Value), bc d M_X6_sortAt none 50 [a0, a1, a2] (.int (g.1 2 i) :: st) h cn sn = bc d M_X6_sortAt none 152 [a0, a1, a2] st h cn sn := fun d st h cn sn a0 a1 a2 => sw_X6_sortAt_d h10 h32 h40 h41 h42 h43 h45 h47 h59 h60 h61
        rw [es]
        by_cases e1 : g.1 2 i < 97
        · by_cases e2 : g.1 2 i < 48
          · simp (disch := omega) only [st_X6_sortAt_0, st_X6_sortAt_1, st_X6_sortAt_4, st_X6_sortAt_5, st_X6_sortAt_6, st_X6_sortAt_9, st_X6_sortAt_14, st_X6_sortAt_15, st_X6_sortAt_18, st_X6_sortAt_19, st_X6_sortAt_20, st_X6_sortAt_21, st_X6_sortAt_22, st_X6_sortAt_24, st_X6_sortAt_35, st_X6_sortAt_36, st_X6_sortAt_38, st_X6_sortAt_49, st_X6_sortAt_152, st_X6_sortAt_153, sd, nn_l0, Nat.not_lt_zero, if_false, if_true, bM_some, hg_1_4, hg_1_0, ha_2, h1_1, h1_2, h4, nn_lt, hin, nn_out, nn_clamp, cond_false, e1, e2, lc_r, lc_i, lc_n, Nat.reduceAdd]
            rfl
          · have e3 : (57 < g.1 2 i) = True := by rw [ii_lt, ti_57]; rw [ii_lt, ti_48] at e2; exact eq_true (by omega)
            simp (disch := omega) only [st_X6_sortAt_0, st_X6_sortAt_1, st_X6_sortAt_4, st_X6_sortAt_5, st_X6_sortAt_6, st_X6_sortAt_9, st_X6_sortAt_14, st_X6_sortAt_15, st_X6_sortAt_18, st_X6_sortAt_19, st_X6_sortAt_20, st_X6_sortAt_21, st_X6_sortAt_22, st_X6_sortAt_24, st_X6_sortAt_35, st_X6_sortAt_36, st_X6_sortAt_38, st_X6_sortAt_41, st_X6_sortAt_42, st_X6_sortAt_44, st_X6_sortAt_49, st_X6_sortAt_152, st_X6_sortAt_153, sd, nn_l0, Nat.not_lt_zero, if_false, if_true, bM_some, hg_1_4, hg_1_0, ha_2, h1_1, h1_2, h4, nn_lt, hin, nn_out, nn_clamp, cond_false, e1, e2, e3, lc_r, lc_i, lc_n, Nat.reduceAdd]
            rfl
        · have e2 : (122 < g.1 2 i) = True := by rw [ii_lt, ti_122]; rw [ii_lt, ti_97] at e1; exact eq_true (by omega)
          have e3 : (g.1 2 i < 48) = False := by rw [ii_lt, ti_48]; rw [ii_lt, ti_97] at e1; exact eq_false (by omega)
          have e4 : (57 < g.1 2 i) = True := by rw [ii_lt, ti_57]; rw [ii_lt, ti_97] at e1; exact eq_true (by omega)
          simp (disch := omega) only [st_X6_sortAt_0, st_X6_sortAt_1, st_X6_sortAt_4, st_X6_sortAt_5, st_X6_sortAt_6, st_X6_sortAt_9, st_X6_sortAt_14, st_X6_sortAt_15, st_X6_sortAt_18, st_X6_sortAt_19, st_X6_sortAt_20, st_X6_sortAt_21, st_X6_sortAt_22, st_X6_sortAt_24, st_X6_sortAt_27, st_X6_sortAt_28, st_X6_sortAt_30, st_X6_sortAt_35, st_X6_sortAt_36, st_X6_sortAt_38, st_X6_sortAt_41, st_X6_sortAt_42, st_X6_sortAt_44, st_X6_sortAt_49, st_X6_sortAt_152, st_X6_sortAt_153, sd, nn_l0, Nat.not_lt_zero, if_false, if_true, bM_some, hg_1_4, hg_1_0, ha_2, h1_1, h1_2, h4, nn_lt, hin, nn_out, nn_clamp, cond_false, e1, e2, e3, e4, lc_r, lc_i, lc_n, Nat.reduceAdd]
          rfl
  · have es : sor (g.1 2) n i = 0 := by unfold sor; rw [if_neg hin]
    rw [es]
    simp (disch := omega) only [st_X6_sortAt_0, st_X6_sortAt_1, st_X6_sortAt_4, st_X6_sortAt_5, st_X6_sortAt_6, st_X6_sortAt_9, st_X6_sortAt_12, st_X6_sortAt_13, nn_l0, Nat.not_lt_zero, if_false, bM_some, hg_1_4, h1_1, h4, nn_lt, hin, Nat.reduceAdd]
    rfl
theorem runQ_b {q : Nat} : ∀ m a : Nat, a ≤ runQ b n q m a ∧ runQ b n q m a ≤ a + m := by
  intro m
  induction m with
  | zero => intro a; exact ⟨Nat.le_refl a, Nat.le_refl a⟩
  | succ m ih =>
    intro a
    unfold runQ
    split
    · have := ih (a + 1); omega
    · omega
theorem sor_le {i : Nat} : sor b n i ≤ 5 := by
  unfold sor srt
  repeat' split
  all_goals omega
theorem sor_0 {i : Nat} : sor b n i = 0 ↔ n ≤ i := by
  unfold sor
  by_cases h : i < n
  · rw [if_pos h]
    constructor
    · intro z
      exfalso
      unfold srt at z
      repeat' split at z
      all_goals omega
    · intro z; omega
  · rw [if_neg h]; exact ⟨fun _ => by omega, fun _ => rfl⟩
theorem sor_e {i q : Nat} (hq : q ≤ 5) : (Int32.ofNat (sor b n i) = Int32.ofNat q) = (sor b n i = q) := by
  have := sor_le (b := b) (n := n) (i := i)
  exact nn_inj (by omega) (by omega)
set_option maxHeartbeats 2000000 in
theorem ad_1 (hn : n ≤ 600) (h4 : r 4 = Int32.ofNat n) : ∀ m a : Nat, a + m = n →
    bc (d + 1) M_X6_advance none 8 [some (.ref 1)] [] (hp t (hR g 1 (upd r 5 (Int32.ofNat a)))) cn sn = bc (d + 1) M_X6_advance none 44 [some (.ref 1)] [] (hp t (hR g 1 (upd r 5 (Int32.ofNat (runQ (g.1 2) n 4 m a))))) cn sn := by
  have h4' : ∀ y : Int32, upd r 5 y 4 = Int32.ofNat n := fun y => by rw [upd_oth (by decide)]; exact h4
  intro m
  induction m with
  | zero =>
    intro a ha
    rw [st_X6_advance_8]
    simp (disch := omega) only [st_X6_advance_9, st_X6_advance_12, st_X6_advance_13, st_X6_advance_16, bM_some, hg_1_5, hg_1_4, h1_1, h4', upd_same, nn_lt, show ¬ a < n by omega, if_false, runQ, Nat.reduceAdd]
  | succ m ih =>
    intro a ha
    have es := c_sortAt (d := d) (t := t) (g := g) (r := upd r 5 (Int32.ofNat a)) (cn := 0) (sn := 0) (i := a) hn (by omega) (h4' _)
    have e4 : (Int32.ofNat (sor (g.1 2) n a) = 4) = (sor (g.1 2) n a = 4) := sor_e (q := 4) (by omega)
    unfold runQ
    rw [st_X6_advance_8]
    by_cases h : sor (g.1 2) n a = 4
    · have e5 := e4.trans (eq_true h)
      rw [if_pos h, ← ih (a + 1) (by omega)]
      simp (disch := omega) only [st_X6_advance_9, st_X6_advance_12, st_X6_advance_13, st_X6_advance_16, st_X6_advance_19, st_X6_advance_20, st_X6_advance_21, st_X6_advance_27, st_X6_advance_28, st_X6_advance_31, st_X6_advance_33, st_X6_advance_36, st_X6_advance_37, st_X6_advance_38, st_X6_advance_41, st_X6_advance_32r, st_X6_advance_24 (p := 1) hq_1 ps_, bM_some, hg_1_5, hg_1_4, hs_1_5, h1_1, h1_i, h4', upd_same, upd_upd, nn_lt, show a < n by omega, if_true, es, e5, bC_inl, Option.toList, List.cons_append, List.nil_append, Nat.add_zero, nn_r1, Nat.reduceAdd]
    · rw [if_neg h]
      simp (disch := omega) only [st_X6_advance_9, st_X6_advance_12, st_X6_advance_13, st_X6_advance_16, st_X6_advance_19, st_X6_advance_20, st_X6_advance_21, st_X6_advance_27, st_X6_advance_28, st_X6_advance_24 (p := 1) hq_1 ps_, bM_some, hg_1_5, hg_1_4, h1_1, h4', upd_same, nn_lt, show a < n by omega, if_true, if_false, es, e4, h, bC_inl, Option.toList, List.cons_append, List.nil_append, Nat.add_zero, Nat.reduceAdd]
set_option maxHeartbeats 2000000 in
theorem ad_2 (hn : n ≤ 600) (h4 : r 4 = Int32.ofNat n) : ∀ m a : Nat, a + m = n →
    bc (d + 1) M_X6_advance none 77 [some (.ref 1)] [] (hp t (hR g 1 (upd r 5 (Int32.ofNat a)))) cn sn = some (.inl none, hp t (hR g 1 (upd r 5 (Int32.ofNat (runQ (g.1 2) n 1 m a)))), cn, sn) := by
  have h4' : ∀ y : Int32, upd r 5 y 4 = Int32.ofNat n := fun y => by rw [upd_oth (by decide)]; exact h4
  intro m
  induction m with
  | zero =>
    intro a ha
    rw [st_X6_advance_77]
    simp (disch := omega) only [st_X6_advance_78, st_X6_advance_81, st_X6_advance_82, st_X6_advance_85, st_X6_advance_218, bM_some, hg_1_5, hg_1_4, h1_1, h4', upd_same, nn_lt, show ¬ a < n by omega, if_false, runQ, Nat.reduceAdd]
  | succ m ih =>
    intro a ha
    have es := c_sortAt (d := d) (t := t) (g := g) (r := upd r 5 (Int32.ofNat a)) (cn := 0) (sn := 0) (i := a) hn (by omega) (h4' _)
    have e4 : (Int32.ofNat (sor (g.1 2) n a) = 1) = (sor (g.1 2) n a = 1) := sor_e (q := 1) (by omega)
    unfold runQ
    rw [st_X6_advance_77]
    by_cases h : sor (g.1 2) n a = 1
    · have e5 := e4.trans (eq_true h)
      rw [if_pos h, ← ih (a + 1) (by omega)]
      simp (disch := omega) only [st_X6_advance_78, st_X6_advance_81, st_X6_advance_82, st_X6_advance_85, st_X6_advance_88, st_X6_advance_89, st_X6_advance_90, st_X6_advance_96, st_X6_advance_97, st_X6_advance_100, st_X6_advance_102, st_X6_advance_105, st_X6_advance_106, st_X6_advance_107, st_X6_advance_110, st_X6_advance_101r, st_X6_advance_93 (p := 1) hq_1 ps_, bM_some, hg_1_5, hg_1_4, hs_1_5, h1_1, h1_i, h4', upd_same, upd_upd, nn_lt, show a < n by omega, if_true, es, e5, bC_inl, Option.toList, List.cons_append, List.nil_append, Nat.add_zero, nn_r1, Nat.reduceAdd]
    · rw [if_neg h]
      simp (disch := omega) only [st_X6_advance_78, st_X6_advance_81, st_X6_advance_82, st_X6_advance_85, st_X6_advance_88, st_X6_advance_89, st_X6_advance_90, st_X6_advance_96, st_X6_advance_97, st_X6_advance_218, st_X6_advance_93 (p := 1) hq_1 ps_, bM_some, hg_1_5, hg_1_4, h1_1, h4', upd_same, nn_lt, show a < n by omega, if_true, if_false, es, e4, h, bC_inl, Option.toList, List.cons_append, List.nil_append, Nat.add_zero, Nat.reduceAdd]
theorem dig_b {i : Nat} (h : sor b n i = 2) : 48 ≤ (b i).toInt ∧ (b i).toInt ≤ 57 := by
  unfold sor srt at h
  repeat' split at h
  all_goals first | omega | assumption
theorem upd_58 {f : Rw} {x y z : Int32} : upd (upd (upd f 5 x) 8 y) 5 z = upd (upd f 5 z) 8 y := by
  funext j; simp only [upd_at]; (repeat' split) <;> first | rfl | (exfalso; omega)
set_option maxHeartbeats 4000000 in
theorem ad_3 (hn : n ≤ 600) (h4 : r 4 = Int32.ofNat n) {s : Nat} (h7 : r 7 = Int32.ofNat s) : ∀ m a v : Nat, a + m = n → s ≤ a → (a - s < 4 → v < 10 ^ (a - s)) → v ≤ 9999 →
    bc (d + 1) M_X6_advance none 121 [some (.ref 1)] [] (hp t (hR g 1 (upd (upd r 5 (Int32.ofNat a)) 8 (Int32.ofNat v)))) cn sn = some (.inl none, hp t (hR g 1 (upd (upd r 5 (Int32.ofNat (runQ (g.1 2) n 2 m a))) 8 (Int32.ofNat (nmb (g.1 2) n s m a v)))), cn, sn) ∧ nmb (g.1 2) n s m a v ≤ 9999 := by
  have h4' : ∀ y z : Int32, upd (upd r 5 y) 8 z 4 = Int32.ofNat n := fun y z => by rw [upd_oth (by decide), upd_oth (by decide)]; exact h4
  have h7' : ∀ y z : Int32, upd (upd r 5 y) 8 z 7 = Int32.ofNat s := fun y z => by rw [upd_oth (by decide), upd_oth (by decide)]; exact h7
  have h5' : ∀ y z : Int32, upd (upd r 5 y) 8 z 5 = y := fun y z => by rw [upd_oth (by decide), upd_same]
  intro m
  induction m with
  | zero =>
    intro a v ha hs hv h9
    refine ⟨?_, h9⟩
    rw [st_X6_advance_121]
    simp (disch := omega) only [st_X6_advance_122, st_X6_advance_125, st_X6_advance_126, st_X6_advance_129, st_X6_advance_218, bM_some, hg_1_5, hg_1_4, h1_1, h4', h5', nn_lt, show ¬ a < n by omega, if_false, runQ, nmb, Nat.reduceAdd]
  | succ m ih =>
    intro a v ha hs hv h9
    have es := c_sortAt (d := d) (t := t) (g := g) (r := upd (upd r 5 (Int32.ofNat a)) 8 (Int32.ofNat v)) (cn := 0) (sn := 0) (i := a) hn (by omega) (h4' _ _)
    have e4 : (Int32.ofNat (sor (g.1 2) n a) = 2) = (sor (g.1 2) n a = 2) := sor_e (q := 2) (by omega)
    unfold runQ nmb
    by_cases h : sor (g.1 2) n a = 2
    · obtain ⟨b1, b2⟩ := dig_b h
      have bc' := ii_clamp (a := g.1 2 a)
      have eb : g.1 2 a = Int32.ofNat (g.1 2 a).toNatClampNeg := (ii_nat (by omega)).symm
      have e5 := e4.trans (eq_true h)
      rw [if_pos h, if_pos h]
      by_cases h3 : a - s < 4
      · have hv' := hv h3
        have hp3 : 10 ^ (a - s) ≤ 10 ^ 3 := Nat.pow_le_pow_right (by omega) (by omega)
        have hp4 : (10 : Nat) ^ 3 = 1000 := by decide
        have hvn : 10 * v + ((g.1 2 a).toNatClampNeg - 48) < 10 ^ (a + 1 - s) := by
          rw [show a + 1 - s = (a - s) + 1 by omega, Nat.pow_succ]
          omega
        have hv9 : 10 * v + ((g.1 2 a).toNatClampNeg - 48) ≤ 9999 := by omega
        obtain ⟨i1, i2⟩ := ih (a + 1) (10 * v + ((g.1 2 a).toNatClampNeg - 48)) (by omega) (by omega) (fun _ => hvn) hv9
        rw [if_pos h3]
        refine ⟨?_, i2⟩
        have en : Int32.ofNat (10 * v) + g.1 2 a - 48 = Int32.ofNat (10 * v + ((g.1 2 a).toNatClampNeg - 48)) := by
          rw [eb, nn_add, nn_clamp (by omega), show (48 : Int32) = Int32.ofNat 48 from rfl, nn_sub (by omega)]
          congr 1; omega
        rw [← i1, st_X6_advance_121]
        simp (disch := omega) only [st_X6_advance_122, st_X6_advance_125, st_X6_advance_126, st_X6_advance_129, st_X6_advance_132, st_X6_advance_133, st_X6_advance_134, st_X6_advance_140, st_X6_advance_141, st_X6_advance_144, st_X6_advance_145, st_X6_advance_146, st_X6_advance_149, st_X6_advance_150, st_X6_advance_153, st_X6_advance_154, st_X6_advance_155, st_X6_advance_158, st_X6_advance_160, st_X6_advance_161, st_X6_advance_164, st_X6_advance_165, st_X6_advance_166, st_X6_advance_169, st_X6_advance_170, st_X6_advance_173, st_X6_advance_174, st_X6_advance_175, st_X6_advance_177, st_X6_advance_178, st_X6_advance_185, st_X6_advance_188, st_X6_advance_190, st_X6_advance_193, st_X6_advance_194, st_X6_advance_195, st_X6_advance_198, st_X6_advance_189r, st_X6_advance_137 (p := 1) hq_1 ps_, bM_some, hg_1_0, hg_1_5, hg_1_4, hg_1_7, hg_1_8, hs_1_5, hs_1_8, ha_2, h1_1, h1_2, h1_i, h4', h5', h7', upd_same, upd_upd, upd_58, nn_lt, show a < n by omega, if_true, es, e5, nn_sub, nn_l4, h3, nn_m10, en, nn_out, nn_clamp, cond_false, bC_inl, Option.toList, List.cons_append, List.nil_append, Nat.add_zero, nn_r1, Nat.reduceAdd]
      · obtain ⟨i1, i2⟩ := ih (a + 1) v (by omega) (by omega) (fun z => by omega) h9
        rw [if_neg h3]
        refine ⟨?_, i2⟩
        rw [← i1, st_X6_advance_121]
        simp (disch := omega) only [st_X6_advance_122, st_X6_advance_125, st_X6_advance_126, st_X6_advance_129, st_X6_advance_132, st_X6_advance_133, st_X6_advance_134, st_X6_advance_140, st_X6_advance_141, st_X6_advance_144, st_X6_advance_145, st_X6_advance_146, st_X6_advance_149, st_X6_advance_150, st_X6_advance_153, st_X6_advance_154, st_X6_advance_155, st_X6_advance_181, st_X6_advance_182, st_X6_advance_185, st_X6_advance_188, st_X6_advance_190, st_X6_advance_193, st_X6_advance_194, st_X6_advance_195, st_X6_advance_198, st_X6_advance_189r, st_X6_advance_137 (p := 1) hq_1 ps_, bM_some, hg_1_5, hg_1_4, hg_1_7, hg_1_8, hs_1_5, hs_1_8, h1_1, h1_i, h4', h5', h7', upd_same, upd_upd, upd_58, nn_lt, show a < n by omega, if_true, if_false, es, e5, nn_sub, nn_l4, h3, bC_inl, Option.toList, List.cons_append, List.nil_append, Nat.add_zero, nn_r1, Nat.reduceAdd]
    · rw [if_neg h, if_neg h]
      refine ⟨?_, h9⟩
      rw [st_X6_advance_121]
      simp (disch := omega) only [st_X6_advance_122, st_X6_advance_125, st_X6_advance_126, st_X6_advance_129, st_X6_advance_132, st_X6_advance_133, st_X6_advance_134, st_X6_advance_140, st_X6_advance_141, st_X6_advance_218, st_X6_advance_137 (p := 1) hq_1 ps_, bM_some, hg_1_5, hg_1_4, h1_1, h4', h5', nn_lt, show a < n by omega, if_true, if_false, es, e4, h, bC_inl, Option.toList, List.cons_append, List.nil_append, Nat.add_zero, Nat.reduceAdd]
end READ2
