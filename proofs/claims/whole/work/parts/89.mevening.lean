/-! ===== evenings of the reference ===== -/
theorem hI_sm {g : hG} {c i : Nat} {x : Int32} : (hI g c i x).1 c i = x := by rw [hI_at, if_pos ⟨rfl, rfl⟩]
section MEVE
variable {d : Nat} {t : List px_E} {g : hG} {h : px_H} {j q N S D L T cn sn c : Nat} {w a k v : Rw} {x y p s : Int32} {K : Kt}
theorem upd_row {i : Nat} {z : Int32} (hz : w i = z) : upd w i z = w := by
  funext i'; rw [upd_at]; split
  · next e => rw [e, hz]
  · rfl
set_option maxHeartbeats 2000000 in
theorem m_some_l (hM : MK K N S D L g) (hK : KN K N S D L) (hj : j < N) : ∀ m s : Nat, s + m = S → ∀ w : Rw, w j = -1 →
    bc (d + 1) M_X10_something none 40 [some (.ref 49), some (.int (Int32.ofNat j)), some (.int 1), some (.int (Int32.ofNat s))] [] (hp t (gM g w a k)) cn sn = some (.inl none, hp t (gM g (upd w j (freeR w N m s)) a k), cn, sn) := by
  have h8 := hK.2.1
  have h4 := hK.2.2.2.1
  intro m
  induction m with
  | zero =>
    intro s hs w hw
    rw [st_X10_something_40]
    simp (disch := omega) only [st_X10_something_0, bM_some, hg_49_3, st_X10_something_1, st_X10_something_4, cond_false, ha_52, st_X10_something_5, st_X10_something_6, st_X10_something_9, st_X10_something_10, st_X10_something_11, st_X10_something_12, st_X10_something_15, st_X10_something_16, st_X10_something_17 (p := 49) hq_49 ps_, bC_inl, Option.toList, List.cons_append, List.nil_append, Nat.add_zero, lc_i, lc_r, lc_n, lc_j, lc_f, st_X10_something_20, st_X10_something_21, st_X10_something_22, st_X10_something_23 (p := 49) hq_49 ps_, st_X10_something_26, st_X10_something_27, st_X10_something_28, st_X10_something_31, hg_49_25, st_X10_something_32, st_X10_something_35, st_X10_something_36, hw_64, st_X10_something_37, st_X10_something_38, st_X10_something_39, st_X10_something_41, st_X10_something_42, st_X10_something_45, st_X10_something_46, st_X10_something_47, st_X10_something_50, st_X10_something_51, st_X10_something_52, st_X10_something_55, st_X10_something_56, st_X10_something_59, ha_64, st_X10_something_60, st_X10_something_61, st_X10_something_62, st_X10_something_65, st_X10_something_66, st_X10_something_67 (p := 49) hq_49 ps_, st_X10_something_70, st_X10_something_71, st_X10_something_74, st_X10_something_75, st_X10_something_78, st_X10_something_79, st_X10_something_80, st_X10_something_81, st_X10_something_84, st_X10_something_87, Nat.reduceAdd, gM_64, gM_65, gM_66, gM_67, gM_68, gM_69, gM_70, gM_33, gM_72, gM_73, gM_o, gM_49, gMw_64, gMw_65, gMw_66, gMw_67, gMw_68, gMw_69, gMw_70, gMw_33, gMw_72, gMw_73, Nat.zero_add, nn_oc1, nn_c1, hM.s hK, nn_lt, show ¬ s < S by omega, if_true, if_false, freeR, upd_row hw]
  | succ m ih =>
    intro s hs w hw
    rw [st_X10_something_40]
    unfold freeR
    by_cases h1 : findR w (Int32.ofNat s) N 0 = -1
    · have hx : bc (d + 1) M_X10_something none 40 [some (.ref 49), some (.int (Int32.ofNat j)), some (.int 1), some (.int (Int32.ofNat (s + 1)))] [] (hp t (gM g (upd w j (Int32.ofNat s)) a k)) cn sn = some (.inl none, hp t (gM g (upd w j (Int32.ofNat s)) a k), cn, sn) := by
        rw [st_X10_something_40]
        by_cases h2 : s + 1 < S
        · simp (disch := omega) only [st_X10_something_0, bM_some, hg_49_3, st_X10_something_1, st_X10_something_4, cond_false, ha_52, st_X10_something_5, st_X10_something_6, st_X10_something_9, st_X10_something_10, st_X10_something_11, st_X10_something_12, st_X10_something_15, st_X10_something_16, st_X10_something_17 (p := 49) hq_49 ps_, bC_inl, Option.toList, List.cons_append, List.nil_append, Nat.add_zero, lc_i, lc_r, lc_n, lc_j, lc_f, st_X10_something_20, st_X10_something_21, st_X10_something_22, st_X10_something_23 (p := 49) hq_49 ps_, st_X10_something_26, st_X10_something_27, st_X10_something_28, st_X10_something_31, hg_49_25, st_X10_something_32, st_X10_something_35, st_X10_something_36, hw_64, st_X10_something_37, st_X10_something_38, st_X10_something_39, st_X10_something_41, st_X10_something_42, st_X10_something_45, st_X10_something_46, st_X10_something_47, st_X10_something_50, st_X10_something_51, st_X10_something_52, st_X10_something_55, st_X10_something_56, st_X10_something_59, ha_64, st_X10_something_60, st_X10_something_61, st_X10_something_62, st_X10_something_65, st_X10_something_66, st_X10_something_67 (p := 49) hq_49 ps_, st_X10_something_70, st_X10_something_71, st_X10_something_74, st_X10_something_75, st_X10_something_78, st_X10_something_79, st_X10_something_80, st_X10_something_81, st_X10_something_84, st_X10_something_87, Nat.reduceAdd, gM_64, gM_65, gM_66, gM_67, gM_68, gM_69, gM_70, gM_33, gM_72, gM_73, gM_o, gM_49, gMw_64, gMw_65, gMw_66, gMw_67, gMw_68, gMw_69, gMw_70, gMw_33, gMw_72, gMw_73, Nat.zero_add, nn_1, nn_8, nn_16, nn_24, nn_32, nn_40, nn_48, nn_suc, nn_out, nn_clamp, Int32.zero_add, nn_oc1, nn_c1, hM.s hK, nn_lt, h2, if_true, if_false, upd_same, nn_nneg]
        · simp (disch := omega) only [st_X10_something_0, bM_some, hg_49_3, st_X10_something_1, st_X10_something_4, cond_false, ha_52, st_X10_something_5, st_X10_something_6, st_X10_something_9, st_X10_something_10, st_X10_something_11, st_X10_something_12, st_X10_something_15, st_X10_something_16, st_X10_something_17 (p := 49) hq_49 ps_, bC_inl, Option.toList, List.cons_append, List.nil_append, Nat.add_zero, lc_i, lc_r, lc_n, lc_j, lc_f, st_X10_something_20, st_X10_something_21, st_X10_something_22, st_X10_something_23 (p := 49) hq_49 ps_, st_X10_something_26, st_X10_something_27, st_X10_something_28, st_X10_something_31, hg_49_25, st_X10_something_32, st_X10_something_35, st_X10_something_36, hw_64, st_X10_something_37, st_X10_something_38, st_X10_something_39, st_X10_something_41, st_X10_something_42, st_X10_something_45, st_X10_something_46, st_X10_something_47, st_X10_something_50, st_X10_something_51, st_X10_something_52, st_X10_something_55, st_X10_something_56, st_X10_something_59, ha_64, st_X10_something_60, st_X10_something_61, st_X10_something_62, st_X10_something_65, st_X10_something_66, st_X10_something_67 (p := 49) hq_49 ps_, st_X10_something_70, st_X10_something_71, st_X10_something_74, st_X10_something_75, st_X10_something_78, st_X10_something_79, st_X10_something_80, st_X10_something_81, st_X10_something_84, st_X10_something_87, Nat.reduceAdd, gM_64, gM_65, gM_66, gM_67, gM_68, gM_69, gM_70, gM_33, gM_72, gM_73, gM_o, gM_49, gMw_64, gMw_65, gMw_66, gMw_67, gMw_68, gMw_69, gMw_70, gMw_33, gMw_72, gMw_73, Nat.zero_add, nn_1, nn_8, nn_16, nn_24, nn_32, nn_40, nn_48, nn_suc, nn_out, nn_clamp, Int32.zero_add, nn_oc1, nn_c1, hM.s hK, nn_lt, h2, if_true, if_false]
      rw [if_pos h1, ← hx]
      simp (disch := omega) only [st_X10_something_0, bM_some, hg_49_3, st_X10_something_1, st_X10_something_4, cond_false, ha_52, st_X10_something_5, st_X10_something_6, st_X10_something_9, st_X10_something_10, st_X10_something_11, st_X10_something_12, st_X10_something_15, st_X10_something_16, st_X10_something_17 (p := 49) hq_49 ps_, bC_inl, Option.toList, List.cons_append, List.nil_append, Nat.add_zero, lc_i, lc_r, lc_n, lc_j, lc_f, st_X10_something_20, st_X10_something_21, st_X10_something_22, st_X10_something_23 (p := 49) hq_49 ps_, st_X10_something_26, st_X10_something_27, st_X10_something_28, st_X10_something_31, hg_49_25, st_X10_something_32, st_X10_something_35, st_X10_something_36, hw_64, st_X10_something_37, st_X10_something_38, st_X10_something_39, st_X10_something_41, st_X10_something_42, st_X10_something_45, st_X10_something_46, st_X10_something_47, st_X10_something_50, st_X10_something_51, st_X10_something_52, st_X10_something_55, st_X10_something_56, st_X10_something_59, ha_64, st_X10_something_60, st_X10_something_61, st_X10_something_62, st_X10_something_65, st_X10_something_66, st_X10_something_67 (p := 49) hq_49 ps_, st_X10_something_70, st_X10_something_71, st_X10_something_74, st_X10_something_75, st_X10_something_78, st_X10_something_79, st_X10_something_80, st_X10_something_81, st_X10_something_84, st_X10_something_87, Nat.reduceAdd, gM_64, gM_65, gM_66, gM_67, gM_68, gM_69, gM_70, gM_33, gM_72, gM_73, gM_o, gM_49, gMw_64, gMw_65, gMw_66, gMw_67, gMw_68, gMw_69, gMw_70, gMw_33, gMw_72, gMw_73, Nat.zero_add, nn_1, nn_8, nn_16, nn_24, nn_32, nn_40, nn_48, nn_suc, nn_out, nn_clamp, Int32.zero_add, nn_oc1, nn_c1, hM.s hK, nn_lt, show s < S by omega, hw, if_true, m_kettleOn hM hK, h1, nn_r1]
    · rw [if_neg h1]
      simp (disch := omega) only [st_X10_something_0, bM_some, hg_49_3, st_X10_something_1, st_X10_something_4, cond_false, ha_52, st_X10_something_5, st_X10_something_6, st_X10_something_9, st_X10_something_10, st_X10_something_11, st_X10_something_12, st_X10_something_15, st_X10_something_16, st_X10_something_17 (p := 49) hq_49 ps_, bC_inl, Option.toList, List.cons_append, List.nil_append, Nat.add_zero, lc_i, lc_r, lc_n, lc_j, lc_f, st_X10_something_20, st_X10_something_21, st_X10_something_22, st_X10_something_23 (p := 49) hq_49 ps_, st_X10_something_26, st_X10_something_27, st_X10_something_28, st_X10_something_31, hg_49_25, st_X10_something_32, st_X10_something_35, st_X10_something_36, hw_64, st_X10_something_37, st_X10_something_38, st_X10_something_39, st_X10_something_41, st_X10_something_42, st_X10_something_45, st_X10_something_46, st_X10_something_47, st_X10_something_50, st_X10_something_51, st_X10_something_52, st_X10_something_55, st_X10_something_56, st_X10_something_59, ha_64, st_X10_something_60, st_X10_something_61, st_X10_something_62, st_X10_something_65, st_X10_something_66, st_X10_something_67 (p := 49) hq_49 ps_, st_X10_something_70, st_X10_something_71, st_X10_something_74, st_X10_something_75, st_X10_something_78, st_X10_something_79, st_X10_something_80, st_X10_something_81, st_X10_something_84, st_X10_something_87, Nat.reduceAdd, gM_64, gM_65, gM_66, gM_67, gM_68, gM_69, gM_70, gM_33, gM_72, gM_73, gM_o, gM_49, gMw_64, gMw_65, gMw_66, gMw_67, gMw_68, gMw_69, gMw_70, gMw_33, gMw_72, gMw_73, Nat.zero_add, nn_1, nn_8, nn_16, nn_24, nn_32, nn_40, nn_48, nn_suc, nn_out, nn_clamp, Int32.zero_add, nn_oc1, nn_c1, hM.s hK, nn_lt, show s < S by omega, hw, if_true, if_false, m_kettleOn hM hK, h1, nn_r1]
      exact ih (s + 1) (by omega) w hw
set_option maxHeartbeats 4000000 in
theorem m_something_c (hM : MK K N S D L g) (hK : KN K N S D L) (hN : ¬ N = 0) {u b : Nat} {z z2 : Int32} (hd1 : u < N) (hd2 : b < 4) (e1 : bc (d + 1) M_X10_drawOf none 0 [some (.ref 49), some (.int (Int32.ofNat N))] [] (hp t (gM g w a k)) 0 0 = some (.inl (some (.int (Int32.ofNat u))), hp t (gM (hI g 49 49 z) w a k), 0, 0)) (e2 : bc (d + 1) M_X10_drawOf none 0 [some (.ref 49), some (.int 4)] [] (hp t (gM (hI g 49 49 z) w a k)) 0 0 = some (.inl (some (.int (Int32.ofNat b))), hp t (gM (hI g 49 49 z2) w a k), 0, 0)) :
    bc (d + 2) M_X10_something none 0 [some (.ref 49), none, none, none] [] (hp t (gM g w a k)) cn sn = some (.inl none, hp t (gM (hI g 49 49 z2) (meddR N S w u b) a k), cn, sn) := by
  have h8 := hK.2.1
  have h4 := hK.2.2.2.1
  have hM2 : MK K N S D L (hI g 49 49 z2) := MK_49 hM
  unfold meddR
  by_cases b0 : b = 0
  · subst b0
    simp (disch := omega) only [st_X10_something_0, st_X10_something_1, st_X10_something_4, st_X10_something_5, st_X10_something_6, st_X10_something_10, st_X10_something_11, st_X10_something_12, st_X10_something_15, st_X10_something_16, st_X10_something_20, st_X10_something_21, st_X10_something_22, st_X10_something_26, st_X10_something_27, st_X10_something_28, st_X10_something_31, st_X10_something_32, st_X10_something_35, st_X10_something_36, st_X10_something_37, st_X10_something_38, st_X10_something_39, st_X10_something_17 (p := 49) hq_49 ps_, st_X10_something_23 (p := 49) hq_49 ps_, bM_some, hg_49_3, hg_49_25, ha_52, hw_64, cond_false, nn_1, nn_8, nn_16, nn_24, nn_32, nn_40, nn_48, nn_suc, nn_out, nn_clamp, Int32.zero_add, gM_64, gM_65, gM_66, gM_67, gM_68, gM_69, gM_70, gM_33, gM_72, gM_73, gM_o, gM_49, gMw_64, gMw_65, gMw_66, gMw_67, gMw_68, gMw_69, gMw_70, gMw_33, gMw_72, gMw_73, Nat.zero_add, nn_oc0, nn_c0, hM.n hK, nn_e0, hN, if_true, if_false, e1, e2, bC_inl, Option.toList, List.cons_append, List.nil_append, Nat.add_zero, lc_i, lc_r, lc_n, Nat.reduceAdd]
    rw [st_X10_something_40]
    simp (disch := omega) only [st_X10_something_41, st_X10_something_42, st_X10_something_87, show (Int32.ofNat 0 = (1 : Int32)) = False by decide, if_false, Nat.reduceAdd]
  · by_cases b1 : b = 1
    · subst b1
      simp (disch := omega) only [st_X10_something_0, st_X10_something_1, st_X10_something_4, st_X10_something_5, st_X10_something_6, st_X10_something_10, st_X10_something_11, st_X10_something_12, st_X10_something_15, st_X10_something_16, st_X10_something_20, st_X10_something_21, st_X10_something_22, st_X10_something_26, st_X10_something_27, st_X10_something_28, st_X10_something_38, st_X10_something_39, st_X10_something_17 (p := 49) hq_49 ps_, st_X10_something_23 (p := 49) hq_49 ps_, bM_some, hg_49_3, ha_52, cond_false, nn_1, nn_8, nn_16, nn_24, nn_32, nn_40, nn_48, nn_suc, nn_out, nn_clamp, Int32.zero_add, gM_64, gM_65, gM_66, gM_67, gM_68, gM_69, gM_70, gM_33, gM_72, gM_73, gM_o, gM_49, gMw_64, gMw_65, gMw_66, gMw_67, gMw_68, gMw_69, gMw_70, gMw_33, gMw_72, gMw_73, Nat.zero_add, nn_oc0, nn_c0, hM.n hK, nn_e0, hN, b0, if_true, if_false, e1, e2, bC_inl, Option.toList, List.cons_append, List.nil_append, Nat.add_zero, lc_i, lc_r, lc_n, Nat.reduceAdd]
      rw [show Int32.ofNat 1 = (1 : Int32) from rfl, show (0 : Int32) = Int32.ofNat 0 from rfl]
      by_cases hw : w u = -1
      · rw [if_pos hw]
        exact m_some_l hM2 hK (by omega) S 0 (by omega) w hw
      · rw [if_neg hw, st_X10_something_40]
        by_cases hS : 0 < S
        · simp (disch := omega) only [st_X10_something_41, st_X10_something_42, st_X10_something_45, st_X10_something_46, st_X10_something_47, st_X10_something_50, st_X10_something_51, st_X10_something_52, st_X10_something_55, st_X10_something_56, st_X10_something_59, st_X10_something_60, st_X10_something_61, st_X10_something_62, st_X10_something_87, bM_some, hg_49_3, hg_49_25, ha_52, ha_64, cond_false, nn_1, nn_8, nn_16, nn_24, nn_32, nn_40, nn_48, nn_suc, nn_out, nn_clamp, Int32.zero_add, gM_64, gM_65, gM_66, gM_67, gM_68, gM_69, gM_70, gM_33, gM_72, gM_73, gM_o, gM_49, gMw_64, gMw_65, gMw_66, gMw_67, gMw_68, gMw_69, gMw_70, gMw_33, gMw_72, gMw_73, Nat.zero_add, nn_oc1, nn_c1, hM2.s hK, nn_lt, hS, hw, if_true, if_false, Nat.reduceAdd]
        · simp (disch := omega) only [st_X10_something_41, st_X10_something_42, st_X10_something_45, st_X10_something_46, st_X10_something_47, st_X10_something_50, st_X10_something_51, st_X10_something_52, st_X10_something_87, bM_some, hg_49_3, ha_52, cond_false, nn_1, nn_8, nn_16, nn_24, nn_32, nn_40, nn_48, nn_suc, nn_out, nn_clamp, Int32.zero_add, gM_64, gM_65, gM_66, gM_67, gM_68, gM_69, gM_70, gM_33, gM_72, gM_73, gM_o, gM_49, gMw_64, gMw_65, gMw_66, gMw_67, gMw_68, gMw_69, gMw_70, gMw_33, gMw_72, gMw_73, Nat.zero_add, nn_oc1, nn_c1, hM2.s hK, nn_lt, hS, if_true, if_false, Nat.reduceAdd]
    · simp (disch := omega) only [st_X10_something_0, st_X10_something_1, st_X10_something_4, st_X10_something_5, st_X10_something_6, st_X10_something_10, st_X10_something_11, st_X10_something_12, st_X10_something_15, st_X10_something_16, st_X10_something_20, st_X10_something_21, st_X10_something_22, st_X10_something_26, st_X10_something_27, st_X10_something_28, st_X10_something_38, st_X10_something_39, st_X10_something_17 (p := 49) hq_49 ps_, st_X10_something_23 (p := 49) hq_49 ps_, bM_some, hg_49_3, ha_52, cond_false, nn_1, nn_8, nn_16, nn_24, nn_32, nn_40, nn_48, nn_suc, nn_out, nn_clamp, Int32.zero_add, gM_64, gM_65, gM_66, gM_67, gM_68, gM_69, gM_70, gM_33, gM_72, gM_73, gM_o, gM_49, gMw_64, gMw_65, gMw_66, gMw_67, gMw_68, gMw_69, gMw_70, gMw_33, gMw_72, gMw_73, Nat.zero_add, nn_oc0, nn_c0, hM.n hK, nn_e0, hN, b0, b1, if_false, e1, e2, bC_inl, Option.toList, List.cons_append, List.nil_append, Nat.add_zero, lc_i, lc_r, lc_n, Nat.reduceAdd]
      rw [st_X10_something_40]
      simp (disch := omega) only [st_X10_something_41, st_X10_something_42, st_X10_something_87, nn_e1, b1, if_false, Nat.reduceAdd]
theorem m_something_0 (hM : MK K N S D L g) (hK : KN K N S D L) (hN : N = 0) : bc (d + 2) M_X10_something none 0 [some (.ref 49), none, none, none] [] (hp t (gM g w a k)) cn sn = some (.inl none, hp t (gM g w a k), cn, sn) := by
  simp (disch := omega) only [st_X10_something_0, bM_some, hg_49_3, st_X10_something_1, st_X10_something_4, cond_false, ha_52, st_X10_something_5, st_X10_something_6, st_X10_something_9, st_X10_something_10, st_X10_something_11, st_X10_something_12, st_X10_something_15, st_X10_something_16, st_X10_something_17 (p := 49) hq_49 ps_, bC_inl, Option.toList, List.cons_append, List.nil_append, Nat.add_zero, lc_i, lc_r, lc_n, lc_j, lc_f, st_X10_something_20, st_X10_something_21, st_X10_something_22, st_X10_something_23 (p := 49) hq_49 ps_, st_X10_something_26, st_X10_something_27, st_X10_something_28, st_X10_something_31, hg_49_25, st_X10_something_32, st_X10_something_35, st_X10_something_36, hw_64, st_X10_something_37, st_X10_something_38, st_X10_something_39, st_X10_something_41, st_X10_something_42, st_X10_something_45, st_X10_something_46, st_X10_something_47, st_X10_something_50, st_X10_something_51, st_X10_something_52, st_X10_something_55, st_X10_something_56, st_X10_something_59, ha_64, st_X10_something_60, st_X10_something_61, st_X10_something_62, st_X10_something_65, st_X10_something_66, st_X10_something_67 (p := 49) hq_49 ps_, st_X10_something_70, st_X10_something_71, st_X10_something_74, st_X10_something_75, st_X10_something_78, st_X10_something_79, st_X10_something_80, st_X10_something_81, st_X10_something_84, st_X10_something_87, Nat.reduceAdd, gM_64, gM_65, gM_66, gM_67, gM_68, gM_69, gM_70, gM_33, gM_72, gM_73, gM_o, gM_49, gMw_64, gMw_65, gMw_66, gMw_67, gMw_68, gMw_69, gMw_70, gMw_33, gMw_72, gMw_73, Nat.zero_add, nn_oc0, nn_c0, hM.n hK, nn_e0, hN, if_true]
theorem m_something (hM : MK K N S D L g) (hK : KN K N S D L) (hN : ¬ N = 0) (hs : g.1 49 49 = s) : bc (d + 2) M_X10_something none 0 [some (.ref 49), none, none, none] [] (hp t (gM g w a k)) cn sn = some (.inl none, hp t (gM (hI g 49 49 (seedS (seedS s))) (meddR N S w (drawV (seedS s) % N) (drawV (seedS (seedS s)) % 4)) a k), cn, sn) := by
  have h8 := hK.2.1
  have e1 := m_drawOf (d := d + 1) (t := t) (g := g) (w := w) (a := a) (k := k) (cn := 0) (sn := 0) (q := N) (by omega) h8
  have e2 := m_drawOf (d := d + 1) (t := t) (g := hI g 49 49 (seedS (g.1 49 49))) (w := w) (a := a) (k := k) (cn := 0) (sn := 0) (q := 4) (by omega) (by omega)
  rw [hI_hI, hI_sm] at e2
  rw [hs] at e1 e2
  exact m_something_c hM hK hN (Nat.mod_lt _ (by omega)) (Nat.mod_lt _ (by omega)) e1 e2
set_option maxHeartbeats 2000000 in
theorem m_eve_h (hM : MK K N S D L g) (hK : KN K N S D L) (a4 a6 : Int32) : ∀ m i : Nat, i + m = N → ∀ hh : Int32, ∃ b7 : Option Value,
    bc (d + 1) M_X10_evening none 98 [some (.ref 49), some (.int y), some (.int s), some (.int x), some (.int a4), some (.int hh), some (.int a6), some (.int (Int32.ofNat i))] [] (hp t (gM g w a k)) cn sn =
    bc (d + 1) M_X10_evening none 129 [some (.ref 49), some (.int y), some (.int s), some (.int x), some (.int a4), some (.int (hiF w m i hh)), some (.int a6), b7] [] (hp t (gM g w a k)) cn sn := by
  have h8 := hK.2.1
  intro m
  induction m with
  | zero =>
    intro i hi hh
    refine ⟨some (.int (Int32.ofNat i)), ?_⟩
    rw [st_X10_evening_98]
    simp (disch := omega) only [st_X10_evening_100, st_X10_evening_101, st_X10_evening_104, st_X10_evening_105, st_X10_evening_106, bM_some, hg_49_3, ha_52, cond_false, gM_64, gM_65, gM_66, gM_67, gM_68, gM_69, gM_70, gM_33, gM_72, gM_73, gM_o, gM_49, gMw_64, gMw_65, gMw_66, gMw_67, gMw_68, gMw_69, gMw_70, gMw_33, gMw_72, gMw_73, Nat.zero_add, nn_oc0, nn_c0, hM.n hK, nn_lt, show ¬ i < N by omega, if_false, hiF, Nat.reduceAdd]
  | succ m ih =>
    intro i hi hh
    obtain ⟨b7, e⟩ := ih (i + 1) (by omega) (px_max hh (w (40 + i)))
    refine ⟨b7, ?_⟩
    rw [show hiF w (m + 1) i hh = hiF w m (i + 1) (px_max hh (w (40 + i))) from rfl, ← e, st_X10_evening_98]
    simp (disch := omega) only [st_X10_evening_100, st_X10_evening_101, st_X10_evening_104, st_X10_evening_105, st_X10_evening_106, st_X10_evening_109, st_X10_evening_111, st_X10_evening_112, st_X10_evening_115, st_X10_evening_117, st_X10_evening_118, st_X10_evening_121, st_X10_evening_123, st_X10_evening_126, bM_some, bP_some, m2_, hg_49_3, hg_49_30, ha_52, ha_69, cond_false, gM_64, gM_65, gM_66, gM_67, gM_68, gM_69, gM_70, gM_33, gM_72, gM_73, gM_o, gM_49, gMw_64, gMw_65, gMw_66, gMw_67, gMw_68, gMw_69, gMw_70, gMw_33, gMw_72, gMw_73, Nat.zero_add, nn_1, nn_8, nn_16, nn_24, nn_32, nn_40, nn_48, nn_suc, nn_out, nn_clamp, Int32.zero_add, nn_oc0, nn_c0, hM.n hK, nn_lt, show i < N by omega, if_true, lc_i, Nat.reduceAdd, nn_r1]
set_option maxHeartbeats 8000000 in
theorem m_eve_l (hK : KN K N S D L) (hO : KO K N S D L) (hq : q ≤ 90) (hx : x = 0 ∨ x = 1 ∨ x = 2) (f : Rw) : ∀ m i : Nat, i + m = q → ∀ (g : hG) (u : Int32 × Rw) (c : Nat) (hh : Int32) (a k : Rw) (T : Nat) (a7 : Option Value), MK K N S D L g → g.1 49 49 = u.1 → g.1 74 = f → RI K N S T u.2 → T + m < 30000 → c ≤ i → ∃ (z : Int32) (a' k' : Rw),
    bc (d + 4) M_X10_evening none 64 [some (.ref 49), some (.int y), some (.int (Int32.ofNat q)), some (.int x), some (.int (Int32.ofNat c)), some (.int hh), some (.int (Int32.ofNat i)), a7] [] (hp t (gM g u.2 a k)) cn sn = some (.inl (some (.int (eveA D (eveR K N S D L m u c hh) x))), hp t (gM (hI g 49 49 z) (unpR f 0) a' k'), cn, sn) := by
  have h8 := hK.2.1
  have h5 := hK.2.2.2.2.2.1
  have h4 := hK.2.2.2.1
  intro m
  induction m with
  | zero =>
    intro i hi g u c hh a k T a7 hM hs hf hri hT hc
    refine ⟨u.1, a, k, ?_⟩
    have hu := m_unpack_74 (d := d + 3) (t := t) (g := g) (w := u.2) (a := a) (k := k) (cn := 0) (sn := 0) (b := 0) (by omega)
    rw [show Int32.ofNat 0 = (0 : Int32) from rfl, hf] at hu
    rw [show hI g 49 49 u.1 = g by rw [← hs]; exact hI_self', st_X10_evening_64]
    unfold eveR eveA
    rcases hx with hx | hx | hx <;> subst hx
    · simp (disch := omega) only [st_X10_evening_66, st_X10_evening_67, st_X10_evening_135, st_X10_evening_136, st_X10_evening_139, st_X10_evening_146, st_X10_evening_161, st_X10_evening_163, st_X10_evening_164, st_X10_evening_165, st_X10_evening_168, st_X10_evening_172, st_X10_evening_174, st_X10_evening_140 (p := 49) hq_49 ps_, st_X10_evening_143 ps_, st_X10_evening_169 (p := 49) hq_49 ps_, bM_some, hg_49_38, nn_lt, show ¬ i < q by omega, if_true, if_false, m_readySet hM hK, m_bitsOf (bR u.2) (show D ≤ 8 by omega), hu, bC_inl, Option.toList, List.cons_append, List.nil_append, Nat.add_zero, lc_i, Nat.reduceAdd]
    · simp (disch := omega) only [st_X10_evening_66, st_X10_evening_67, st_X10_evening_135, st_X10_evening_136, st_X10_evening_149, st_X10_evening_150, st_X10_evening_151, st_X10_evening_154, st_X10_evening_156, st_X10_evening_161, st_X10_evening_163, st_X10_evening_164, st_X10_evening_165, st_X10_evening_168, st_X10_evening_172, st_X10_evening_174, st_X10_evening_169 (p := 49) hq_49 ps_, bM_some, hg_49_38, nn_lt, show ¬ i < q by omega, if_true, if_false, nn_one0, hu, bC_inl, Option.toList, List.cons_append, List.nil_append, Nat.add_zero, lc_i, Nat.reduceAdd]
    · simp (disch := omega) only [st_X10_evening_66, st_X10_evening_67, st_X10_evening_135, st_X10_evening_136, st_X10_evening_149, st_X10_evening_150, st_X10_evening_151, st_X10_evening_159, st_X10_evening_161, st_X10_evening_163, st_X10_evening_164, st_X10_evening_165, st_X10_evening_168, st_X10_evening_172, st_X10_evening_174, st_X10_evening_169 (p := 49) hq_49 ps_, bM_some, hg_49_38, nn_lt, show ¬ i < q by omega, if_true, if_false, show ((2 : Int32) = 0) = False by decide, show ((2 : Int32) = 1) = False by decide, hu, bC_inl, Option.toList, List.cons_append, List.nil_append, Nat.add_zero, lc_i, Nat.reduceAdd]
  | succ m ih =>
    intro i hi g u c hh a k T a7 hM hs hf hri hT hc
    rw [show eveR K N S D L (m + 1) u c hh = eveR K N S D L m (eveS K N S D L u) (c + (bif sang N (eveS K N S D L u).2 then 1 else 0)) (hiF (eveS K N S D L u).2 N 0 hh) from rfl]
    have core : ∀ (z : Int32) (w1 w2 : Rw), z = (eveS K N S D L u).1 → w2 = (eveS K N S D L u).2 → w2 = minR K N D L w1 → RI K N S T w1 → bc (d + 3) M_X10_something none 0 [some (.ref 49), none, none, none] [] (hp t (gM g u.2 a k)) 0 0 = some (.inl none, hp t (gM (hI g 49 49 z) w1 a k), 0, 0) → ∃ (z : Int32) (a' k' : Rw),
        bc (d + 4) M_X10_evening none 64 [some (.ref 49), some (.int y), some (.int (Int32.ofNat q)), some (.int x), some (.int (Int32.ofNat c)), some (.int hh), some (.int (Int32.ofNat i)), a7] [] (hp t (gM g u.2 a k)) cn sn = some (.inl (some (.int (eveA D (eveR K N S D L m (eveS K N S D L u) (c + (bif sang N (eveS K N S D L u).2 then 1 else 0)) (hiF (eveS K N S D L u).2 N 0 hh)) x))), hp t (gM (hI g 49 49 z) (unpR f 0) a' k'), cn, sn) := by
      intro z w1 w2 hz hw2 hw1 hri1 es
      have hM2 : MK K N S D L (hI g 49 49 z) := MK_49 hM
      obtain ⟨a1, k1, e⟩ := m_min (d := d) (t := t) (cn := 0) (sn := 0) (a := a) (k := k) hM2 hK hO hri1
      rw [← hw1] at e
      have hri2 : RI K N S (T + 1) w2 := by rw [hw1]; exact RI_min hK hO hri1 (by omega)
      have heu : eveS K N S D L u = (z, w2) := by rw [hz, hw2]
      rw [heu]
      dsimp only
      obtain ⟨b7, eh⟩ := m_eve_h (d := d + 3) (t := t) (g := hI g 49 49 z) (w := w2) (a := a1) (k := k1) (cn := cn) (sn := sn) (x := x) (y := y) (s := Int32.ofNat q) hM2 hK (Int32.ofNat (c + (bif sang N w2 then 1 else 0))) (Int32.ofNat i) N 0 (by omega) hh
      rw [show Int32.ofNat 0 = (0 : Int32) from rfl] at eh
      obtain ⟨z', a', k', e'⟩ := ih (i + 1) (by omega) (hI g 49 49 z) (z, w2) (c + (bif sang N w2 then 1 else 0)) (hiF w2 N 0 hh) a1 k1 (T + 1) b7 hM2 hI_sm hf hri2 (by omega) (by cases sang N w2 <;> simp only [cond_true, cond_false] <;> omega)
      refine ⟨z', a', k', ?_⟩
      rw [hI_hI] at e'
      rw [← e', st_X10_evening_64]
      have s1 := setN_le (bS w2) (n := 8) h8
      have cs := cnt_set (bS w2) N
      by_cases h0 : setN (bS w2) N = 0
      · rw [show sang N w2 = false by unfold sang; rw [decide_eq_true (cs.mpr h0)]; rfl, cond_false] at eh ⊢
        simp only [Nat.add_zero] at eh ⊢
        simp (disch := omega) only [st_X10_evening_66, st_X10_evening_67, st_X10_evening_70, st_X10_evening_74, st_X10_evening_78, st_X10_evening_80, st_X10_evening_84, st_X10_evening_91, st_X10_evening_92, st_X10_evening_93, st_X10_evening_95, st_X10_evening_96, st_X10_evening_71 (p := 49) hq_49 ps_, st_X10_evening_75 (p := 49) hq_49 ps_, st_X10_evening_81 (p := 49) hq_49 ps_i, nn_lt, show i < q by omega, if_true, es, e, m_singers hM2 hK, nn_e0, h0, Int32.add_zero, bC_inl, Option.toList, List.cons_append, List.nil_append, Nat.add_zero, lc_i, Nat.reduceAdd]
        rw [eh]
        simp (disch := omega) only [st_X10_evening_129, st_X10_evening_132, nn_r1, lc_i, Nat.reduceAdd]
      · rw [show sang N w2 = true by unfold sang; rw [decide_eq_false (fun z => h0 (cs.mp z))]; rfl, cond_true] at eh ⊢
        simp (disch := omega) only [st_X10_evening_66, st_X10_evening_67, st_X10_evening_70, st_X10_evening_74, st_X10_evening_78, st_X10_evening_80, st_X10_evening_84, st_X10_evening_87, st_X10_evening_88, st_X10_evening_92, st_X10_evening_93, st_X10_evening_95, st_X10_evening_96, st_X10_evening_71 (p := 49) hq_49 ps_, st_X10_evening_75 (p := 49) hq_49 ps_, st_X10_evening_81 (p := 49) hq_49 ps_i, nn_lt, show i < q by omega, if_true, if_false, es, e, m_singers hM2 hK, nn_e0, h0, nn_r1, bC_inl, Option.toList, List.cons_append, List.nil_append, Nat.add_zero, lc_i, Nat.reduceAdd]
        rw [eh]
        simp (disch := omega) only [st_X10_evening_129, st_X10_evening_132, nn_r1, lc_i, Nat.reduceAdd]
    by_cases hN : N = 0
    · refine core u.1 u.2 (minR K N D L u.2) (by unfold eveS; rw [if_pos hN]) (by unfold eveS; rw [if_pos hN]) rfl hri ?_
      rw [show hI g 49 49 u.1 = g by rw [← hs]; exact hI_self']
      exact m_something_0 hM hK hN
    · have hdm := Nat.mod_lt (drawV (seedS u.1)) (show 0 < N by omega)
      exact core (seedS (seedS u.1)) (meddR N S u.2 (drawV (seedS u.1) % N) (drawV (seedS (seedS u.1)) % 4)) _ (by unfold eveS; rw [if_neg hN]) (by unfold eveS; rw [if_neg hN]) rfl (RI_med h4 (by omega) hri) (m_something hM hK hN hs)
set_option maxHeartbeats 2000000 in
theorem m_evening (hM : MK K N S D L g) (hK : KN K N S D L) (hO : KO K N S D L) (hri : RI K N S 9999 w) (hq : q ≤ 90) (hx : x = 0 ∨ x = 1 ∨ x = 2) : ∃ (z : Int32) (a' k' : Rw),
    bc (d + 4) M_X10_evening none 0 [some (.ref 49), some (.int y), some (.int (Int32.ofNat q)), some (.int x), none, none, none, none] [] (hp t (gM g w a k)) cn sn = some (.inl (some (.int (eveA D (eveR K N S D L q (y, w) 0 0) x))), hp t (gM (hI (gB g w) 49 49 z) w a' k'), cn, sn) := by
  obtain ⟨z, a', k', e⟩ := m_eve_l (d := d) (t := t) (cn := cn) (sn := sn) (x := x) (y := y) hK hO hq hx (packR (g.1 74) 0 w) q 0 (by omega) (hI (gB g w) 49 49 y) (y, w) 0 0 a k 9999 none (MK_49 (MK_gB hM)) hI_sm rfl hri (by omega) (by omega)
  refine ⟨z, a', k', ?_⟩
  rw [hI_hI] at e
  have hx' : gM (hI (gB g w) 49 49 z) (unpR (packR (g.1 74) 0 w) 0) a' k' = gM (hI (gB g w) 49 49 z) w a' k' := gM_ext (fun i hi => unp_pack hi)
  rw [hx'] at e
  rw [← e]
  have i1 := m_isIn_y (d := d + 3) (h := hp t (gM (hI g 49 2 0) w a k)) (cn := 0) (sn := 0) (u := x.toInt64) (u1 := 0) (u2 := 2) (by rw [jj_i, tj_0, tj_2]; rcases hx with hx | hx | hx <;> subst hx <;> decide)
  have i2 := m_isIn_y (d := d + 3) (h := hp t (gM (hI g 49 2 0) w a k)) (cn := 0) (sn := 0) (u := (Int32.ofNat q).toInt64) (u1 := 0) (u2 := 90) (by rw [jj_i, tj_0, tj_90, ii_ofNat (by omega)]; omega)
  simp (disch := omega) only [st_X10_evening_0, st_X10_evening_1, st_X10_evening_2, st_X10_evening_5, st_X10_evening_6, st_X10_evening_7, st_X10_evening_8, st_X10_evening_14, st_X10_evening_23, st_X10_evening_24, st_X10_evening_25, st_X10_evening_26, st_X10_evening_32, st_X10_evening_41, st_X10_evening_42, st_X10_evening_43, st_X10_evening_46, st_X10_evening_50, st_X10_evening_51, st_X10_evening_52, st_X10_evening_55, st_X10_evening_56, st_X10_evening_58, st_X10_evening_59, st_X10_evening_61, st_X10_evening_62, st_X10_evening_11 ps_, st_X10_evening_29 ps_, st_X10_evening_47 (p := 49) hq_49 ps_, bM_some, hs_49_2, hs_49_49, hg_49_38, gM_hI49, i1, i2, nn_one0, if_false, m_pk0, bC_inl, Option.toList, List.cons_append, List.nil_append, Nat.add_zero, lc_i, Nat.reduceAdd]
  rfl
theorem m_evening_n1 (hx : ¬ (0 ≤ x.toInt ∧ x.toInt ≤ 2)) {z u : Int32} : bc (d + 4) M_X10_evening none 0 [some (.ref 49), some (.int z), some (.int u), some (.int x), none, none, none, none] [] (hp t (gM g w a k)) cn sn = some (.inl (some (.int 0)), hp t (gM (hI g 49 2 1) w a k), cn, sn) := by
  have i1 := m_isIn_n (d := d + 3) (h := hp t (gM (hI g 49 2 0) w a k)) (cn := 0) (sn := 0) (u := x.toInt64) (u1 := 0) (u2 := 2) (by rw [jj_i, tj_0, tj_2]; omega)
  simp (disch := omega) only [st_X10_evening_0, st_X10_evening_1, st_X10_evening_2, st_X10_evening_5, st_X10_evening_6, st_X10_evening_7, st_X10_evening_8, st_X10_evening_14, st_X10_evening_17, st_X10_evening_18, st_X10_evening_22, st_X10_evening_11 ps_, st_X10_evening_19 (p := 49) hq_49 ps_, bM_some, hs_49_2, gM_hI49, i1, if_true, m_fail, hI_hI, bC_inl, Option.toList, List.cons_append, List.nil_append, Nat.add_zero, Nat.reduceAdd]
theorem m_evening_n2 (hx : 0 ≤ x.toInt ∧ x.toInt ≤ 2) {z u : Int32} (hu : ¬ (0 ≤ u.toInt ∧ u.toInt ≤ 90)) : bc (d + 4) M_X10_evening none 0 [some (.ref 49), some (.int z), some (.int u), some (.int x), none, none, none, none] [] (hp t (gM g w a k)) cn sn = some (.inl (some (.int 0)), hp t (gM (hI g 49 2 2) w a k), cn, sn) := by
  have i1 := m_isIn_y (d := d + 3) (h := hp t (gM (hI g 49 2 0) w a k)) (cn := 0) (sn := 0) (u := x.toInt64) (u1 := 0) (u2 := 2) (by rw [jj_i, tj_0, tj_2]; omega)
  have i2 := m_isIn_n (d := d + 3) (h := hp t (gM (hI g 49 2 0) w a k)) (cn := 0) (sn := 0) (u := u.toInt64) (u1 := 0) (u2 := 90) (by rw [jj_i, tj_0, tj_90]; omega)
  simp (disch := omega) only [st_X10_evening_0, st_X10_evening_1, st_X10_evening_2, st_X10_evening_5, st_X10_evening_6, st_X10_evening_7, st_X10_evening_8, st_X10_evening_14, st_X10_evening_23, st_X10_evening_24, st_X10_evening_25, st_X10_evening_26, st_X10_evening_32, st_X10_evening_35, st_X10_evening_36, st_X10_evening_40, st_X10_evening_11 ps_, st_X10_evening_29 ps_, st_X10_evening_37 (p := 49) hq_49 ps_, bM_some, hs_49_2, gM_hI49, i1, i2, nn_one0, if_true, if_false, m_fail, hI_hI, bC_inl, Option.toList, List.cons_append, List.nil_append, Nat.add_zero, Nat.reduceAdd]
end MEVE
