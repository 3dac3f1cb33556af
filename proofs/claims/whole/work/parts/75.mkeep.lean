/-! ===== the reference: acts are kept ===== -/
def shf (f : Rw) (i : Nat) : Rw := fun x => if x + 54 < i then f (x + 54) else f x
theorem shf_0 {f : Rw} : shf f 54 = f := by
  funext x; unfold shf; rw [if_neg (by omega)]
theorem shf_s {f : Rw} {i : Nat} (h : 54 ≤ i) : upd (shf f i) (i - 54) (shf f i i) = shf f (i + 1) := by
  funext x
  rw [upd_at]
  unfold shf
  (repeat' split) <;> first | rfl | (exfalso; omega) | (exact congrArg f (by omega))
theorem unp_other {f w : Rw} {m i j : Nat} (h : ¬ i = m) (hj : j < 54) : unpR (packR f (54 * m) w) (54 * i) j = unpR f (54 * i) j := by
  unfold unpR packR
  by_cases h53 : j = 53
  · rw [if_pos h53, if_pos h53, if_neg (by omega)]
  · rw [if_neg h53, if_neg h53, if_neg (by omega)]
section MKEEP
variable {d : Nat} {t : List px_E} {g : hG} {n cn sn N S D L : Nat} {ac : Nat → Rw} {w a k f : Rw} {K : Kt}
theorem nn_54s {i : Nat} (h : 54 ≤ i) : Int32.ofNat i - 54 = Int32.ofNat (i - 54) := nn_sub (b := 54) h
theorem nn_l2160 {i : Nat} (h : i < 2147483648) : (Int32.ofNat i < 2160) = (i < 2160) := nn_lt (b := 2160) h (by decide)
set_option maxHeartbeats 2000000 in
theorem m_keep_l : ∀ m i : Nat, i + m = 2160 → 54 ≤ i → ∃ b1 : Option Value,
    bc d M_X10_keep none 12 [some (.ref 49), some (.int (Int32.ofNat i))] [] (hp t (gM (hR g 71 (shf f i)) w a k)) cn sn =
    bc d M_X10_keep none 42 [some (.ref 49), b1] [] (hp t (gM (hR g 71 (shf f 2160)) w a k)) cn sn := by
  intro m
  induction m with
  | zero =>
    intro i hi h54
    obtain rfl : i = 2160 := by omega
    refine ⟨some (.int (Int32.ofNat 2160)), ?_⟩
    rw [st_X10_keep_12]
    simp (disch := omega) only [st_X10_keep_13, st_X10_keep_14, st_X10_keep_17, st_X10_keep_18, bM_some, hg_49_32, hn_71, Nat.reduceAdd, nn_l2160, Nat.lt_irrefl, if_false]
  | succ m ih =>
    intro i hi h54
    obtain ⟨b1, e⟩ := ih (i + 1) (by omega) (by omega)
    refine ⟨b1, ?_⟩
    rw [← e, ← shf_s h54, st_X10_keep_12]
    simp (disch := omega) only [st_X10_keep_13, st_X10_keep_14, st_X10_keep_17, st_X10_keep_18, st_X10_keep_21, st_X10_keep_22, st_X10_keep_25, st_X10_keep_26, st_X10_keep_28, st_X10_keep_29, st_X10_keep_30, st_X10_keep_33, st_X10_keep_34, st_X10_keep_35, st_X10_keep_36, st_X10_keep_39, bM_some, hg_49_32, hn_71, ha_71, hw_71, cond_false, Nat.reduceAdd, nn_1, nn_8, nn_16, nn_24, nn_32, nn_40, nn_48, nn_suc, nn_out, nn_clamp, Int32.zero_add, gM_o, hR_same, nn_54s, nn_l2160, show i < 2160 by omega, if_true, gMx_71, nn_r1, lc_r]
set_option maxHeartbeats 2000000 in
theorem m_keep (h : mAc n ac g) (hn : n ≤ 40) : ∃ R : Rw, bc (d + 1) M_X10_keep none 0 [some (.ref 49), none] [] (hp t (gM g w a k)) cn sn = some (.inl none, hp t (gM (hI (hR g 71 R) 49 34 (Int32.ofNat (pushA n ac w).1)) w a k), cn, sn) ∧ mAc (pushA n ac w).1 (pushA n ac w).2 (hI (hR g 71 R) 49 34 (Int32.ofNat (pushA n ac w).1)) := by
  obtain ⟨e1, e2⟩ := h
  unfold pushA
  by_cases h : n = 40
  · subst h
    rw [if_pos rfl]
    refine ⟨packR (shf (g.1 71) 2160) (54 * 39) w, ?_, ?_⟩
    · obtain ⟨b1, e⟩ := m_keep_l (d := d + 1) (t := t) (g := g) (f := g.1 71) (w := w) (a := a) (k := k) (cn := cn) (sn := sn) 2106 54 (by omega) (by omega)
      rw [shf_0, hR_self, show Int32.ofNat 54 = (54 : Int32) from rfl] at e
      have hp' := m_pack_71 (d := d) (t := t) (g := hI (hR g 71 (shf (g.1 71) 2160)) 49 34 (Int32.ofNat 39)) (w := w) (a := a) (k := k) (cn := 0) (sn := 0) (b := 54 * 39) (by omega)
      simp (disch := omega) only [st_X10_keep_0, st_X10_keep_1, st_X10_keep_4, st_X10_keep_6, st_X10_keep_9, st_X10_keep_11, bM_some, hg_49_34, gM_49, e1, nn_e40, if_true, Nat.reduceAdd, lc_r, e]
      simp (disch := omega) only [st_X10_keep_42, st_X10_keep_44, st_X10_keep_47, st_X10_keep_48, st_X10_keep_49, st_X10_keep_52, st_X10_keep_53, st_X10_keep_54, st_X10_keep_57, st_X10_keep_59, st_X10_keep_60, st_X10_keep_63, st_X10_keep_67, st_X10_keep_69, st_X10_keep_72, st_X10_keep_73, st_X10_keep_74, st_X10_keep_77, st_X10_keep_43r, st_X10_keep_68r, st_X10_keep_64 (p := 49) hq_49 ps_, bM_some, hg_49_34, hg_49_32, hs_49_34, gM_49, gM_hI49, hR_at, hI_at, show ¬ (49 : Nat) = 71 by decide, if_false, e1, nn_p1, show 40 - 1 = 39 by decide, Nat.reduceAdd, and_self, if_true, show (54 : Int32) * Int32.ofNat 39 = Int32.ofNat (54 * 39) by decide, hp', bC_inl, Option.toList, List.nil_append, Nat.add_zero, nn_r1]
      rw [hR_hI (by decide), hI_hI, hR_hR]
      rfl
    · refine ⟨rfl, ?_⟩
      intro i hi j hj
      have hi : i < 40 := hi
      show unpR (packR (shf (g.1 71) 2160) (54 * 39) w) (54 * i) j = (if i = 39 then w else ac (i + 1)) j
      by_cases h9 : i = 39
      · subst h9; rw [if_pos rfl, unp_pack hj]
      · rw [if_neg h9, unp_other h9 hj, ← e2 (i + 1) (by omega) j hj]
        unfold unpR shf
        by_cases h53 : j = 53
        · rw [if_pos h53, if_pos h53, if_pos (by omega)]; rfl
        · rw [if_neg h53, if_neg h53, if_pos (by omega)]; exact congrArg (g.1 71) (by omega)
  · rw [if_neg h]
    refine ⟨packR (g.1 71) (54 * n) w, ?_, ?_⟩
    · have hp' := m_pack_71 (d := d) (t := t) (g := g) (w := w) (a := a) (k := k) (cn := 0) (sn := 0) (b := 54 * n) (by omega)
      simp (disch := omega) only [st_X10_keep_0, st_X10_keep_1, st_X10_keep_4, st_X10_keep_6, st_X10_keep_52, st_X10_keep_53, st_X10_keep_54, st_X10_keep_57, st_X10_keep_59, st_X10_keep_60, st_X10_keep_63, st_X10_keep_67, st_X10_keep_69, st_X10_keep_72, st_X10_keep_73, st_X10_keep_74, st_X10_keep_77, st_X10_keep_68r, st_X10_keep_64 (p := 49) hq_49 ps_, bM_some, hg_49_34, hg_49_32, hs_49_34, gM_49, gM_hI49, e1, nn_e40, h, if_false, Nat.reduceAdd, nn_m54, hp', hR_at, show ¬ (49 : Nat) = 71 by decide, bC_inl, Option.toList, List.nil_append, Nat.add_zero, nn_r1]
    · refine ⟨rfl, ?_⟩
      intro i hi j hj
      have hi : i < n + 1 := hi
      show unpR (packR (g.1 71) (54 * n) w) (54 * i) j = (if i = n then w else ac i) j
      by_cases h9 : i = n
      · subst h9; rw [if_pos rfl, unp_pack hj]
      · rw [if_neg h9, unp_other h9 hj]; exact e2 i (by omega) j hj
theorem MK_49 (hM : MK K N S D L g) {i : Nat} {x : Int32} : MK K N S D L (hI g 49 i x) := MK_hI (by omega) hM
end MKEEP
