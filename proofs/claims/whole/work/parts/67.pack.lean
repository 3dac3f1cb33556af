/-! ===== the reference: rows packed and unpacked ===== -/
def pk1 (w : Rw) (b j : Nat) (f : Rw) : Rw := upd (upd (upd (upd (upd (upd f (b + 1 + j) (w j)) (b + 1 + 8 + j) (w (8 + j))) (b + 1 + 16 + j) (w (16 + j))) (b + 1 + 24 + j) (w (24 + j))) (b + 1 + 32 + j) (w (32 + j))) (b + 1 + 40 + j) (w (40 + j))
def pk2 (w : Rw) (b j : Nat) (f : Rw) : Rw := upd f (b + 1 + 48 + j) (w (48 + j))
def up1 (f : Rw) (b j : Nat) (w : Rw) : Rw := upd (upd (upd (upd (upd (upd w j (f (b + 1 + j))) (8 + j) (f (b + 1 + 8 + j))) (16 + j) (f (b + 1 + 16 + j))) (24 + j) (f (b + 1 + 24 + j))) (32 + j) (f (b + 1 + 32 + j))) (40 + j) (f (b + 1 + 40 + j))
def up2 (f : Rw) (b j : Nat) (w : Rw) : Rw := upd w (48 + j) (f (b + 1 + 48 + j))
theorem pk1_at {w f : Rw} {b j i : Nat} (hj : j < 8) : pk1 w b j f i = if b + 1 ≤ i ∧ i < b + 49 ∧ (i - b - 1) % 8 = j then w (i - b - 1) else f i := by
  unfold pk1
  simp only [upd_at]
  (repeat' split) <;> first | rfl | (exfalso; omega) | (congr 1; omega)
theorem pk1_loop {w : Rw} {b : Nat} : ∀ (m j : Nat) (f : Rw) (i : Nat), j + m ≤ 8 → loopR (pk1 w b) m j f i = if b + 1 ≤ i ∧ i < b + 49 ∧ j ≤ (i - b - 1) % 8 ∧ (i - b - 1) % 8 < j + m then w (i - b - 1) else f i := by
  intro m
  induction m with
  | zero => intro j f i _; unfold loopR; rw [if_neg (by omega)]
  | succ m ih =>
    intro j f i h
    unfold loopR
    rw [ih (j + 1) _ i (by omega), pk1_at (by omega)]
    (repeat' split) <;> first | rfl | (exfalso; omega)
theorem pk2_loop {w : Rw} {b : Nat} : ∀ (m j : Nat) (f : Rw) (i : Nat), loopR (pk2 w b) m j f i = if b + 49 + j ≤ i ∧ i < b + 49 + j + m then w (i - b - 1) else f i := by
  intro m
  induction m with
  | zero => intro j f i; unfold loopR; rw [if_neg (by omega)]
  | succ m ih =>
    intro j f i
    unfold loopR
    rw [ih (j + 1) _ i]
    unfold pk2
    rw [upd_at]
    (repeat' split) <;> first | rfl | (exfalso; omega) | (congr 1; omega)
theorem pk_all {w f : Rw} {b : Nat} : loopR (pk2 w b) 5 0 (loopR (pk1 w b) 8 0 (upd f b (w 53))) = packR f b w := by
  funext i
  rw [pk2_loop, pk1_loop _ _ _ _ (by omega)]
  unfold packR
  rw [upd_at]
  (repeat' split) <;> first | rfl | (exfalso; omega)
theorem up1_at {w f : Rw} {b j i : Nat} (hj : j < 8) : up1 f b j w i = if i < 48 ∧ i % 8 = j then f (b + 1 + i) else w i := by
  unfold up1
  simp only [upd_at]
  (repeat' split) <;> first | rfl | (exfalso; omega) | (congr 1; omega)
theorem up1_loop {f : Rw} {b : Nat} : ∀ (m j : Nat) (w : Rw) (i : Nat), j + m ≤ 8 → loopR (up1 f b) m j w i = if i < 48 ∧ j ≤ i % 8 ∧ i % 8 < j + m then f (b + 1 + i) else w i := by
  intro m
  induction m with
  | zero => intro j w i _; unfold loopR; rw [if_neg (by omega)]
  | succ m ih =>
    intro j w i h
    unfold loopR
    rw [ih (j + 1) _ i (by omega), up1_at (by omega)]
    (repeat' split) <;> first | rfl | (exfalso; omega)
theorem up2_loop {f : Rw} {b : Nat} : ∀ (m j : Nat) (w : Rw) (i : Nat), loopR (up2 f b) m j w i = if 48 + j ≤ i ∧ i < 48 + j + m then f (b + 1 + i) else w i := by
  intro m
  induction m with
  | zero => intro j w i; unfold loopR; rw [if_neg (by omega)]
  | succ m ih =>
    intro j w i
    unfold loopR
    rw [ih (j + 1) _ i]
    unfold up2
    rw [upd_at]
    (repeat' split) <;> first | rfl | (exfalso; omega) | (congr 1; omega)
theorem up_all {w f : Rw} {b i : Nat} (hi : i < 54) : loopR (up2 f b) 5 0 (loopR (up1 f b) 8 0 (upd w 53 (f b))) i = unpR f b i := by
  rw [up2_loop, up1_loop _ _ _ _ (by omega)]
  unfold unpR
  rw [upd_at]
  (repeat' split) <;> first | rfl | (exfalso; omega)
section PACK
variable {d : Nat} {t : List px_E} {g : hG} {b cn sn : Nat} {w a k f : Rw}

theorem gMx_74 {i : Nat} {x : Int32} : hI (gM (hR g 74 f) w a k) 74 i x = gM (hR g 74 (upd f i x)) w a k := by
  rw [gM_hI (by omega), hI_R, hR_same, hR_hR]
set_option maxHeartbeats 4000000 in
theorem m_pack_1_74 (hb : b + 54 ≤ 54) : ∀ m j : Nat, j + m = 8 → ∀ f : Rw, ∃ b3 : Option Value,
    bc d M_X10_pack none 9 [some (.ref 49), some (.ref 74), some (.int (Int32.ofNat b)), some (.int (Int32.ofNat j))] [] (hp t (gM (hR g 74 f) w a k)) cn sn =
    bc d M_X10_pack none 114 [some (.ref 49), some (.ref 74), some (.int (Int32.ofNat b)), b3] [] (hp t (gM (hR g 74 (loopR (pk1 w b) m j f)) w a k)) cn sn := by
  intro m
  induction m with
  | zero =>
    intro j hj f
    refine ⟨some (.int (Int32.ofNat j)), ?_⟩
    rw [st_X10_pack_9]
    simp (disch := omega) only [st_X10_pack_10, st_X10_pack_12, nn_l8, show ¬ j < 8 by omega, if_false, loopR, Nat.reduceAdd]
  | succ m ih =>
    intro j hj f
    obtain ⟨b3, e⟩ := ih (j + 1) (by omega) (pk1 w b j f)
    refine ⟨b3, ?_⟩
    unfold loopR
    rw [← e, st_X10_pack_9]
    unfold pk1
    simp (disch := omega) only [st_X10_pack_0, st_X10_pack_1, st_X10_pack_2, bM_some, hg_49_33, st_X10_pack_3, cond_false, hw_74, st_X10_pack_6, st_X10_pack_7, lc_i, lc_r, lc_n, lc_j, lc_f, st_X10_pack_8, st_X10_pack_10, st_X10_pack_12, st_X10_pack_15, st_X10_pack_16, st_X10_pack_17, st_X10_pack_18, st_X10_pack_19, st_X10_pack_20, st_X10_pack_21, hg_49_25, st_X10_pack_22, st_X10_pack_25, ha_64, st_X10_pack_26, st_X10_pack_27, st_X10_pack_28, st_X10_pack_29, st_X10_pack_30, st_X10_pack_31, st_X10_pack_32, st_X10_pack_34, st_X10_pack_35, st_X10_pack_36, st_X10_pack_37, hg_49_26, st_X10_pack_38, st_X10_pack_41, ha_65, st_X10_pack_42, st_X10_pack_43, st_X10_pack_44, st_X10_pack_45, st_X10_pack_46, st_X10_pack_47, st_X10_pack_48, st_X10_pack_50, st_X10_pack_51, st_X10_pack_52, st_X10_pack_53, hg_49_27, st_X10_pack_54, st_X10_pack_57, ha_66, st_X10_pack_58, st_X10_pack_59, st_X10_pack_60, st_X10_pack_61, st_X10_pack_62, st_X10_pack_63, st_X10_pack_64, st_X10_pack_66, st_X10_pack_67, st_X10_pack_68, st_X10_pack_69, hg_49_28, st_X10_pack_70, st_X10_pack_73, ha_67, st_X10_pack_74, st_X10_pack_75, st_X10_pack_76, st_X10_pack_77, st_X10_pack_78, st_X10_pack_79, st_X10_pack_80, st_X10_pack_82, st_X10_pack_83, st_X10_pack_84, st_X10_pack_85, hg_49_29, st_X10_pack_86, st_X10_pack_89, ha_68, st_X10_pack_90, st_X10_pack_91, st_X10_pack_92, st_X10_pack_93, st_X10_pack_94, st_X10_pack_95, st_X10_pack_96, st_X10_pack_98, st_X10_pack_99, st_X10_pack_100, st_X10_pack_101, hg_49_30, st_X10_pack_102, st_X10_pack_105, ha_69, st_X10_pack_106, st_X10_pack_107, st_X10_pack_108, st_X10_pack_111, st_X10_pack_114, st_X10_pack_115, st_X10_pack_117, st_X10_pack_118, st_X10_pack_121, st_X10_pack_122, st_X10_pack_123, st_X10_pack_124, st_X10_pack_125, st_X10_pack_127, st_X10_pack_128, st_X10_pack_129, st_X10_pack_130, hg_49_31, st_X10_pack_131, st_X10_pack_134, ha_70, st_X10_pack_135, st_X10_pack_136, st_X10_pack_137, st_X10_pack_140, st_X10_pack_143, Nat.reduceAdd, nn_1, nn_8, nn_16, nn_24, nn_32, nn_40, nn_48, nn_suc, nn_out, nn_clamp, Int32.zero_add, gM_64, gM_65, gM_66, gM_67, gM_68, gM_69, gM_70, gM_33, gM_72, gM_73, gM_o, gM_49, gMw_64, gMw_65, gMw_66, gMw_67, gMw_68, gMw_69, gMw_70, gMw_33, gMw_72, gMw_73, Nat.zero_add, nn_r1, nn_r8, nn_r16, nn_r24, nn_r32, nn_r40, nn_add, nn_l8, show j < 8 by omega, if_true, gMx_74]
set_option maxHeartbeats 4000000 in
theorem m_pack_2_74 (hb : b + 54 ≤ 54) : ∀ m j : Nat, j + m = 5 → ∀ f : Rw,
    bc d M_X10_pack none 116 [some (.ref 49), some (.ref 74), some (.int (Int32.ofNat b)), some (.int (Int32.ofNat j))] [] (hp t (gM (hR g 74 f) w a k)) cn sn = some (.inl none, hp t (gM (hR g 74 (loopR (pk2 w b) m j f)) w a k), cn, sn) := by
  intro m
  induction m with
  | zero =>
    intro j hj f
    rw [st_X10_pack_116]
    simp (disch := omega) only [st_X10_pack_117, st_X10_pack_118, st_X10_pack_143, nn_l5, show ¬ j < 5 by omega, if_false, loopR, Nat.reduceAdd]
  | succ m ih =>
    intro j hj f
    unfold loopR
    rw [← ih (j + 1) (by omega) (pk2 w b j f), st_X10_pack_116]
    unfold pk2
    simp (disch := omega) only [st_X10_pack_0, st_X10_pack_1, st_X10_pack_2, bM_some, hg_49_33, st_X10_pack_3, cond_false, hw_74, st_X10_pack_6, st_X10_pack_7, lc_i, lc_r, lc_n, lc_j, lc_f, st_X10_pack_8, st_X10_pack_10, st_X10_pack_12, st_X10_pack_15, st_X10_pack_16, st_X10_pack_17, st_X10_pack_18, st_X10_pack_19, st_X10_pack_20, st_X10_pack_21, hg_49_25, st_X10_pack_22, st_X10_pack_25, ha_64, st_X10_pack_26, st_X10_pack_27, st_X10_pack_28, st_X10_pack_29, st_X10_pack_30, st_X10_pack_31, st_X10_pack_32, st_X10_pack_34, st_X10_pack_35, st_X10_pack_36, st_X10_pack_37, hg_49_26, st_X10_pack_38, st_X10_pack_41, ha_65, st_X10_pack_42, st_X10_pack_43, st_X10_pack_44, st_X10_pack_45, st_X10_pack_46, st_X10_pack_47, st_X10_pack_48, st_X10_pack_50, st_X10_pack_51, st_X10_pack_52, st_X10_pack_53, hg_49_27, st_X10_pack_54, st_X10_pack_57, ha_66, st_X10_pack_58, st_X10_pack_59, st_X10_pack_60, st_X10_pack_61, st_X10_pack_62, st_X10_pack_63, st_X10_pack_64, st_X10_pack_66, st_X10_pack_67, st_X10_pack_68, st_X10_pack_69, hg_49_28, st_X10_pack_70, st_X10_pack_73, ha_67, st_X10_pack_74, st_X10_pack_75, st_X10_pack_76, st_X10_pack_77, st_X10_pack_78, st_X10_pack_79, st_X10_pack_80, st_X10_pack_82, st_X10_pack_83, st_X10_pack_84, st_X10_pack_85, hg_49_29, st_X10_pack_86, st_X10_pack_89, ha_68, st_X10_pack_90, st_X10_pack_91, st_X10_pack_92, st_X10_pack_93, st_X10_pack_94, st_X10_pack_95, st_X10_pack_96, st_X10_pack_98, st_X10_pack_99, st_X10_pack_100, st_X10_pack_101, hg_49_30, st_X10_pack_102, st_X10_pack_105, ha_69, st_X10_pack_106, st_X10_pack_107, st_X10_pack_108, st_X10_pack_111, st_X10_pack_114, st_X10_pack_115, st_X10_pack_117, st_X10_pack_118, st_X10_pack_121, st_X10_pack_122, st_X10_pack_123, st_X10_pack_124, st_X10_pack_125, st_X10_pack_127, st_X10_pack_128, st_X10_pack_129, st_X10_pack_130, hg_49_31, st_X10_pack_131, st_X10_pack_134, ha_70, st_X10_pack_135, st_X10_pack_136, st_X10_pack_137, st_X10_pack_140, st_X10_pack_143, Nat.reduceAdd, nn_1, nn_8, nn_16, nn_24, nn_32, nn_40, nn_48, nn_suc, nn_out, nn_clamp, Int32.zero_add, gM_64, gM_65, gM_66, gM_67, gM_68, gM_69, gM_70, gM_33, gM_72, gM_73, gM_o, gM_49, gMw_64, gMw_65, gMw_66, gMw_67, gMw_68, gMw_69, gMw_70, gMw_33, gMw_72, gMw_73, Nat.zero_add, nn_r1, nn_r48, nn_add, nn_l5, show j < 5 by omega, if_true, gMx_74]
theorem m_pack_74 (hb : b + 54 ≤ 54) : bc d M_X10_pack none 0 [some (.ref 49), some (.ref 74), some (.int (Int32.ofNat b)), none] [] (hp t (gM g w a k)) cn sn = some (.inl none, hp t (gM (hR g 74 (packR (g.1 74) b w)) w a k), cn, sn) := by
  obtain ⟨b3, e⟩ := m_pack_1_74 (d := d) (t := t) (g := g) (w := w) (a := a) (k := k) (cn := cn) (sn := sn) hb 8 0 (by omega) (upd (g.1 74) b (w 53))
  have e2 := m_pack_2_74 (d := d) (t := t) (g := g) (w := w) (a := a) (k := k) (cn := cn) (sn := sn) hb 5 0 (by omega) (loopR (pk1 w b) 8 0 (upd (g.1 74) b (w 53)))
  rw [show Int32.ofNat 0 = (0 : Int32) from rfl] at e e2
  simp (disch := omega) only [st_X10_pack_0, st_X10_pack_1, st_X10_pack_2, st_X10_pack_3, st_X10_pack_6, st_X10_pack_7, st_X10_pack_8, bM_some, hg_49_33, hw_74, cond_false, nn_1, nn_8, nn_16, nn_24, nn_32, nn_40, nn_48, nn_suc, nn_out, nn_clamp, Int32.zero_add, gM_64, gM_65, gM_66, gM_67, gM_68, gM_69, gM_70, gM_33, gM_72, gM_73, gM_o, gM_49, gMw_64, gMw_65, gMw_66, gMw_67, gMw_68, gMw_69, gMw_70, gMw_33, gMw_72, gMw_73, Nat.zero_add, gM_hI, gM_hR, hI_R, lc_i, Nat.reduceAdd]
  rw [e]
  simp only [st_X10_pack_114, st_X10_pack_115, lc_i, Nat.reduceAdd]
  rw [e2, pk_all]
set_option maxHeartbeats 4000000 in
theorem m_unpack_1_74 (hb : b + 54 ≤ 54) : ∀ m j : Nat, j + m = 8 → ∀ w : Rw, ∃ b3 : Option Value,
    bc d M_X10_unpack none 9 [some (.ref 49), some (.ref 74), some (.int (Int32.ofNat b)), some (.int (Int32.ofNat j))] [] (hp t (gM g w a k)) cn sn =
    bc d M_X10_unpack none 114 [some (.ref 49), some (.ref 74), some (.int (Int32.ofNat b)), b3] [] (hp t (gM g (loopR (up1 (g.1 74) b) m j w) a k)) cn sn := by
  intro m
  induction m with
  | zero =>
    intro j hj f
    refine ⟨some (.int (Int32.ofNat j)), ?_⟩
    rw [st_X10_unpack_9]
    simp (disch := omega) only [st_X10_unpack_10, st_X10_unpack_12, nn_l8, show ¬ j < 8 by omega, if_false, loopR, Nat.reduceAdd]
  | succ m ih =>
    intro j hj w
    obtain ⟨b3, e⟩ := ih (j + 1) (by omega) (up1 (g.1 74) b j w)
    refine ⟨b3, ?_⟩
    unfold loopR
    rw [← e, st_X10_unpack_9]
    unfold up1
    simp (disch := omega) only [st_X10_unpack_0, st_X10_unpack_1, st_X10_unpack_2, bM_some, cond_false, ha_74, st_X10_unpack_3, hs_49_33, st_X10_unpack_4, st_X10_unpack_7, lc_i, lc_r, lc_n, lc_j, lc_f, st_X10_unpack_8, st_X10_unpack_10, st_X10_unpack_12, st_X10_unpack_15, hg_49_25, st_X10_unpack_16, st_X10_unpack_19, st_X10_unpack_20, st_X10_unpack_21, st_X10_unpack_22, st_X10_unpack_23, st_X10_unpack_24, st_X10_unpack_25, st_X10_unpack_26, hw_64, st_X10_unpack_27, st_X10_unpack_28, hg_49_26, st_X10_unpack_29, st_X10_unpack_32, st_X10_unpack_33, st_X10_unpack_34, st_X10_unpack_35, st_X10_unpack_36, st_X10_unpack_37, st_X10_unpack_39, st_X10_unpack_40, st_X10_unpack_41, st_X10_unpack_42, hw_65, st_X10_unpack_43, st_X10_unpack_44, hg_49_27, st_X10_unpack_45, st_X10_unpack_48, st_X10_unpack_49, st_X10_unpack_50, st_X10_unpack_51, st_X10_unpack_52, st_X10_unpack_53, st_X10_unpack_55, st_X10_unpack_56, st_X10_unpack_57, st_X10_unpack_58, hw_66, st_X10_unpack_59, st_X10_unpack_60, hg_49_28, st_X10_unpack_61, st_X10_unpack_64, st_X10_unpack_65, st_X10_unpack_66, st_X10_unpack_67, st_X10_unpack_68, st_X10_unpack_69, st_X10_unpack_71, st_X10_unpack_72, st_X10_unpack_73, st_X10_unpack_74, hw_67, st_X10_unpack_75, st_X10_unpack_76, hg_49_29, st_X10_unpack_77, st_X10_unpack_80, st_X10_unpack_81, st_X10_unpack_82, st_X10_unpack_83, st_X10_unpack_84, st_X10_unpack_85, st_X10_unpack_87, st_X10_unpack_88, st_X10_unpack_89, st_X10_unpack_90, hw_68, st_X10_unpack_91, st_X10_unpack_92, hg_49_30, st_X10_unpack_93, st_X10_unpack_96, st_X10_unpack_97, st_X10_unpack_98, st_X10_unpack_99, st_X10_unpack_100, st_X10_unpack_101, st_X10_unpack_103, st_X10_unpack_104, st_X10_unpack_105, st_X10_unpack_106, hw_69, st_X10_unpack_107, st_X10_unpack_108, st_X10_unpack_111, st_X10_unpack_114, st_X10_unpack_115, st_X10_unpack_117, st_X10_unpack_118, st_X10_unpack_121, hg_49_31, st_X10_unpack_122, st_X10_unpack_125, st_X10_unpack_126, st_X10_unpack_127, st_X10_unpack_128, st_X10_unpack_129, st_X10_unpack_130, st_X10_unpack_132, st_X10_unpack_133, st_X10_unpack_134, st_X10_unpack_135, hw_70, st_X10_unpack_136, st_X10_unpack_137, st_X10_unpack_140, st_X10_unpack_143, Nat.reduceAdd, nn_1, nn_8, nn_16, nn_24, nn_32, nn_40, nn_48, nn_suc, nn_out, nn_clamp, Int32.zero_add, gM_64, gM_65, gM_66, gM_67, gM_68, gM_69, gM_70, gM_33, gM_72, gM_73, gM_o, gM_49, gMw_64, gMw_65, gMw_66, gMw_67, gMw_68, gMw_69, gMw_70, gMw_33, gMw_72, gMw_73, Nat.zero_add, nn_r1, nn_r8, nn_r16, nn_r24, nn_r32, nn_r40, nn_add, nn_l8, show j < 8 by omega, if_true]
set_option maxHeartbeats 4000000 in
theorem m_unpack_2_74 (hb : b + 54 ≤ 54) : ∀ m j : Nat, j + m = 5 → ∀ w : Rw,
    bc d M_X10_unpack none 116 [some (.ref 49), some (.ref 74), some (.int (Int32.ofNat b)), some (.int (Int32.ofNat j))] [] (hp t (gM g w a k)) cn sn = some (.inl none, hp t (gM g (loopR (up2 (g.1 74) b) m j w) a k), cn, sn) := by
  intro m
  induction m with
  | zero =>
    intro j hj w
    rw [st_X10_unpack_116]
    simp (disch := omega) only [st_X10_unpack_117, st_X10_unpack_118, st_X10_unpack_143, nn_l5, show ¬ j < 5 by omega, if_false, loopR, Nat.reduceAdd]
  | succ m ih =>
    intro j hj w
    unfold loopR
    rw [← ih (j + 1) (by omega) (up2 (g.1 74) b j w), st_X10_unpack_116]
    unfold up2
    simp (disch := omega) only [st_X10_unpack_0, st_X10_unpack_1, st_X10_unpack_2, bM_some, cond_false, ha_74, st_X10_unpack_3, hs_49_33, st_X10_unpack_4, st_X10_unpack_7, lc_i, lc_r, lc_n, lc_j, lc_f, st_X10_unpack_8, st_X10_unpack_10, st_X10_unpack_12, st_X10_unpack_15, hg_49_25, st_X10_unpack_16, st_X10_unpack_19, st_X10_unpack_20, st_X10_unpack_21, st_X10_unpack_22, st_X10_unpack_23, st_X10_unpack_24, st_X10_unpack_25, st_X10_unpack_26, hw_64, st_X10_unpack_27, st_X10_unpack_28, hg_49_26, st_X10_unpack_29, st_X10_unpack_32, st_X10_unpack_33, st_X10_unpack_34, st_X10_unpack_35, st_X10_unpack_36, st_X10_unpack_37, st_X10_unpack_39, st_X10_unpack_40, st_X10_unpack_41, st_X10_unpack_42, hw_65, st_X10_unpack_43, st_X10_unpack_44, hg_49_27, st_X10_unpack_45, st_X10_unpack_48, st_X10_unpack_49, st_X10_unpack_50, st_X10_unpack_51, st_X10_unpack_52, st_X10_unpack_53, st_X10_unpack_55, st_X10_unpack_56, st_X10_unpack_57, st_X10_unpack_58, hw_66, st_X10_unpack_59, st_X10_unpack_60, hg_49_28, st_X10_unpack_61, st_X10_unpack_64, st_X10_unpack_65, st_X10_unpack_66, st_X10_unpack_67, st_X10_unpack_68, st_X10_unpack_69, st_X10_unpack_71, st_X10_unpack_72, st_X10_unpack_73, st_X10_unpack_74, hw_67, st_X10_unpack_75, st_X10_unpack_76, hg_49_29, st_X10_unpack_77, st_X10_unpack_80, st_X10_unpack_81, st_X10_unpack_82, st_X10_unpack_83, st_X10_unpack_84, st_X10_unpack_85, st_X10_unpack_87, st_X10_unpack_88, st_X10_unpack_89, st_X10_unpack_90, hw_68, st_X10_unpack_91, st_X10_unpack_92, hg_49_30, st_X10_unpack_93, st_X10_unpack_96, st_X10_unpack_97, st_X10_unpack_98, st_X10_unpack_99, st_X10_unpack_100, st_X10_unpack_101, st_X10_unpack_103, st_X10_unpack_104, st_X10_unpack_105, st_X10_unpack_106, hw_69, st_X10_unpack_107, st_X10_unpack_108, st_X10_unpack_111, st_X10_unpack_114, st_X10_unpack_115, st_X10_unpack_117, st_X10_unpack_118, st_X10_unpack_121, hg_49_31, st_X10_unpack_122, st_X10_unpack_125, st_X10_unpack_126, st_X10_unpack_127, st_X10_unpack_128, st_X10_unpack_129, st_X10_unpack_130, st_X10_unpack_132, st_X10_unpack_133, st_X10_unpack_134, st_X10_unpack_135, hw_70, st_X10_unpack_136, st_X10_unpack_137, st_X10_unpack_140, st_X10_unpack_143, Nat.reduceAdd, nn_1, nn_8, nn_16, nn_24, nn_32, nn_40, nn_48, nn_suc, nn_out, nn_clamp, Int32.zero_add, gM_64, gM_65, gM_66, gM_67, gM_68, gM_69, gM_70, gM_33, gM_72, gM_73, gM_o, gM_49, gMw_64, gMw_65, gMw_66, gMw_67, gMw_68, gMw_69, gMw_70, gMw_33, gMw_72, gMw_73, Nat.zero_add, nn_r1, nn_r48, nn_add, nn_l5, show j < 5 by omega, if_true]
theorem m_unpack_74 (hb : b + 54 ≤ 54) : bc d M_X10_unpack none 0 [some (.ref 49), some (.ref 74), some (.int (Int32.ofNat b)), none] [] (hp t (gM g w a k)) cn sn = some (.inl none, hp t (gM g (unpR (g.1 74) b) a k), cn, sn) := by
  obtain ⟨b3, e⟩ := m_unpack_1_74 (d := d) (t := t) (g := g) (a := a) (k := k) (cn := cn) (sn := sn) hb 8 0 (by omega) (upd w 53 (g.1 74 b))
  have e2 := m_unpack_2_74 (d := d) (t := t) (g := g) (a := a) (k := k) (cn := cn) (sn := sn) hb 5 0 (by omega) (loopR (up1 (g.1 74) b) 8 0 (upd w 53 (g.1 74 b)))
  rw [show Int32.ofNat 0 = (0 : Int32) from rfl] at e e2
  simp (disch := omega) only [st_X10_unpack_0, st_X10_unpack_1, st_X10_unpack_2, st_X10_unpack_3, st_X10_unpack_4, st_X10_unpack_7, st_X10_unpack_8, bM_some, hs_49_33, ha_74, cond_false, nn_1, nn_8, nn_16, nn_24, nn_32, nn_40, nn_48, nn_suc, nn_out, nn_clamp, Int32.zero_add, gM_64, gM_65, gM_66, gM_67, gM_68, gM_69, gM_70, gM_33, gM_72, gM_73, gM_o, gM_49, gMw_64, gMw_65, gMw_66, gMw_67, gMw_68, gMw_69, gMw_70, gMw_33, gMw_72, gMw_73, Nat.zero_add, lc_i, Nat.reduceAdd]
  rw [e]
  simp only [st_X10_unpack_114, st_X10_unpack_115, lc_i, Nat.reduceAdd]
  rw [e2, gM_ext (fun i hi => up_all hi)]
theorem gMx_77 {i : Nat} {x : Int32} : hI (gM (hR g 77 f) w a k) 77 i x = gM (hR g 77 (upd f i x)) w a k := by
  rw [gM_hI (by omega), hI_R, hR_same, hR_hR]
set_option maxHeartbeats 4000000 in
theorem m_pack_1_77 (hb : b + 54 ≤ 54) : ∀ m j : Nat, j + m = 8 → ∀ f : Rw, ∃ b3 : Option Value,
    bc d M_X10_pack none 9 [some (.ref 49), some (.ref 77), some (.int (Int32.ofNat b)), some (.int (Int32.ofNat j))] [] (hp t (gM (hR g 77 f) w a k)) cn sn =
    bc d M_X10_pack none 114 [some (.ref 49), some (.ref 77), some (.int (Int32.ofNat b)), b3] [] (hp t (gM (hR g 77 (loopR (pk1 w b) m j f)) w a k)) cn sn := by
  intro m
  induction m with
  | zero =>
    intro j hj f
    refine ⟨some (.int (Int32.ofNat j)), ?_⟩
    rw [st_X10_pack_9]
    simp (disch := omega) only [st_X10_pack_10, st_X10_pack_12, nn_l8, show ¬ j < 8 by omega, if_false, loopR, Nat.reduceAdd]
  | succ m ih =>
    intro j hj f
    obtain ⟨b3, e⟩ := ih (j + 1) (by omega) (pk1 w b j f)
    refine ⟨b3, ?_⟩
    unfold loopR
    rw [← e, st_X10_pack_9]
    unfold pk1
    simp (disch := omega) only [st_X10_pack_0, st_X10_pack_1, st_X10_pack_2, bM_some, hg_49_33, st_X10_pack_3, cond_false, hw_77, st_X10_pack_6, st_X10_pack_7, lc_i, lc_r, lc_n, lc_j, lc_f, st_X10_pack_8, st_X10_pack_10, st_X10_pack_12, st_X10_pack_15, st_X10_pack_16, st_X10_pack_17, st_X10_pack_18, st_X10_pack_19, st_X10_pack_20, st_X10_pack_21, hg_49_25, st_X10_pack_22, st_X10_pack_25, ha_64, st_X10_pack_26, st_X10_pack_27, st_X10_pack_28, st_X10_pack_29, st_X10_pack_30, st_X10_pack_31, st_X10_pack_32, st_X10_pack_34, st_X10_pack_35, st_X10_pack_36, st_X10_pack_37, hg_49_26, st_X10_pack_38, st_X10_pack_41, ha_65, st_X10_pack_42, st_X10_pack_43, st_X10_pack_44, st_X10_pack_45, st_X10_pack_46, st_X10_pack_47, st_X10_pack_48, st_X10_pack_50, st_X10_pack_51, st_X10_pack_52, st_X10_pack_53, hg_49_27, st_X10_pack_54, st_X10_pack_57, ha_66, st_X10_pack_58, st_X10_pack_59, st_X10_pack_60, st_X10_pack_61, st_X10_pack_62, st_X10_pack_63, st_X10_pack_64, st_X10_pack_66, st_X10_pack_67, st_X10_pack_68, st_X10_pack_69, hg_49_28, st_X10_pack_70, st_X10_pack_73, ha_67, st_X10_pack_74, st_X10_pack_75, st_X10_pack_76, st_X10_pack_77, st_X10_pack_78, st_X10_pack_79, st_X10_pack_80, st_X10_pack_82, st_X10_pack_83, st_X10_pack_84, st_X10_pack_85, hg_49_29, st_X10_pack_86, st_X10_pack_89, ha_68, st_X10_pack_90, st_X10_pack_91, st_X10_pack_92, st_X10_pack_93, st_X10_pack_94, st_X10_pack_95, st_X10_pack_96, st_X10_pack_98, st_X10_pack_99, st_X10_pack_100, st_X10_pack_101, hg_49_30, st_X10_pack_102, st_X10_pack_105, ha_69, st_X10_pack_106, st_X10_pack_107, st_X10_pack_108, st_X10_pack_111, st_X10_pack_114, st_X10_pack_115, st_X10_pack_117, st_X10_pack_118, st_X10_pack_121, st_X10_pack_122, st_X10_pack_123, st_X10_pack_124, st_X10_pack_125, st_X10_pack_127, st_X10_pack_128, st_X10_pack_129, st_X10_pack_130, hg_49_31, st_X10_pack_131, st_X10_pack_134, ha_70, st_X10_pack_135, st_X10_pack_136, st_X10_pack_137, st_X10_pack_140, st_X10_pack_143, Nat.reduceAdd, nn_1, nn_8, nn_16, nn_24, nn_32, nn_40, nn_48, nn_suc, nn_out, nn_clamp, Int32.zero_add, gM_64, gM_65, gM_66, gM_67, gM_68, gM_69, gM_70, gM_33, gM_72, gM_73, gM_o, gM_49, gMw_64, gMw_65, gMw_66, gMw_67, gMw_68, gMw_69, gMw_70, gMw_33, gMw_72, gMw_73, Nat.zero_add, nn_r1, nn_r8, nn_r16, nn_r24, nn_r32, nn_r40, nn_add, nn_l8, show j < 8 by omega, if_true, gMx_77]
set_option maxHeartbeats 4000000 in
theorem m_pack_2_77 (hb : b + 54 ≤ 54) : ∀ m j : Nat, j + m = 5 → ∀ f : Rw,
    bc d M_X10_pack none 116 [some (.ref 49), some (.ref 77), some (.int (Int32.ofNat b)), some (.int (Int32.ofNat j))] [] (hp t (gM (hR g 77 f) w a k)) cn sn = some (.inl none, hp t (gM (hR g 77 (loopR (pk2 w b) m j f)) w a k), cn, sn) := by
  intro m
  induction m with
  | zero =>
    intro j hj f
    rw [st_X10_pack_116]
    simp (disch := omega) only [st_X10_pack_117, st_X10_pack_118, st_X10_pack_143, nn_l5, show ¬ j < 5 by omega, if_false, loopR, Nat.reduceAdd]
  | succ m ih =>
    intro j hj f
    unfold loopR
    rw [← ih (j + 1) (by omega) (pk2 w b j f), st_X10_pack_116]
    unfold pk2
    simp (disch := omega) only [st_X10_pack_0, st_X10_pack_1, st_X10_pack_2, bM_some, hg_49_33, st_X10_pack_3, cond_false, hw_77, st_X10_pack_6, st_X10_pack_7, lc_i, lc_r, lc_n, lc_j, lc_f, st_X10_pack_8, st_X10_pack_10, st_X10_pack_12, st_X10_pack_15, st_X10_pack_16, st_X10_pack_17, st_X10_pack_18, st_X10_pack_19, st_X10_pack_20, st_X10_pack_21, hg_49_25, st_X10_pack_22, st_X10_pack_25, ha_64, st_X10_pack_26, st_X10_pack_27, st_X10_pack_28, st_X10_pack_29, st_X10_pack_30, st_X10_pack_31, st_X10_pack_32, st_X10_pack_34, st_X10_pack_35, st_X10_pack_36, st_X10_pack_37, hg_49_26, st_X10_pack_38, st_X10_pack_41, ha_65, st_X10_pack_42, st_X10_pack_43, st_X10_pack_44, st_X10_pack_45, st_X10_pack_46, st_X10_pack_47, st_X10_pack_48, st_X10_pack_50, st_X10_pack_51, st_X10_pack_52, st_X10_pack_53, hg_49_27, st_X10_pack_54, st_X10_pack_57, ha_66, st_X10_pack_58, st_X10_pack_59, st_X10_pack_60, st_X10_pack_61, st_X10_pack_62, st_X10_pack_63, st_X10_pack_64, st_X10_pack_66, st_X10_pack_67, st_X10_pack_68, st_X10_pack_69, hg_49_28, st_X10_pack_70, st_X10_pack_73, ha_67, st_X10_pack_74, st_X10_pack_75, st_X10_pack_76, st_X10_pack_77, st_X10_pack_78, st_X10_pack_79, st_X10_pack_80, st_X10_pack_82, st_X10_pack_83, st_X10_pack_84, st_X10_pack_85, hg_49_29, st_X10_pack_86, st_X10_pack_89, ha_68, st_X10_pack_90, st_X10_pack_91, st_X10_pack_92, st_X10_pack_93, st_X10_pack_94, st_X10_pack_95, st_X10_pack_96, st_X10_pack_98, st_X10_pack_99, st_X10_pack_100, st_X10_pack_101, hg_49_30, st_X10_pack_102, st_X10_pack_105, ha_69, st_X10_pack_106, st_X10_pack_107, st_X10_pack_108, st_X10_pack_111, st_X10_pack_114, st_X10_pack_115, st_X10_pack_117, st_X10_pack_118, st_X10_pack_121, st_X10_pack_122, st_X10_pack_123, st_X10_pack_124, st_X10_pack_125, st_X10_pack_127, st_X10_pack_128, st_X10_pack_129, st_X10_pack_130, hg_49_31, st_X10_pack_131, st_X10_pack_134, ha_70, st_X10_pack_135, st_X10_pack_136, st_X10_pack_137, st_X10_pack_140, st_X10_pack_143, Nat.reduceAdd, nn_1, nn_8, nn_16, nn_24, nn_32, nn_40, nn_48, nn_suc, nn_out, nn_clamp, Int32.zero_add, gM_64, gM_65, gM_66, gM_67, gM_68, gM_69, gM_70, gM_33, gM_72, gM_73, gM_o, gM_49, gMw_64, gMw_65, gMw_66, gMw_67, gMw_68, gMw_69, gMw_70, gMw_33, gMw_72, gMw_73, Nat.zero_add, nn_r1, nn_r48, nn_add, nn_l5, show j < 5 by omega, if_true, gMx_77]
theorem m_pack_77 (hb : b + 54 ≤ 54) : bc d M_X10_pack none 0 [some (.ref 49), some (.ref 77), some (.int (Int32.ofNat b)), none] [] (hp t (gM g w a k)) cn sn = some (.inl none, hp t (gM (hR g 77 (packR (g.1 77) b w)) w a k), cn, sn) := by
  obtain ⟨b3, e⟩ := m_pack_1_77 (d := d) (t := t) (g := g) (w := w) (a := a) (k := k) (cn := cn) (sn := sn) hb 8 0 (by omega) (upd (g.1 77) b (w 53))
  have e2 := m_pack_2_77 (d := d) (t := t) (g := g) (w := w) (a := a) (k := k) (cn := cn) (sn := sn) hb 5 0 (by omega) (loopR (pk1 w b) 8 0 (upd (g.1 77) b (w 53)))
  rw [show Int32.ofNat 0 = (0 : Int32) from rfl] at e e2
  simp (disch := omega) only [st_X10_pack_0, st_X10_pack_1, st_X10_pack_2, st_X10_pack_3, st_X10_pack_6, st_X10_pack_7, st_X10_pack_8, bM_some, hg_49_33, hw_77, cond_false, nn_1, nn_8, nn_16, nn_24, nn_32, nn_40, nn_48, nn_suc, nn_out, nn_clamp, Int32.zero_add, gM_64, gM_65, gM_66, gM_67, gM_68, gM_69, gM_70, gM_33, gM_72, gM_73, gM_o, gM_49, gMw_64, gMw_65, gMw_66, gMw_67, gMw_68, gMw_69, gMw_70, gMw_33, gMw_72, gMw_73, Nat.zero_add, gM_hI, gM_hR, hI_R, lc_i, Nat.reduceAdd]
  rw [e]
  simp only [st_X10_pack_114, st_X10_pack_115, lc_i, Nat.reduceAdd]
  rw [e2, pk_all]
set_option maxHeartbeats 4000000 in
theorem m_unpack_1_77 (hb : b + 54 ≤ 54) : ∀ m j : Nat, j + m = 8 → ∀ w : Rw, ∃ b3 : Option Value,
    bc d M_X10_unpack none 9 [some (.ref 49), some (.ref 77), some (.int (Int32.ofNat b)), some (.int (Int32.ofNat j))] [] (hp t (gM g w a k)) cn sn =
    bc d M_X10_unpack none 114 [some (.ref 49), some (.ref 77), some (.int (Int32.ofNat b)), b3] [] (hp t (gM g (loopR (up1 (g.1 77) b) m j w) a k)) cn sn := by
  intro m
  induction m with
  | zero =>
    intro j hj f
    refine ⟨some (.int (Int32.ofNat j)), ?_⟩
    rw [st_X10_unpack_9]
    simp (disch := omega) only [st_X10_unpack_10, st_X10_unpack_12, nn_l8, show ¬ j < 8 by omega, if_false, loopR, Nat.reduceAdd]
  | succ m ih =>
    intro j hj w
    obtain ⟨b3, e⟩ := ih (j + 1) (by omega) (up1 (g.1 77) b j w)
    refine ⟨b3, ?_⟩
    unfold loopR
    rw [← e, st_X10_unpack_9]
    unfold up1
    simp (disch := omega) only [st_X10_unpack_0, st_X10_unpack_1, st_X10_unpack_2, bM_some, cond_false, ha_77, st_X10_unpack_3, hs_49_33, st_X10_unpack_4, st_X10_unpack_7, lc_i, lc_r, lc_n, lc_j, lc_f, st_X10_unpack_8, st_X10_unpack_10, st_X10_unpack_12, st_X10_unpack_15, hg_49_25, st_X10_unpack_16, st_X10_unpack_19, st_X10_unpack_20, st_X10_unpack_21, st_X10_unpack_22, st_X10_unpack_23, st_X10_unpack_24, st_X10_unpack_25, st_X10_unpack_26, hw_64, st_X10_unpack_27, st_X10_unpack_28, hg_49_26, st_X10_unpack_29, st_X10_unpack_32, st_X10_unpack_33, st_X10_unpack_34, st_X10_unpack_35, st_X10_unpack_36, st_X10_unpack_37, st_X10_unpack_39, st_X10_unpack_40, st_X10_unpack_41, st_X10_unpack_42, hw_65, st_X10_unpack_43, st_X10_unpack_44, hg_49_27, st_X10_unpack_45, st_X10_unpack_48, st_X10_unpack_49, st_X10_unpack_50, st_X10_unpack_51, st_X10_unpack_52, st_X10_unpack_53, st_X10_unpack_55, st_X10_unpack_56, st_X10_unpack_57, st_X10_unpack_58, hw_66, st_X10_unpack_59, st_X10_unpack_60, hg_49_28, st_X10_unpack_61, st_X10_unpack_64, st_X10_unpack_65, st_X10_unpack_66, st_X10_unpack_67, st_X10_unpack_68, st_X10_unpack_69, st_X10_unpack_71, st_X10_unpack_72, st_X10_unpack_73, st_X10_unpack_74, hw_67, st_X10_unpack_75, st_X10_unpack_76, hg_49_29, st_X10_unpack_77, st_X10_unpack_80, st_X10_unpack_81, st_X10_unpack_82, st_X10_unpack_83, st_X10_unpack_84, st_X10_unpack_85, st_X10_unpack_87, st_X10_unpack_88, st_X10_unpack_89, st_X10_unpack_90, hw_68, st_X10_unpack_91, st_X10_unpack_92, hg_49_30, st_X10_unpack_93, st_X10_unpack_96, st_X10_unpack_97, st_X10_unpack_98, st_X10_unpack_99, st_X10_unpack_100, st_X10_unpack_101, st_X10_unpack_103, st_X10_unpack_104, st_X10_unpack_105, st_X10_unpack_106, hw_69, st_X10_unpack_107, st_X10_unpack_108, st_X10_unpack_111, st_X10_unpack_114, st_X10_unpack_115, st_X10_unpack_117, st_X10_unpack_118, st_X10_unpack_121, hg_49_31, st_X10_unpack_122, st_X10_unpack_125, st_X10_unpack_126, st_X10_unpack_127, st_X10_unpack_128, st_X10_unpack_129, st_X10_unpack_130, st_X10_unpack_132, st_X10_unpack_133, st_X10_unpack_134, st_X10_unpack_135, hw_70, st_X10_unpack_136, st_X10_unpack_137, st_X10_unpack_140, st_X10_unpack_143, Nat.reduceAdd, nn_1, nn_8, nn_16, nn_24, nn_32, nn_40, nn_48, nn_suc, nn_out, nn_clamp, Int32.zero_add, gM_64, gM_65, gM_66, gM_67, gM_68, gM_69, gM_70, gM_33, gM_72, gM_73, gM_o, gM_49, gMw_64, gMw_65, gMw_66, gMw_67, gMw_68, gMw_69, gMw_70, gMw_33, gMw_72, gMw_73, Nat.zero_add, nn_r1, nn_r8, nn_r16, nn_r24, nn_r32, nn_r40, nn_add, nn_l8, show j < 8 by omega, if_true]
set_option maxHeartbeats 4000000 in
theorem m_unpack_2_77 (hb : b + 54 ≤ 54) : ∀ m j : Nat, j + m = 5 → ∀ w : Rw,
    bc d M_X10_unpack none 116 [some (.ref 49), some (.ref 77), some (.int (Int32.ofNat b)), some (.int (Int32.ofNat j))] [] (hp t (gM g w a k)) cn sn = some (.inl none, hp t (gM g (loopR (up2 (g.1 77) b) m j w) a k), cn, sn) := by
  intro m
  induction m with
  | zero =>
    intro j hj w
    rw [st_X10_unpack_116]
    simp (disch := omega) only [st_X10_unpack_117, st_X10_unpack_118, st_X10_unpack_143, nn_l5, show ¬ j < 5 by omega, if_false, loopR, Nat.reduceAdd]
  | succ m ih =>
    intro j hj w
    unfold loopR
    rw [← ih (j + 1) (by omega) (up2 (g.1 77) b j w), st_X10_unpack_116]
    unfold up2
    simp (disch := omega) only [st_X10_unpack_0, st_X10_unpack_1, st_X10_unpack_2, bM_some, cond_false, ha_77, st_X10_unpack_3, hs_49_33, st_X10_unpack_4, st_X10_unpack_7, lc_i, lc_r, lc_n, lc_j, lc_f, st_X10_unpack_8, st_X10_unpack_10, st_X10_unpack_12, st_X10_unpack_15, hg_49_25, st_X10_unpack_16, st_X10_unpack_19, st_X10_unpack_20, st_X10_unpack_21, st_X10_unpack_22, st_X10_unpack_23, st_X10_unpack_24, st_X10_unpack_25, st_X10_unpack_26, hw_64, st_X10_unpack_27, st_X10_unpack_28, hg_49_26, st_X10_unpack_29, st_X10_unpack_32, st_X10_unpack_33, st_X10_unpack_34, st_X10_unpack_35, st_X10_unpack_36, st_X10_unpack_37, st_X10_unpack_39, st_X10_unpack_40, st_X10_unpack_41, st_X10_unpack_42, hw_65, st_X10_unpack_43, st_X10_unpack_44, hg_49_27, st_X10_unpack_45, st_X10_unpack_48, st_X10_unpack_49, st_X10_unpack_50, st_X10_unpack_51, st_X10_unpack_52, st_X10_unpack_53, st_X10_unpack_55, st_X10_unpack_56, st_X10_unpack_57, st_X10_unpack_58, hw_66, st_X10_unpack_59, st_X10_unpack_60, hg_49_28, st_X10_unpack_61, st_X10_unpack_64, st_X10_unpack_65, st_X10_unpack_66, st_X10_unpack_67, st_X10_unpack_68, st_X10_unpack_69, st_X10_unpack_71, st_X10_unpack_72, st_X10_unpack_73, st_X10_unpack_74, hw_67, st_X10_unpack_75, st_X10_unpack_76, hg_49_29, st_X10_unpack_77, st_X10_unpack_80, st_X10_unpack_81, st_X10_unpack_82, st_X10_unpack_83, st_X10_unpack_84, st_X10_unpack_85, st_X10_unpack_87, st_X10_unpack_88, st_X10_unpack_89, st_X10_unpack_90, hw_68, st_X10_unpack_91, st_X10_unpack_92, hg_49_30, st_X10_unpack_93, st_X10_unpack_96, st_X10_unpack_97, st_X10_unpack_98, st_X10_unpack_99, st_X10_unpack_100, st_X10_unpack_101, st_X10_unpack_103, st_X10_unpack_104, st_X10_unpack_105, st_X10_unpack_106, hw_69, st_X10_unpack_107, st_X10_unpack_108, st_X10_unpack_111, st_X10_unpack_114, st_X10_unpack_115, st_X10_unpack_117, st_X10_unpack_118, st_X10_unpack_121, hg_49_31, st_X10_unpack_122, st_X10_unpack_125, st_X10_unpack_126, st_X10_unpack_127, st_X10_unpack_128, st_X10_unpack_129, st_X10_unpack_130, st_X10_unpack_132, st_X10_unpack_133, st_X10_unpack_134, st_X10_unpack_135, hw_70, st_X10_unpack_136, st_X10_unpack_137, st_X10_unpack_140, st_X10_unpack_143, Nat.reduceAdd, nn_1, nn_8, nn_16, nn_24, nn_32, nn_40, nn_48, nn_suc, nn_out, nn_clamp, Int32.zero_add, gM_64, gM_65, gM_66, gM_67, gM_68, gM_69, gM_70, gM_33, gM_72, gM_73, gM_o, gM_49, gMw_64, gMw_65, gMw_66, gMw_67, gMw_68, gMw_69, gMw_70, gMw_33, gMw_72, gMw_73, Nat.zero_add, nn_r1, nn_r48, nn_add, nn_l5, show j < 5 by omega, if_true]
theorem m_unpack_77 (hb : b + 54 ≤ 54) : bc d M_X10_unpack none 0 [some (.ref 49), some (.ref 77), some (.int (Int32.ofNat b)), none] [] (hp t (gM g w a k)) cn sn = some (.inl none, hp t (gM g (unpR (g.1 77) b) a k), cn, sn) := by
  obtain ⟨b3, e⟩ := m_unpack_1_77 (d := d) (t := t) (g := g) (a := a) (k := k) (cn := cn) (sn := sn) hb 8 0 (by omega) (upd w 53 (g.1 77 b))
  have e2 := m_unpack_2_77 (d := d) (t := t) (g := g) (a := a) (k := k) (cn := cn) (sn := sn) hb 5 0 (by omega) (loopR (up1 (g.1 77) b) 8 0 (upd w 53 (g.1 77 b)))
  rw [show Int32.ofNat 0 = (0 : Int32) from rfl] at e e2
  simp (disch := omega) only [st_X10_unpack_0, st_X10_unpack_1, st_X10_unpack_2, st_X10_unpack_3, st_X10_unpack_4, st_X10_unpack_7, st_X10_unpack_8, bM_some, hs_49_33, ha_77, cond_false, nn_1, nn_8, nn_16, nn_24, nn_32, nn_40, nn_48, nn_suc, nn_out, nn_clamp, Int32.zero_add, gM_64, gM_65, gM_66, gM_67, gM_68, gM_69, gM_70, gM_33, gM_72, gM_73, gM_o, gM_49, gMw_64, gMw_65, gMw_66, gMw_67, gMw_68, gMw_69, gMw_70, gMw_33, gMw_72, gMw_73, Nat.zero_add, lc_i, Nat.reduceAdd]
  rw [e]
  simp only [st_X10_unpack_114, st_X10_unpack_115, lc_i, Nat.reduceAdd]
  rw [e2, gM_ext (fun i hi => up_all hi)]
theorem gMx_80 {i : Nat} {x : Int32} : hI (gM (hR g 80 f) w a k) 80 i x = gM (hR g 80 (upd f i x)) w a k := by
  rw [gM_hI (by omega), hI_R, hR_same, hR_hR]
set_option maxHeartbeats 4000000 in
theorem m_pack_1_80 (hb : b + 54 ≤ 54) : ∀ m j : Nat, j + m = 8 → ∀ f : Rw, ∃ b3 : Option Value,
    bc d M_X10_pack none 9 [some (.ref 49), some (.ref 80), some (.int (Int32.ofNat b)), some (.int (Int32.ofNat j))] [] (hp t (gM (hR g 80 f) w a k)) cn sn =
    bc d M_X10_pack none 114 [some (.ref 49), some (.ref 80), some (.int (Int32.ofNat b)), b3] [] (hp t (gM (hR g 80 (loopR (pk1 w b) m j f)) w a k)) cn sn := by
  intro m
  induction m with
  | zero =>
    intro j hj f
    refine ⟨some (.int (Int32.ofNat j)), ?_⟩
    rw [st_X10_pack_9]
    simp (disch := omega) only [st_X10_pack_10, st_X10_pack_12, nn_l8, show ¬ j < 8 by omega, if_false, loopR, Nat.reduceAdd]
  | succ m ih =>
    intro j hj f
    obtain ⟨b3, e⟩ := ih (j + 1) (by omega) (pk1 w b j f)
    refine ⟨b3, ?_⟩
    unfold loopR
    rw [← e, st_X10_pack_9]
    unfold pk1
    simp (disch := omega) only [st_X10_pack_0, st_X10_pack_1, st_X10_pack_2, bM_some, hg_49_33, st_X10_pack_3, cond_false, hw_80, st_X10_pack_6, st_X10_pack_7, lc_i, lc_r, lc_n, lc_j, lc_f, st_X10_pack_8, st_X10_pack_10, st_X10_pack_12, st_X10_pack_15, st_X10_pack_16, st_X10_pack_17, st_X10_pack_18, st_X10_pack_19, st_X10_pack_20, st_X10_pack_21, hg_49_25, st_X10_pack_22, st_X10_pack_25, ha_64, st_X10_pack_26, st_X10_pack_27, st_X10_pack_28, st_X10_pack_29, st_X10_pack_30, st_X10_pack_31, st_X10_pack_32, st_X10_pack_34, st_X10_pack_35, st_X10_pack_36, st_X10_pack_37, hg_49_26, st_X10_pack_38, st_X10_pack_41, ha_65, st_X10_pack_42, st_X10_pack_43, st_X10_pack_44, st_X10_pack_45, st_X10_pack_46, st_X10_pack_47, st_X10_pack_48, st_X10_pack_50, st_X10_pack_51, st_X10_pack_52, st_X10_pack_53, hg_49_27, st_X10_pack_54, st_X10_pack_57, ha_66, st_X10_pack_58, st_X10_pack_59, st_X10_pack_60, st_X10_pack_61, st_X10_pack_62, st_X10_pack_63, st_X10_pack_64, st_X10_pack_66, st_X10_pack_67, st_X10_pack_68, st_X10_pack_69, hg_49_28, st_X10_pack_70, st_X10_pack_73, ha_67, st_X10_pack_74, st_X10_pack_75, st_X10_pack_76, st_X10_pack_77, st_X10_pack_78, st_X10_pack_79, st_X10_pack_80, st_X10_pack_82, st_X10_pack_83, st_X10_pack_84, st_X10_pack_85, hg_49_29, st_X10_pack_86, st_X10_pack_89, ha_68, st_X10_pack_90, st_X10_pack_91, st_X10_pack_92, st_X10_pack_93, st_X10_pack_94, st_X10_pack_95, st_X10_pack_96, st_X10_pack_98, st_X10_pack_99, st_X10_pack_100, st_X10_pack_101, hg_49_30, st_X10_pack_102, st_X10_pack_105, ha_69, st_X10_pack_106, st_X10_pack_107, st_X10_pack_108, st_X10_pack_111, st_X10_pack_114, st_X10_pack_115, st_X10_pack_117, st_X10_pack_118, st_X10_pack_121, st_X10_pack_122, st_X10_pack_123, st_X10_pack_124, st_X10_pack_125, st_X10_pack_127, st_X10_pack_128, st_X10_pack_129, st_X10_pack_130, hg_49_31, st_X10_pack_131, st_X10_pack_134, ha_70, st_X10_pack_135, st_X10_pack_136, st_X10_pack_137, st_X10_pack_140, st_X10_pack_143, Nat.reduceAdd, nn_1, nn_8, nn_16, nn_24, nn_32, nn_40, nn_48, nn_suc, nn_out, nn_clamp, Int32.zero_add, gM_64, gM_65, gM_66, gM_67, gM_68, gM_69, gM_70, gM_33, gM_72, gM_73, gM_o, gM_49, gMw_64, gMw_65, gMw_66, gMw_67, gMw_68, gMw_69, gMw_70, gMw_33, gMw_72, gMw_73, Nat.zero_add, nn_r1, nn_r8, nn_r16, nn_r24, nn_r32, nn_r40, nn_add, nn_l8, show j < 8 by omega, if_true, gMx_80]
set_option maxHeartbeats 4000000 in
theorem m_pack_2_80 (hb : b + 54 ≤ 54) : ∀ m j : Nat, j + m = 5 → ∀ f : Rw,
    bc d M_X10_pack none 116 [some (.ref 49), some (.ref 80), some (.int (Int32.ofNat b)), some (.int (Int32.ofNat j))] [] (hp t (gM (hR g 80 f) w a k)) cn sn = some (.inl none, hp t (gM (hR g 80 (loopR (pk2 w b) m j f)) w a k), cn, sn) := by
  intro m
  induction m with
  | zero =>
    intro j hj f
    rw [st_X10_pack_116]
    simp (disch := omega) only [st_X10_pack_117, st_X10_pack_118, st_X10_pack_143, nn_l5, show ¬ j < 5 by omega, if_false, loopR, Nat.reduceAdd]
  | succ m ih =>
    intro j hj f
    unfold loopR
    rw [← ih (j + 1) (by omega) (pk2 w b j f), st_X10_pack_116]
    unfold pk2
    simp (disch := omega) only [st_X10_pack_0, st_X10_pack_1, st_X10_pack_2, bM_some, hg_49_33, st_X10_pack_3, cond_false, hw_80, st_X10_pack_6, st_X10_pack_7, lc_i, lc_r, lc_n, lc_j, lc_f, st_X10_pack_8, st_X10_pack_10, st_X10_pack_12, st_X10_pack_15, st_X10_pack_16, st_X10_pack_17, st_X10_pack_18, st_X10_pack_19, st_X10_pack_20, st_X10_pack_21, hg_49_25, st_X10_pack_22, st_X10_pack_25, ha_64, st_X10_pack_26, st_X10_pack_27, st_X10_pack_28, st_X10_pack_29, st_X10_pack_30, st_X10_pack_31, st_X10_pack_32, st_X10_pack_34, st_X10_pack_35, st_X10_pack_36, st_X10_pack_37, hg_49_26, st_X10_pack_38, st_X10_pack_41, ha_65, st_X10_pack_42, st_X10_pack_43, st_X10_pack_44, st_X10_pack_45, st_X10_pack_46, st_X10_pack_47, st_X10_pack_48, st_X10_pack_50, st_X10_pack_51, st_X10_pack_52, st_X10_pack_53, hg_49_27, st_X10_pack_54, st_X10_pack_57, ha_66, st_X10_pack_58, st_X10_pack_59, st_X10_pack_60, st_X10_pack_61, st_X10_pack_62, st_X10_pack_63, st_X10_pack_64, st_X10_pack_66, st_X10_pack_67, st_X10_pack_68, st_X10_pack_69, hg_49_28, st_X10_pack_70, st_X10_pack_73, ha_67, st_X10_pack_74, st_X10_pack_75, st_X10_pack_76, st_X10_pack_77, st_X10_pack_78, st_X10_pack_79, st_X10_pack_80, st_X10_pack_82, st_X10_pack_83, st_X10_pack_84, st_X10_pack_85, hg_49_29, st_X10_pack_86, st_X10_pack_89, ha_68, st_X10_pack_90, st_X10_pack_91, st_X10_pack_92, st_X10_pack_93, st_X10_pack_94, st_X10_pack_95, st_X10_pack_96, st_X10_pack_98, st_X10_pack_99, st_X10_pack_100, st_X10_pack_101, hg_49_30, st_X10_pack_102, st_X10_pack_105, ha_69, st_X10_pack_106, st_X10_pack_107, st_X10_pack_108, st_X10_pack_111, st_X10_pack_114, st_X10_pack_115, st_X10_pack_117, st_X10_pack_118, st_X10_pack_121, st_X10_pack_122, st_X10_pack_123, st_X10_pack_124, st_X10_pack_125, st_X10_pack_127, st_X10_pack_128, st_X10_pack_129, st_X10_pack_130, hg_49_31, st_X10_pack_131, st_X10_pack_134, ha_70, st_X10_pack_135, st_X10_pack_136, st_X10_pack_137, st_X10_pack_140, st_X10_pack_143, Nat.reduceAdd, nn_1, nn_8, nn_16, nn_24, nn_32, nn_40, nn_48, nn_suc, nn_out, nn_clamp, Int32.zero_add, gM_64, gM_65, gM_66, gM_67, gM_68, gM_69, gM_70, gM_33, gM_72, gM_73, gM_o, gM_49, gMw_64, gMw_65, gMw_66, gMw_67, gMw_68, gMw_69, gMw_70, gMw_33, gMw_72, gMw_73, Nat.zero_add, nn_r1, nn_r48, nn_add, nn_l5, show j < 5 by omega, if_true, gMx_80]
theorem m_pack_80 (hb : b + 54 ≤ 54) : bc d M_X10_pack none 0 [some (.ref 49), some (.ref 80), some (.int (Int32.ofNat b)), none] [] (hp t (gM g w a k)) cn sn = some (.inl none, hp t (gM (hR g 80 (packR (g.1 80) b w)) w a k), cn, sn) := by
  obtain ⟨b3, e⟩ := m_pack_1_80 (d := d) (t := t) (g := g) (w := w) (a := a) (k := k) (cn := cn) (sn := sn) hb 8 0 (by omega) (upd (g.1 80) b (w 53))
  have e2 := m_pack_2_80 (d := d) (t := t) (g := g) (w := w) (a := a) (k := k) (cn := cn) (sn := sn) hb 5 0 (by omega) (loopR (pk1 w b) 8 0 (upd (g.1 80) b (w 53)))
  rw [show Int32.ofNat 0 = (0 : Int32) from rfl] at e e2
  simp (disch := omega) only [st_X10_pack_0, st_X10_pack_1, st_X10_pack_2, st_X10_pack_3, st_X10_pack_6, st_X10_pack_7, st_X10_pack_8, bM_some, hg_49_33, hw_80, cond_false, nn_1, nn_8, nn_16, nn_24, nn_32, nn_40, nn_48, nn_suc, nn_out, nn_clamp, Int32.zero_add, gM_64, gM_65, gM_66, gM_67, gM_68, gM_69, gM_70, gM_33, gM_72, gM_73, gM_o, gM_49, gMw_64, gMw_65, gMw_66, gMw_67, gMw_68, gMw_69, gMw_70, gMw_33, gMw_72, gMw_73, Nat.zero_add, gM_hI, gM_hR, hI_R, lc_i, Nat.reduceAdd]
  rw [e]
  simp only [st_X10_pack_114, st_X10_pack_115, lc_i, Nat.reduceAdd]
  rw [e2, pk_all]
set_option maxHeartbeats 4000000 in
theorem m_unpack_1_80 (hb : b + 54 ≤ 54) : ∀ m j : Nat, j + m = 8 → ∀ w : Rw, ∃ b3 : Option Value,
    bc d M_X10_unpack none 9 [some (.ref 49), some (.ref 80), some (.int (Int32.ofNat b)), some (.int (Int32.ofNat j))] [] (hp t (gM g w a k)) cn sn =
    bc d M_X10_unpack none 114 [some (.ref 49), some (.ref 80), some (.int (Int32.ofNat b)), b3] [] (hp t (gM g (loopR (up1 (g.1 80) b) m j w) a k)) cn sn := by
  intro m
  induction m with
  | zero =>
    intro j hj f
    refine ⟨some (.int (Int32.ofNat j)), ?_⟩
    rw [st_X10_unpack_9]
    simp (disch := omega) only [st_X10_unpack_10, st_X10_unpack_12, nn_l8, show ¬ j < 8 by omega, if_false, loopR, Nat.reduceAdd]
  | succ m ih =>
    intro j hj w
    obtain ⟨b3, e⟩ := ih (j + 1) (by omega) (up1 (g.1 80) b j w)
    refine ⟨b3, ?_⟩
    unfold loopR
    rw [← e, st_X10_unpack_9]
    unfold up1
    simp (disch := omega) only [st_X10_unpack_0, st_X10_unpack_1, st_X10_unpack_2, bM_some, cond_false, ha_80, st_X10_unpack_3, hs_49_33, st_X10_unpack_4, st_X10_unpack_7, lc_i, lc_r, lc_n, lc_j, lc_f, st_X10_unpack_8, st_X10_unpack_10, st_X10_unpack_12, st_X10_unpack_15, hg_49_25, st_X10_unpack_16, st_X10_unpack_19, st_X10_unpack_20, st_X10_unpack_21, st_X10_unpack_22, st_X10_unpack_23, st_X10_unpack_24, st_X10_unpack_25, st_X10_unpack_26, hw_64, st_X10_unpack_27, st_X10_unpack_28, hg_49_26, st_X10_unpack_29, st_X10_unpack_32, st_X10_unpack_33, st_X10_unpack_34, st_X10_unpack_35, st_X10_unpack_36, st_X10_unpack_37, st_X10_unpack_39, st_X10_unpack_40, st_X10_unpack_41, st_X10_unpack_42, hw_65, st_X10_unpack_43, st_X10_unpack_44, hg_49_27, st_X10_unpack_45, st_X10_unpack_48, st_X10_unpack_49, st_X10_unpack_50, st_X10_unpack_51, st_X10_unpack_52, st_X10_unpack_53, st_X10_unpack_55, st_X10_unpack_56, st_X10_unpack_57, st_X10_unpack_58, hw_66, st_X10_unpack_59, st_X10_unpack_60, hg_49_28, st_X10_unpack_61, st_X10_unpack_64, st_X10_unpack_65, st_X10_unpack_66, st_X10_unpack_67, st_X10_unpack_68, st_X10_unpack_69, st_X10_unpack_71, st_X10_unpack_72, st_X10_unpack_73, st_X10_unpack_74, hw_67, st_X10_unpack_75, st_X10_unpack_76, hg_49_29, st_X10_unpack_77, st_X10_unpack_80, st_X10_unpack_81, st_X10_unpack_82, st_X10_unpack_83, st_X10_unpack_84, st_X10_unpack_85, st_X10_unpack_87, st_X10_unpack_88, st_X10_unpack_89, st_X10_unpack_90, hw_68, st_X10_unpack_91, st_X10_unpack_92, hg_49_30, st_X10_unpack_93, st_X10_unpack_96, st_X10_unpack_97, st_X10_unpack_98, st_X10_unpack_99, st_X10_unpack_100, st_X10_unpack_101, st_X10_unpack_103, st_X10_unpack_104, st_X10_unpack_105, st_X10_unpack_106, hw_69, st_X10_unpack_107, st_X10_unpack_108, st_X10_unpack_111, st_X10_unpack_114, st_X10_unpack_115, st_X10_unpack_117, st_X10_unpack_118, st_X10_unpack_121, hg_49_31, st_X10_unpack_122, st_X10_unpack_125, st_X10_unpack_126, st_X10_unpack_127, st_X10_unpack_128, st_X10_unpack_129, st_X10_unpack_130, st_X10_unpack_132, st_X10_unpack_133, st_X10_unpack_134, st_X10_unpack_135, hw_70, st_X10_unpack_136, st_X10_unpack_137, st_X10_unpack_140, st_X10_unpack_143, Nat.reduceAdd, nn_1, nn_8, nn_16, nn_24, nn_32, nn_40, nn_48, nn_suc, nn_out, nn_clamp, Int32.zero_add, gM_64, gM_65, gM_66, gM_67, gM_68, gM_69, gM_70, gM_33, gM_72, gM_73, gM_o, gM_49, gMw_64, gMw_65, gMw_66, gMw_67, gMw_68, gMw_69, gMw_70, gMw_33, gMw_72, gMw_73, Nat.zero_add, nn_r1, nn_r8, nn_r16, nn_r24, nn_r32, nn_r40, nn_add, nn_l8, show j < 8 by omega, if_true]
set_option maxHeartbeats 4000000 in
theorem m_unpack_2_80 (hb : b + 54 ≤ 54) : ∀ m j : Nat, j + m = 5 → ∀ w : Rw,
    bc d M_X10_unpack none 116 [some (.ref 49), some (.ref 80), some (.int (Int32.ofNat b)), some (.int (Int32.ofNat j))] [] (hp t (gM g w a k)) cn sn = some (.inl none, hp t (gM g (loopR (up2 (g.1 80) b) m j w) a k), cn, sn) := by
  intro m
  induction m with
  | zero =>
    intro j hj w
    rw [st_X10_unpack_116]
    simp (disch := omega) only [st_X10_unpack_117, st_X10_unpack_118, st_X10_unpack_143, nn_l5, show ¬ j < 5 by omega, if_false, loopR, Nat.reduceAdd]
  | succ m ih =>
    intro j hj w
    unfold loopR
    rw [← ih (j + 1) (by omega) (up2 (g.1 80) b j w), st_X10_unpack_116]
    unfold up2
    simp (disch := omega) only [st_X10_unpack_0, st_X10_unpack_1, st_X10_unpack_2, bM_some, cond_false, ha_80, st_X10_unpack_3, hs_49_33, st_X10_unpack_4, st_X10_unpack_7, lc_i, lc_r, lc_n, lc_j, lc_f, st_X10_unpack_8, st_X10_unpack_10, st_X10_unpack_12, st_X10_unpack_15, hg_49_25, st_X10_unpack_16, st_X10_unpack_19, st_X10_unpack_20, st_X10_unpack_21, st_X10_unpack_22, st_X10_unpack_23, st_X10_unpack_24, st_X10_unpack_25, st_X10_unpack_26, hw_64, st_X10_unpack_27, st_X10_unpack_28, hg_49_26, st_X10_unpack_29, st_X10_unpack_32, st_X10_unpack_33, st_X10_unpack_34, st_X10_unpack_35, st_X10_unpack_36, st_X10_unpack_37, st_X10_unpack_39, st_X10_unpack_40, st_X10_unpack_41, st_X10_unpack_42, hw_65, st_X10_unpack_43, st_X10_unpack_44, hg_49_27, st_X10_unpack_45, st_X10_unpack_48, st_X10_unpack_49, st_X10_unpack_50, st_X10_unpack_51, st_X10_unpack_52, st_X10_unpack_53, st_X10_unpack_55, st_X10_unpack_56, st_X10_unpack_57, st_X10_unpack_58, hw_66, st_X10_unpack_59, st_X10_unpack_60, hg_49_28, st_X10_unpack_61, st_X10_unpack_64, st_X10_unpack_65, st_X10_unpack_66, st_X10_unpack_67, st_X10_unpack_68, st_X10_unpack_69, st_X10_unpack_71, st_X10_unpack_72, st_X10_unpack_73, st_X10_unpack_74, hw_67, st_X10_unpack_75, st_X10_unpack_76, hg_49_29, st_X10_unpack_77, st_X10_unpack_80, st_X10_unpack_81, st_X10_unpack_82, st_X10_unpack_83, st_X10_unpack_84, st_X10_unpack_85, st_X10_unpack_87, st_X10_unpack_88, st_X10_unpack_89, st_X10_unpack_90, hw_68, st_X10_unpack_91, st_X10_unpack_92, hg_49_30, st_X10_unpack_93, st_X10_unpack_96, st_X10_unpack_97, st_X10_unpack_98, st_X10_unpack_99, st_X10_unpack_100, st_X10_unpack_101, st_X10_unpack_103, st_X10_unpack_104, st_X10_unpack_105, st_X10_unpack_106, hw_69, st_X10_unpack_107, st_X10_unpack_108, st_X10_unpack_111, st_X10_unpack_114, st_X10_unpack_115, st_X10_unpack_117, st_X10_unpack_118, st_X10_unpack_121, hg_49_31, st_X10_unpack_122, st_X10_unpack_125, st_X10_unpack_126, st_X10_unpack_127, st_X10_unpack_128, st_X10_unpack_129, st_X10_unpack_130, st_X10_unpack_132, st_X10_unpack_133, st_X10_unpack_134, st_X10_unpack_135, hw_70, st_X10_unpack_136, st_X10_unpack_137, st_X10_unpack_140, st_X10_unpack_143, Nat.reduceAdd, nn_1, nn_8, nn_16, nn_24, nn_32, nn_40, nn_48, nn_suc, nn_out, nn_clamp, Int32.zero_add, gM_64, gM_65, gM_66, gM_67, gM_68, gM_69, gM_70, gM_33, gM_72, gM_73, gM_o, gM_49, gMw_64, gMw_65, gMw_66, gMw_67, gMw_68, gMw_69, gMw_70, gMw_33, gMw_72, gMw_73, Nat.zero_add, nn_r1, nn_r48, nn_add, nn_l5, show j < 5 by omega, if_true]
theorem m_unpack_80 (hb : b + 54 ≤ 54) : bc d M_X10_unpack none 0 [some (.ref 49), some (.ref 80), some (.int (Int32.ofNat b)), none] [] (hp t (gM g w a k)) cn sn = some (.inl none, hp t (gM g (unpR (g.1 80) b) a k), cn, sn) := by
  obtain ⟨b3, e⟩ := m_unpack_1_80 (d := d) (t := t) (g := g) (a := a) (k := k) (cn := cn) (sn := sn) hb 8 0 (by omega) (upd w 53 (g.1 80 b))
  have e2 := m_unpack_2_80 (d := d) (t := t) (g := g) (a := a) (k := k) (cn := cn) (sn := sn) hb 5 0 (by omega) (loopR (up1 (g.1 80) b) 8 0 (upd w 53 (g.1 80 b)))
  rw [show Int32.ofNat 0 = (0 : Int32) from rfl] at e e2
  simp (disch := omega) only [st_X10_unpack_0, st_X10_unpack_1, st_X10_unpack_2, st_X10_unpack_3, st_X10_unpack_4, st_X10_unpack_7, st_X10_unpack_8, bM_some, hs_49_33, ha_80, cond_false, nn_1, nn_8, nn_16, nn_24, nn_32, nn_40, nn_48, nn_suc, nn_out, nn_clamp, Int32.zero_add, gM_64, gM_65, gM_66, gM_67, gM_68, gM_69, gM_70, gM_33, gM_72, gM_73, gM_o, gM_49, gMw_64, gMw_65, gMw_66, gMw_67, gMw_68, gMw_69, gMw_70, gMw_33, gMw_72, gMw_73, Nat.zero_add, lc_i, Nat.reduceAdd]
  rw [e]
  simp only [st_X10_unpack_114, st_X10_unpack_115, lc_i, Nat.reduceAdd]
  rw [e2, gM_ext (fun i hi => up_all hi)]
theorem gMx_83 {i : Nat} {x : Int32} : hI (gM (hR g 83 f) w a k) 83 i x = gM (hR g 83 (upd f i x)) w a k := by
  rw [gM_hI (by omega), hI_R, hR_same, hR_hR]
set_option maxHeartbeats 4000000 in
theorem m_pack_1_83 (hb : b + 54 ≤ 54) : ∀ m j : Nat, j + m = 8 → ∀ f : Rw, ∃ b3 : Option Value,
    bc d M_X10_pack none 9 [some (.ref 49), some (.ref 83), some (.int (Int32.ofNat b)), some (.int (Int32.ofNat j))] [] (hp t (gM (hR g 83 f) w a k)) cn sn =
    bc d M_X10_pack none 114 [some (.ref 49), some (.ref 83), some (.int (Int32.ofNat b)), b3] [] (hp t (gM (hR g 83 (loopR (pk1 w b) m j f)) w a k)) cn sn := by
  intro m
  induction m with
  | zero =>
    intro j hj f
    refine ⟨some (.int (Int32.ofNat j)), ?_⟩
    rw [st_X10_pack_9]
    simp (disch := omega) only [st_X10_pack_10, st_X10_pack_12, nn_l8, show ¬ j < 8 by omega, if_false, loopR, Nat.reduceAdd]
  | succ m ih =>
    intro j hj f
    obtain ⟨b3, e⟩ := ih (j + 1) (by omega) (pk1 w b j f)
    refine ⟨b3, ?_⟩
    unfold loopR
    rw [← e, st_X10_pack_9]
    unfold pk1
    simp (disch := omega) only [st_X10_pack_0, st_X10_pack_1, st_X10_pack_2, bM_some, hg_49_33, st_X10_pack_3, cond_false, hw_83, st_X10_pack_6, st_X10_pack_7, lc_i, lc_r, lc_n, lc_j, lc_f, st_X10_pack_8, st_X10_pack_10, st_X10_pack_12, st_X10_pack_15, st_X10_pack_16, st_X10_pack_17, st_X10_pack_18, st_X10_pack_19, st_X10_pack_20, st_X10_pack_21, hg_49_25, st_X10_pack_22, st_X10_pack_25, ha_64, st_X10_pack_26, st_X10_pack_27, st_X10_pack_28, st_X10_pack_29, st_X10_pack_30, st_X10_pack_31, st_X10_pack_32, st_X10_pack_34, st_X10_pack_35, st_X10_pack_36, st_X10_pack_37, hg_49_26, st_X10_pack_38, st_X10_pack_41, ha_65, st_X10_pack_42, st_X10_pack_43, st_X10_pack_44, st_X10_pack_45, st_X10_pack_46, st_X10_pack_47, st_X10_pack_48, st_X10_pack_50, st_X10_pack_51, st_X10_pack_52, st_X10_pack_53, hg_49_27, st_X10_pack_54, st_X10_pack_57, ha_66, st_X10_pack_58, st_X10_pack_59, st_X10_pack_60, st_X10_pack_61, st_X10_pack_62, st_X10_pack_63, st_X10_pack_64, st_X10_pack_66, st_X10_pack_67, st_X10_pack_68, st_X10_pack_69, hg_49_28, st_X10_pack_70, st_X10_pack_73, ha_67, st_X10_pack_74, st_X10_pack_75, st_X10_pack_76, st_X10_pack_77, st_X10_pack_78, st_X10_pack_79, st_X10_pack_80, st_X10_pack_82, st_X10_pack_83, st_X10_pack_84, st_X10_pack_85, hg_49_29, st_X10_pack_86, st_X10_pack_89, ha_68, st_X10_pack_90, st_X10_pack_91, st_X10_pack_92, st_X10_pack_93, st_X10_pack_94, st_X10_pack_95, st_X10_pack_96, st_X10_pack_98, st_X10_pack_99, st_X10_pack_100, st_X10_pack_101, hg_49_30, st_X10_pack_102, st_X10_pack_105, ha_69, st_X10_pack_106, st_X10_pack_107, st_X10_pack_108, st_X10_pack_111, st_X10_pack_114, st_X10_pack_115, st_X10_pack_117, st_X10_pack_118, st_X10_pack_121, st_X10_pack_122, st_X10_pack_123, st_X10_pack_124, st_X10_pack_125, st_X10_pack_127, st_X10_pack_128, st_X10_pack_129, st_X10_pack_130, hg_49_31, st_X10_pack_131, st_X10_pack_134, ha_70, st_X10_pack_135, st_X10_pack_136, st_X10_pack_137, st_X10_pack_140, st_X10_pack_143, Nat.reduceAdd, nn_1, nn_8, nn_16, nn_24, nn_32, nn_40, nn_48, nn_suc, nn_out, nn_clamp, Int32.zero_add, gM_64, gM_65, gM_66, gM_67, gM_68, gM_69, gM_70, gM_33, gM_72, gM_73, gM_o, gM_49, gMw_64, gMw_65, gMw_66, gMw_67, gMw_68, gMw_69, gMw_70, gMw_33, gMw_72, gMw_73, Nat.zero_add, nn_r1, nn_r8, nn_r16, nn_r24, nn_r32, nn_r40, nn_add, nn_l8, show j < 8 by omega, if_true, gMx_83]
set_option maxHeartbeats 4000000 in
theorem m_pack_2_83 (hb : b + 54 ≤ 54) : ∀ m j : Nat, j + m = 5 → ∀ f : Rw,
    bc d M_X10_pack none 116 [some (.ref 49), some (.ref 83), some (.int (Int32.ofNat b)), some (.int (Int32.ofNat j))] [] (hp t (gM (hR g 83 f) w a k)) cn sn = some (.inl none, hp t (gM (hR g 83 (loopR (pk2 w b) m j f)) w a k), cn, sn) := by
  intro m
  induction m with
  | zero =>
    intro j hj f
    rw [st_X10_pack_116]
    simp (disch := omega) only [st_X10_pack_117, st_X10_pack_118, st_X10_pack_143, nn_l5, show ¬ j < 5 by omega, if_false, loopR, Nat.reduceAdd]
  | succ m ih =>
    intro j hj f
    unfold loopR
    rw [← ih (j + 1) (by omega) (pk2 w b j f), st_X10_pack_116]
    unfold pk2
    simp (disch := omega) only [st_X10_pack_0, st_X10_pack_1, st_X10_pack_2, bM_some, hg_49_33, st_X10_pack_3, cond_false, hw_83, st_X10_pack_6, st_X10_pack_7, lc_i, lc_r, lc_n, lc_j, lc_f, st_X10_pack_8, st_X10_pack_10, st_X10_pack_12, st_X10_pack_15, st_X10_pack_16, st_X10_pack_17, st_X10_pack_18, st_X10_pack_19, st_X10_pack_20, st_X10_pack_21, hg_49_25, st_X10_pack_22, st_X10_pack_25, ha_64, st_X10_pack_26, st_X10_pack_27, st_X10_pack_28, st_X10_pack_29, st_X10_pack_30, st_X10_pack_31, st_X10_pack_32, st_X10_pack_34, st_X10_pack_35, st_X10_pack_36, st_X10_pack_37, hg_49_26, st_X10_pack_38, st_X10_pack_41, ha_65, st_X10_pack_42, st_X10_pack_43, st_X10_pack_44, st_X10_pack_45, st_X10_pack_46, st_X10_pack_47, st_X10_pack_48, st_X10_pack_50, st_X10_pack_51, st_X10_pack_52, st_X10_pack_53, hg_49_27, st_X10_pack_54, st_X10_pack_57, ha_66, st_X10_pack_58, st_X10_pack_59, st_X10_pack_60, st_X10_pack_61, st_X10_pack_62, st_X10_pack_63, st_X10_pack_64, st_X10_pack_66, st_X10_pack_67, st_X10_pack_68, st_X10_pack_69, hg_49_28, st_X10_pack_70, st_X10_pack_73, ha_67, st_X10_pack_74, st_X10_pack_75, st_X10_pack_76, st_X10_pack_77, st_X10_pack_78, st_X10_pack_79, st_X10_pack_80, st_X10_pack_82, st_X10_pack_83, st_X10_pack_84, st_X10_pack_85, hg_49_29, st_X10_pack_86, st_X10_pack_89, ha_68, st_X10_pack_90, st_X10_pack_91, st_X10_pack_92, st_X10_pack_93, st_X10_pack_94, st_X10_pack_95, st_X10_pack_96, st_X10_pack_98, st_X10_pack_99, st_X10_pack_100, st_X10_pack_101, hg_49_30, st_X10_pack_102, st_X10_pack_105, ha_69, st_X10_pack_106, st_X10_pack_107, st_X10_pack_108, st_X10_pack_111, st_X10_pack_114, st_X10_pack_115, st_X10_pack_117, st_X10_pack_118, st_X10_pack_121, st_X10_pack_122, st_X10_pack_123, st_X10_pack_124, st_X10_pack_125, st_X10_pack_127, st_X10_pack_128, st_X10_pack_129, st_X10_pack_130, hg_49_31, st_X10_pack_131, st_X10_pack_134, ha_70, st_X10_pack_135, st_X10_pack_136, st_X10_pack_137, st_X10_pack_140, st_X10_pack_143, Nat.reduceAdd, nn_1, nn_8, nn_16, nn_24, nn_32, nn_40, nn_48, nn_suc, nn_out, nn_clamp, Int32.zero_add, gM_64, gM_65, gM_66, gM_67, gM_68, gM_69, gM_70, gM_33, gM_72, gM_73, gM_o, gM_49, gMw_64, gMw_65, gMw_66, gMw_67, gMw_68, gMw_69, gMw_70, gMw_33, gMw_72, gMw_73, Nat.zero_add, nn_r1, nn_r48, nn_add, nn_l5, show j < 5 by omega, if_true, gMx_83]
theorem m_pack_83 (hb : b + 54 ≤ 54) : bc d M_X10_pack none 0 [some (.ref 49), some (.ref 83), some (.int (Int32.ofNat b)), none] [] (hp t (gM g w a k)) cn sn = some (.inl none, hp t (gM (hR g 83 (packR (g.1 83) b w)) w a k), cn, sn) := by
  obtain ⟨b3, e⟩ := m_pack_1_83 (d := d) (t := t) (g := g) (w := w) (a := a) (k := k) (cn := cn) (sn := sn) hb 8 0 (by omega) (upd (g.1 83) b (w 53))
  have e2 := m_pack_2_83 (d := d) (t := t) (g := g) (w := w) (a := a) (k := k) (cn := cn) (sn := sn) hb 5 0 (by omega) (loopR (pk1 w b) 8 0 (upd (g.1 83) b (w 53)))
  rw [show Int32.ofNat 0 = (0 : Int32) from rfl] at e e2
  simp (disch := omega) only [st_X10_pack_0, st_X10_pack_1, st_X10_pack_2, st_X10_pack_3, st_X10_pack_6, st_X10_pack_7, st_X10_pack_8, bM_some, hg_49_33, hw_83, cond_false, nn_1, nn_8, nn_16, nn_24, nn_32, nn_40, nn_48, nn_suc, nn_out, nn_clamp, Int32.zero_add, gM_64, gM_65, gM_66, gM_67, gM_68, gM_69, gM_70, gM_33, gM_72, gM_73, gM_o, gM_49, gMw_64, gMw_65, gMw_66, gMw_67, gMw_68, gMw_69, gMw_70, gMw_33, gMw_72, gMw_73, Nat.zero_add, gM_hI, gM_hR, hI_R, lc_i, Nat.reduceAdd]
  rw [e]
  simp only [st_X10_pack_114, st_X10_pack_115, lc_i, Nat.reduceAdd]
  rw [e2, pk_all]
set_option maxHeartbeats 4000000 in
theorem m_unpack_1_83 (hb : b + 54 ≤ 54) : ∀ m j : Nat, j + m = 8 → ∀ w : Rw, ∃ b3 : Option Value,
    bc d M_X10_unpack none 9 [some (.ref 49), some (.ref 83), some (.int (Int32.ofNat b)), some (.int (Int32.ofNat j))] [] (hp t (gM g w a k)) cn sn =
    bc d M_X10_unpack none 114 [some (.ref 49), some (.ref 83), some (.int (Int32.ofNat b)), b3] [] (hp t (gM g (loopR (up1 (g.1 83) b) m j w) a k)) cn sn := by
  intro m
  induction m with
  | zero =>
    intro j hj f
    refine ⟨some (.int (Int32.ofNat j)), ?_⟩
    rw [st_X10_unpack_9]
    simp (disch := omega) only [st_X10_unpack_10, st_X10_unpack_12, nn_l8, show ¬ j < 8 by omega, if_false, loopR, Nat.reduceAdd]
  | succ m ih =>
    intro j hj w
    obtain ⟨b3, e⟩ := ih (j + 1) (by omega) (up1 (g.1 83) b j w)
    refine ⟨b3, ?_⟩
    unfold loopR
    rw [← e, st_X10_unpack_9]
    unfold up1
    simp (disch := omega) only [st_X10_unpack_0, st_X10_unpack_1, st_X10_unpack_2, bM_some, cond_false, ha_83, st_X10_unpack_3, hs_49_33, st_X10_unpack_4, st_X10_unpack_7, lc_i, lc_r, lc_n, lc_j, lc_f, st_X10_unpack_8, st_X10_unpack_10, st_X10_unpack_12, st_X10_unpack_15, hg_49_25, st_X10_unpack_16, st_X10_unpack_19, st_X10_unpack_20, st_X10_unpack_21, st_X10_unpack_22, st_X10_unpack_23, st_X10_unpack_24, st_X10_unpack_25, st_X10_unpack_26, hw_64, st_X10_unpack_27, st_X10_unpack_28, hg_49_26, st_X10_unpack_29, st_X10_unpack_32, st_X10_unpack_33, st_X10_unpack_34, st_X10_unpack_35, st_X10_unpack_36, st_X10_unpack_37, st_X10_unpack_39, st_X10_unpack_40, st_X10_unpack_41, st_X10_unpack_42, hw_65, st_X10_unpack_43, st_X10_unpack_44, hg_49_27, st_X10_unpack_45, st_X10_unpack_48, st_X10_unpack_49, st_X10_unpack_50, st_X10_unpack_51, st_X10_unpack_52, st_X10_unpack_53, st_X10_unpack_55, st_X10_unpack_56, st_X10_unpack_57, st_X10_unpack_58, hw_66, st_X10_unpack_59, st_X10_unpack_60, hg_49_28, st_X10_unpack_61, st_X10_unpack_64, st_X10_unpack_65, st_X10_unpack_66, st_X10_unpack_67, st_X10_unpack_68, st_X10_unpack_69, st_X10_unpack_71, st_X10_unpack_72, st_X10_unpack_73, st_X10_unpack_74, hw_67, st_X10_unpack_75, st_X10_unpack_76, hg_49_29, st_X10_unpack_77, st_X10_unpack_80, st_X10_unpack_81, st_X10_unpack_82, st_X10_unpack_83, st_X10_unpack_84, st_X10_unpack_85, st_X10_unpack_87, st_X10_unpack_88, st_X10_unpack_89, st_X10_unpack_90, hw_68, st_X10_unpack_91, st_X10_unpack_92, hg_49_30, st_X10_unpack_93, st_X10_unpack_96, st_X10_unpack_97, st_X10_unpack_98, st_X10_unpack_99, st_X10_unpack_100, st_X10_unpack_101, st_X10_unpack_103, st_X10_unpack_104, st_X10_unpack_105, st_X10_unpack_106, hw_69, st_X10_unpack_107, st_X10_unpack_108, st_X10_unpack_111, st_X10_unpack_114, st_X10_unpack_115, st_X10_unpack_117, st_X10_unpack_118, st_X10_unpack_121, hg_49_31, st_X10_unpack_122, st_X10_unpack_125, st_X10_unpack_126, st_X10_unpack_127, st_X10_unpack_128, st_X10_unpack_129, st_X10_unpack_130, st_X10_unpack_132, st_X10_unpack_133, st_X10_unpack_134, st_X10_unpack_135, hw_70, st_X10_unpack_136, st_X10_unpack_137, st_X10_unpack_140, st_X10_unpack_143, Nat.reduceAdd, nn_1, nn_8, nn_16, nn_24, nn_32, nn_40, nn_48, nn_suc, nn_out, nn_clamp, Int32.zero_add, gM_64, gM_65, gM_66, gM_67, gM_68, gM_69, gM_70, gM_33, gM_72, gM_73, gM_o, gM_49, gMw_64, gMw_65, gMw_66, gMw_67, gMw_68, gMw_69, gMw_70, gMw_33, gMw_72, gMw_73, Nat.zero_add, nn_r1, nn_r8, nn_r16, nn_r24, nn_r32, nn_r40, nn_add, nn_l8, show j < 8 by omega, if_true]
set_option maxHeartbeats 4000000 in
theorem m_unpack_2_83 (hb : b + 54 ≤ 54) : ∀ m j : Nat, j + m = 5 → ∀ w : Rw,
    bc d M_X10_unpack none 116 [some (.ref 49), some (.ref 83), some (.int (Int32.ofNat b)), some (.int (Int32.ofNat j))] [] (hp t (gM g w a k)) cn sn = some (.inl none, hp t (gM g (loopR (up2 (g.1 83) b) m j w) a k), cn, sn) := by
  intro m
  induction m with
  | zero =>
    intro j hj w
    rw [st_X10_unpack_116]
    simp (disch := omega) only [st_X10_unpack_117, st_X10_unpack_118, st_X10_unpack_143, nn_l5, show ¬ j < 5 by omega, if_false, loopR, Nat.reduceAdd]
  | succ m ih =>
    intro j hj w
    unfold loopR
    rw [← ih (j + 1) (by omega) (up2 (g.1 83) b j w), st_X10_unpack_116]
    unfold up2
    simp (disch := omega) only [st_X10_unpack_0, st_X10_unpack_1, st_X10_unpack_2, bM_some, cond_false, ha_83, st_X10_unpack_3, hs_49_33, st_X10_unpack_4, st_X10_unpack_7, lc_i, lc_r, lc_n, lc_j, lc_f, st_X10_unpack_8, st_X10_unpack_10, st_X10_unpack_12, st_X10_unpack_15, hg_49_25, st_X10_unpack_16, st_X10_unpack_19, st_X10_unpack_20, st_X10_unpack_21, st_X10_unpack_22, st_X10_unpack_23, st_X10_unpack_24, st_X10_unpack_25, st_X10_unpack_26, hw_64, st_X10_unpack_27, st_X10_unpack_28, hg_49_26, st_X10_unpack_29, st_X10_unpack_32, st_X10_unpack_33, st_X10_unpack_34, st_X10_unpack_35, st_X10_unpack_36, st_X10_unpack_37, st_X10_unpack_39, st_X10_unpack_40, st_X10_unpack_41, st_X10_unpack_42, hw_65, st_X10_unpack_43, st_X10_unpack_44, hg_49_27, st_X10_unpack_45, st_X10_unpack_48, st_X10_unpack_49, st_X10_unpack_50, st_X10_unpack_51, st_X10_unpack_52, st_X10_unpack_53, st_X10_unpack_55, st_X10_unpack_56, st_X10_unpack_57, st_X10_unpack_58, hw_66, st_X10_unpack_59, st_X10_unpack_60, hg_49_28, st_X10_unpack_61, st_X10_unpack_64, st_X10_unpack_65, st_X10_unpack_66, st_X10_unpack_67, st_X10_unpack_68, st_X10_unpack_69, st_X10_unpack_71, st_X10_unpack_72, st_X10_unpack_73, st_X10_unpack_74, hw_67, st_X10_unpack_75, st_X10_unpack_76, hg_49_29, st_X10_unpack_77, st_X10_unpack_80, st_X10_unpack_81, st_X10_unpack_82, st_X10_unpack_83, st_X10_unpack_84, st_X10_unpack_85, st_X10_unpack_87, st_X10_unpack_88, st_X10_unpack_89, st_X10_unpack_90, hw_68, st_X10_unpack_91, st_X10_unpack_92, hg_49_30, st_X10_unpack_93, st_X10_unpack_96, st_X10_unpack_97, st_X10_unpack_98, st_X10_unpack_99, st_X10_unpack_100, st_X10_unpack_101, st_X10_unpack_103, st_X10_unpack_104, st_X10_unpack_105, st_X10_unpack_106, hw_69, st_X10_unpack_107, st_X10_unpack_108, st_X10_unpack_111, st_X10_unpack_114, st_X10_unpack_115, st_X10_unpack_117, st_X10_unpack_118, st_X10_unpack_121, hg_49_31, st_X10_unpack_122, st_X10_unpack_125, st_X10_unpack_126, st_X10_unpack_127, st_X10_unpack_128, st_X10_unpack_129, st_X10_unpack_130, st_X10_unpack_132, st_X10_unpack_133, st_X10_unpack_134, st_X10_unpack_135, hw_70, st_X10_unpack_136, st_X10_unpack_137, st_X10_unpack_140, st_X10_unpack_143, Nat.reduceAdd, nn_1, nn_8, nn_16, nn_24, nn_32, nn_40, nn_48, nn_suc, nn_out, nn_clamp, Int32.zero_add, gM_64, gM_65, gM_66, gM_67, gM_68, gM_69, gM_70, gM_33, gM_72, gM_73, gM_o, gM_49, gMw_64, gMw_65, gMw_66, gMw_67, gMw_68, gMw_69, gMw_70, gMw_33, gMw_72, gMw_73, Nat.zero_add, nn_r1, nn_r48, nn_add, nn_l5, show j < 5 by omega, if_true]
theorem m_unpack_83 (hb : b + 54 ≤ 54) : bc d M_X10_unpack none 0 [some (.ref 49), some (.ref 83), some (.int (Int32.ofNat b)), none] [] (hp t (gM g w a k)) cn sn = some (.inl none, hp t (gM g (unpR (g.1 83) b) a k), cn, sn) := by
  obtain ⟨b3, e⟩ := m_unpack_1_83 (d := d) (t := t) (g := g) (a := a) (k := k) (cn := cn) (sn := sn) hb 8 0 (by omega) (upd w 53 (g.1 83 b))
  have e2 := m_unpack_2_83 (d := d) (t := t) (g := g) (a := a) (k := k) (cn := cn) (sn := sn) hb 5 0 (by omega) (loopR (up1 (g.1 83) b) 8 0 (upd w 53 (g.1 83 b)))
  rw [show Int32.ofNat 0 = (0 : Int32) from rfl] at e e2
  simp (disch := omega) only [st_X10_unpack_0, st_X10_unpack_1, st_X10_unpack_2, st_X10_unpack_3, st_X10_unpack_4, st_X10_unpack_7, st_X10_unpack_8, bM_some, hs_49_33, ha_83, cond_false, nn_1, nn_8, nn_16, nn_24, nn_32, nn_40, nn_48, nn_suc, nn_out, nn_clamp, Int32.zero_add, gM_64, gM_65, gM_66, gM_67, gM_68, gM_69, gM_70, gM_33, gM_72, gM_73, gM_o, gM_49, gMw_64, gMw_65, gMw_66, gMw_67, gMw_68, gMw_69, gMw_70, gMw_33, gMw_72, gMw_73, Nat.zero_add, lc_i, Nat.reduceAdd]
  rw [e]
  simp only [st_X10_unpack_114, st_X10_unpack_115, lc_i, Nat.reduceAdd]
  rw [e2, gM_ext (fun i hi => up_all hi)]
theorem gMx_71 {i : Nat} {x : Int32} : hI (gM (hR g 71 f) w a k) 71 i x = gM (hR g 71 (upd f i x)) w a k := by
  rw [gM_hI (by omega), hI_R, hR_same, hR_hR]
set_option maxHeartbeats 4000000 in
theorem m_pack_1_71 (hb : b + 54 ≤ 2160) : ∀ m j : Nat, j + m = 8 → ∀ f : Rw, ∃ b3 : Option Value,
    bc d M_X10_pack none 9 [some (.ref 49), some (.ref 71), some (.int (Int32.ofNat b)), some (.int (Int32.ofNat j))] [] (hp t (gM (hR g 71 f) w a k)) cn sn =
    bc d M_X10_pack none 114 [some (.ref 49), some (.ref 71), some (.int (Int32.ofNat b)), b3] [] (hp t (gM (hR g 71 (loopR (pk1 w b) m j f)) w a k)) cn sn := by
  intro m
  induction m with
  | zero =>
    intro j hj f
    refine ⟨some (.int (Int32.ofNat j)), ?_⟩
    rw [st_X10_pack_9]
    simp (disch := omega) only [st_X10_pack_10, st_X10_pack_12, nn_l8, show ¬ j < 8 by omega, if_false, loopR, Nat.reduceAdd]
  | succ m ih =>
    intro j hj f
    obtain ⟨b3, e⟩ := ih (j + 1) (by omega) (pk1 w b j f)
    refine ⟨b3, ?_⟩
    unfold loopR
    rw [← e, st_X10_pack_9]
    unfold pk1
    simp (disch := omega) only [st_X10_pack_0, st_X10_pack_1, st_X10_pack_2, bM_some, hg_49_33, st_X10_pack_3, cond_false, hw_71, st_X10_pack_6, st_X10_pack_7, lc_i, lc_r, lc_n, lc_j, lc_f, st_X10_pack_8, st_X10_pack_10, st_X10_pack_12, st_X10_pack_15, st_X10_pack_16, st_X10_pack_17, st_X10_pack_18, st_X10_pack_19, st_X10_pack_20, st_X10_pack_21, hg_49_25, st_X10_pack_22, st_X10_pack_25, ha_64, st_X10_pack_26, st_X10_pack_27, st_X10_pack_28, st_X10_pack_29, st_X10_pack_30, st_X10_pack_31, st_X10_pack_32, st_X10_pack_34, st_X10_pack_35, st_X10_pack_36, st_X10_pack_37, hg_49_26, st_X10_pack_38, st_X10_pack_41, ha_65, st_X10_pack_42, st_X10_pack_43, st_X10_pack_44, st_X10_pack_45, st_X10_pack_46, st_X10_pack_47, st_X10_pack_48, st_X10_pack_50, st_X10_pack_51, st_X10_pack_52, st_X10_pack_53, hg_49_27, st_X10_pack_54, st_X10_pack_57, ha_66, st_X10_pack_58, st_X10_pack_59, st_X10_pack_60, st_X10_pack_61, st_X10_pack_62, st_X10_pack_63, st_X10_pack_64, st_X10_pack_66, st_X10_pack_67, st_X10_pack_68, st_X10_pack_69, hg_49_28, st_X10_pack_70, st_X10_pack_73, ha_67, st_X10_pack_74, st_X10_pack_75, st_X10_pack_76, st_X10_pack_77, st_X10_pack_78, st_X10_pack_79, st_X10_pack_80, st_X10_pack_82, st_X10_pack_83, st_X10_pack_84, st_X10_pack_85, hg_49_29, st_X10_pack_86, st_X10_pack_89, ha_68, st_X10_pack_90, st_X10_pack_91, st_X10_pack_92, st_X10_pack_93, st_X10_pack_94, st_X10_pack_95, st_X10_pack_96, st_X10_pack_98, st_X10_pack_99, st_X10_pack_100, st_X10_pack_101, hg_49_30, st_X10_pack_102, st_X10_pack_105, ha_69, st_X10_pack_106, st_X10_pack_107, st_X10_pack_108, st_X10_pack_111, st_X10_pack_114, st_X10_pack_115, st_X10_pack_117, st_X10_pack_118, st_X10_pack_121, st_X10_pack_122, st_X10_pack_123, st_X10_pack_124, st_X10_pack_125, st_X10_pack_127, st_X10_pack_128, st_X10_pack_129, st_X10_pack_130, hg_49_31, st_X10_pack_131, st_X10_pack_134, ha_70, st_X10_pack_135, st_X10_pack_136, st_X10_pack_137, st_X10_pack_140, st_X10_pack_143, Nat.reduceAdd, nn_1, nn_8, nn_16, nn_24, nn_32, nn_40, nn_48, nn_suc, nn_out, nn_clamp, Int32.zero_add, gM_64, gM_65, gM_66, gM_67, gM_68, gM_69, gM_70, gM_33, gM_72, gM_73, gM_o, gM_49, gMw_64, gMw_65, gMw_66, gMw_67, gMw_68, gMw_69, gMw_70, gMw_33, gMw_72, gMw_73, Nat.zero_add, nn_r1, nn_r8, nn_r16, nn_r24, nn_r32, nn_r40, nn_add, nn_l8, show j < 8 by omega, if_true, gMx_71]
set_option maxHeartbeats 4000000 in
theorem m_pack_2_71 (hb : b + 54 ≤ 2160) : ∀ m j : Nat, j + m = 5 → ∀ f : Rw,
    bc d M_X10_pack none 116 [some (.ref 49), some (.ref 71), some (.int (Int32.ofNat b)), some (.int (Int32.ofNat j))] [] (hp t (gM (hR g 71 f) w a k)) cn sn = some (.inl none, hp t (gM (hR g 71 (loopR (pk2 w b) m j f)) w a k), cn, sn) := by
  intro m
  induction m with
  | zero =>
    intro j hj f
    rw [st_X10_pack_116]
    simp (disch := omega) only [st_X10_pack_117, st_X10_pack_118, st_X10_pack_143, nn_l5, show ¬ j < 5 by omega, if_false, loopR, Nat.reduceAdd]
  | succ m ih =>
    intro j hj f
    unfold loopR
    rw [← ih (j + 1) (by omega) (pk2 w b j f), st_X10_pack_116]
    unfold pk2
    simp (disch := omega) only [st_X10_pack_0, st_X10_pack_1, st_X10_pack_2, bM_some, hg_49_33, st_X10_pack_3, cond_false, hw_71, st_X10_pack_6, st_X10_pack_7, lc_i, lc_r, lc_n, lc_j, lc_f, st_X10_pack_8, st_X10_pack_10, st_X10_pack_12, st_X10_pack_15, st_X10_pack_16, st_X10_pack_17, st_X10_pack_18, st_X10_pack_19, st_X10_pack_20, st_X10_pack_21, hg_49_25, st_X10_pack_22, st_X10_pack_25, ha_64, st_X10_pack_26, st_X10_pack_27, st_X10_pack_28, st_X10_pack_29, st_X10_pack_30, st_X10_pack_31, st_X10_pack_32, st_X10_pack_34, st_X10_pack_35, st_X10_pack_36, st_X10_pack_37, hg_49_26, st_X10_pack_38, st_X10_pack_41, ha_65, st_X10_pack_42, st_X10_pack_43, st_X10_pack_44, st_X10_pack_45, st_X10_pack_46, st_X10_pack_47, st_X10_pack_48, st_X10_pack_50, st_X10_pack_51, st_X10_pack_52, st_X10_pack_53, hg_49_27, st_X10_pack_54, st_X10_pack_57, ha_66, st_X10_pack_58, st_X10_pack_59, st_X10_pack_60, st_X10_pack_61, st_X10_pack_62, st_X10_pack_63, st_X10_pack_64, st_X10_pack_66, st_X10_pack_67, st_X10_pack_68, st_X10_pack_69, hg_49_28, st_X10_pack_70, st_X10_pack_73, ha_67, st_X10_pack_74, st_X10_pack_75, st_X10_pack_76, st_X10_pack_77, st_X10_pack_78, st_X10_pack_79, st_X10_pack_80, st_X10_pack_82, st_X10_pack_83, st_X10_pack_84, st_X10_pack_85, hg_49_29, st_X10_pack_86, st_X10_pack_89, ha_68, st_X10_pack_90, st_X10_pack_91, st_X10_pack_92, st_X10_pack_93, st_X10_pack_94, st_X10_pack_95, st_X10_pack_96, st_X10_pack_98, st_X10_pack_99, st_X10_pack_100, st_X10_pack_101, hg_49_30, st_X10_pack_102, st_X10_pack_105, ha_69, st_X10_pack_106, st_X10_pack_107, st_X10_pack_108, st_X10_pack_111, st_X10_pack_114, st_X10_pack_115, st_X10_pack_117, st_X10_pack_118, st_X10_pack_121, st_X10_pack_122, st_X10_pack_123, st_X10_pack_124, st_X10_pack_125, st_X10_pack_127, st_X10_pack_128, st_X10_pack_129, st_X10_pack_130, hg_49_31, st_X10_pack_131, st_X10_pack_134, ha_70, st_X10_pack_135, st_X10_pack_136, st_X10_pack_137, st_X10_pack_140, st_X10_pack_143, Nat.reduceAdd, nn_1, nn_8, nn_16, nn_24, nn_32, nn_40, nn_48, nn_suc, nn_out, nn_clamp, Int32.zero_add, gM_64, gM_65, gM_66, gM_67, gM_68, gM_69, gM_70, gM_33, gM_72, gM_73, gM_o, gM_49, gMw_64, gMw_65, gMw_66, gMw_67, gMw_68, gMw_69, gMw_70, gMw_33, gMw_72, gMw_73, Nat.zero_add, nn_r1, nn_r48, nn_add, nn_l5, show j < 5 by omega, if_true, gMx_71]
theorem m_pack_71 (hb : b + 54 ≤ 2160) : bc d M_X10_pack none 0 [some (.ref 49), some (.ref 71), some (.int (Int32.ofNat b)), none] [] (hp t (gM g w a k)) cn sn = some (.inl none, hp t (gM (hR g 71 (packR (g.1 71) b w)) w a k), cn, sn) := by
  obtain ⟨b3, e⟩ := m_pack_1_71 (d := d) (t := t) (g := g) (w := w) (a := a) (k := k) (cn := cn) (sn := sn) hb 8 0 (by omega) (upd (g.1 71) b (w 53))
  have e2 := m_pack_2_71 (d := d) (t := t) (g := g) (w := w) (a := a) (k := k) (cn := cn) (sn := sn) hb 5 0 (by omega) (loopR (pk1 w b) 8 0 (upd (g.1 71) b (w 53)))
  rw [show Int32.ofNat 0 = (0 : Int32) from rfl] at e e2
  simp (disch := omega) only [st_X10_pack_0, st_X10_pack_1, st_X10_pack_2, st_X10_pack_3, st_X10_pack_6, st_X10_pack_7, st_X10_pack_8, bM_some, hg_49_33, hw_71, cond_false, nn_1, nn_8, nn_16, nn_24, nn_32, nn_40, nn_48, nn_suc, nn_out, nn_clamp, Int32.zero_add, gM_64, gM_65, gM_66, gM_67, gM_68, gM_69, gM_70, gM_33, gM_72, gM_73, gM_o, gM_49, gMw_64, gMw_65, gMw_66, gMw_67, gMw_68, gMw_69, gMw_70, gMw_33, gMw_72, gMw_73, Nat.zero_add, gM_hI, gM_hR, hI_R, lc_i, Nat.reduceAdd]
  rw [e]
  simp only [st_X10_pack_114, st_X10_pack_115, lc_i, Nat.reduceAdd]
  rw [e2, pk_all]
set_option maxHeartbeats 4000000 in
theorem m_unpack_1_71 (hb : b + 54 ≤ 2160) : ∀ m j : Nat, j + m = 8 → ∀ w : Rw, ∃ b3 : Option Value,
    bc d M_X10_unpack none 9 [some (.ref 49), some (.ref 71), some (.int (Int32.ofNat b)), some (.int (Int32.ofNat j))] [] (hp t (gM g w a k)) cn sn =
    bc d M_X10_unpack none 114 [some (.ref 49), some (.ref 71), some (.int (Int32.ofNat b)), b3] [] (hp t (gM g (loopR (up1 (g.1 71) b) m j w) a k)) cn sn := by
  intro m
  induction m with
  | zero =>
    intro j hj f
    refine ⟨some (.int (Int32.ofNat j)), ?_⟩
    rw [st_X10_unpack_9]
    simp (disch := omega) only [st_X10_unpack_10, st_X10_unpack_12, nn_l8, show ¬ j < 8 by omega, if_false, loopR, Nat.reduceAdd]
  | succ m ih =>
    intro j hj w
    obtain ⟨b3, e⟩ := ih (j + 1) (by omega) (up1 (g.1 71) b j w)
    refine ⟨b3, ?_⟩
    unfold loopR
    rw [← e, st_X10_unpack_9]
    unfold up1
    simp (disch := omega) only [st_X10_unpack_0, st_X10_unpack_1, st_X10_unpack_2, bM_some, cond_false, ha_71, st_X10_unpack_3, hs_49_33, st_X10_unpack_4, st_X10_unpack_7, lc_i, lc_r, lc_n, lc_j, lc_f, st_X10_unpack_8, st_X10_unpack_10, st_X10_unpack_12, st_X10_unpack_15, hg_49_25, st_X10_unpack_16, st_X10_unpack_19, st_X10_unpack_20, st_X10_unpack_21, st_X10_unpack_22, st_X10_unpack_23, st_X10_unpack_24, st_X10_unpack_25, st_X10_unpack_26, hw_64, st_X10_unpack_27, st_X10_unpack_28, hg_49_26, st_X10_unpack_29, st_X10_unpack_32, st_X10_unpack_33, st_X10_unpack_34, st_X10_unpack_35, st_X10_unpack_36, st_X10_unpack_37, st_X10_unpack_39, st_X10_unpack_40, st_X10_unpack_41, st_X10_unpack_42, hw_65, st_X10_unpack_43, st_X10_unpack_44, hg_49_27, st_X10_unpack_45, st_X10_unpack_48, st_X10_unpack_49, st_X10_unpack_50, st_X10_unpack_51, st_X10_unpack_52, st_X10_unpack_53, st_X10_unpack_55, st_X10_unpack_56, st_X10_unpack_57, st_X10_unpack_58, hw_66, st_X10_unpack_59, st_X10_unpack_60, hg_49_28, st_X10_unpack_61, st_X10_unpack_64, st_X10_unpack_65, st_X10_unpack_66, st_X10_unpack_67, st_X10_unpack_68, st_X10_unpack_69, st_X10_unpack_71, st_X10_unpack_72, st_X10_unpack_73, st_X10_unpack_74, hw_67, st_X10_unpack_75, st_X10_unpack_76, hg_49_29, st_X10_unpack_77, st_X10_unpack_80, st_X10_unpack_81, st_X10_unpack_82, st_X10_unpack_83, st_X10_unpack_84, st_X10_unpack_85, st_X10_unpack_87, st_X10_unpack_88, st_X10_unpack_89, st_X10_unpack_90, hw_68, st_X10_unpack_91, st_X10_unpack_92, hg_49_30, st_X10_unpack_93, st_X10_unpack_96, st_X10_unpack_97, st_X10_unpack_98, st_X10_unpack_99, st_X10_unpack_100, st_X10_unpack_101, st_X10_unpack_103, st_X10_unpack_104, st_X10_unpack_105, st_X10_unpack_106, hw_69, st_X10_unpack_107, st_X10_unpack_108, st_X10_unpack_111, st_X10_unpack_114, st_X10_unpack_115, st_X10_unpack_117, st_X10_unpack_118, st_X10_unpack_121, hg_49_31, st_X10_unpack_122, st_X10_unpack_125, st_X10_unpack_126, st_X10_unpack_127, st_X10_unpack_128, st_X10_unpack_129, st_X10_unpack_130, st_X10_unpack_132, st_X10_unpack_133, st_X10_unpack_134, st_X10_unpack_135, hw_70, st_X10_unpack_136, st_X10_unpack_137, st_X10_unpack_140, st_X10_unpack_143, Nat.reduceAdd, nn_1, nn_8, nn_16, nn_24, nn_32, nn_40, nn_48, nn_suc, nn_out, nn_clamp, Int32.zero_add, gM_64, gM_65, gM_66, gM_67, gM_68, gM_69, gM_70, gM_33, gM_72, gM_73, gM_o, gM_49, gMw_64, gMw_65, gMw_66, gMw_67, gMw_68, gMw_69, gMw_70, gMw_33, gMw_72, gMw_73, Nat.zero_add, nn_r1, nn_r8, nn_r16, nn_r24, nn_r32, nn_r40, nn_add, nn_l8, show j < 8 by omega, if_true]
set_option maxHeartbeats 4000000 in
theorem m_unpack_2_71 (hb : b + 54 ≤ 2160) : ∀ m j : Nat, j + m = 5 → ∀ w : Rw,
    bc d M_X10_unpack none 116 [some (.ref 49), some (.ref 71), some (.int (Int32.ofNat b)), some (.int (Int32.ofNat j))] [] (hp t (gM g w a k)) cn sn = some (.inl none, hp t (gM g (loopR (up2 (g.1 71) b) m j w) a k), cn, sn) := by
  intro m
  induction m with
  | zero =>
    intro j hj w
    rw [st_X10_unpack_116]
    simp (disch := omega) only [st_X10_unpack_117, st_X10_unpack_118, st_X10_unpack_143, nn_l5, show ¬ j < 5 by omega, if_false, loopR, Nat.reduceAdd]
  | succ m ih =>
    intro j hj w
    unfold loopR
    rw [← ih (j + 1) (by omega) (up2 (g.1 71) b j w), st_X10_unpack_116]
    unfold up2
    simp (disch := omega) only [st_X10_unpack_0, st_X10_unpack_1, st_X10_unpack_2, bM_some, cond_false, ha_71, st_X10_unpack_3, hs_49_33, st_X10_unpack_4, st_X10_unpack_7, lc_i, lc_r, lc_n, lc_j, lc_f, st_X10_unpack_8, st_X10_unpack_10, st_X10_unpack_12, st_X10_unpack_15, hg_49_25, st_X10_unpack_16, st_X10_unpack_19, st_X10_unpack_20, st_X10_unpack_21, st_X10_unpack_22, st_X10_unpack_23, st_X10_unpack_24, st_X10_unpack_25, st_X10_unpack_26, hw_64, st_X10_unpack_27, st_X10_unpack_28, hg_49_26, st_X10_unpack_29, st_X10_unpack_32, st_X10_unpack_33, st_X10_unpack_34, st_X10_unpack_35, st_X10_unpack_36, st_X10_unpack_37, st_X10_unpack_39, st_X10_unpack_40, st_X10_unpack_41, st_X10_unpack_42, hw_65, st_X10_unpack_43, st_X10_unpack_44, hg_49_27, st_X10_unpack_45, st_X10_unpack_48, st_X10_unpack_49, st_X10_unpack_50, st_X10_unpack_51, st_X10_unpack_52, st_X10_unpack_53, st_X10_unpack_55, st_X10_unpack_56, st_X10_unpack_57, st_X10_unpack_58, hw_66, st_X10_unpack_59, st_X10_unpack_60, hg_49_28, st_X10_unpack_61, st_X10_unpack_64, st_X10_unpack_65, st_X10_unpack_66, st_X10_unpack_67, st_X10_unpack_68, st_X10_unpack_69, st_X10_unpack_71, st_X10_unpack_72, st_X10_unpack_73, st_X10_unpack_74, hw_67, st_X10_unpack_75, st_X10_unpack_76, hg_49_29, st_X10_unpack_77, st_X10_unpack_80, st_X10_unpack_81, st_X10_unpack_82, st_X10_unpack_83, st_X10_unpack_84, st_X10_unpack_85, st_X10_unpack_87, st_X10_unpack_88, st_X10_unpack_89, st_X10_unpack_90, hw_68, st_X10_unpack_91, st_X10_unpack_92, hg_49_30, st_X10_unpack_93, st_X10_unpack_96, st_X10_unpack_97, st_X10_unpack_98, st_X10_unpack_99, st_X10_unpack_100, st_X10_unpack_101, st_X10_unpack_103, st_X10_unpack_104, st_X10_unpack_105, st_X10_unpack_106, hw_69, st_X10_unpack_107, st_X10_unpack_108, st_X10_unpack_111, st_X10_unpack_114, st_X10_unpack_115, st_X10_unpack_117, st_X10_unpack_118, st_X10_unpack_121, hg_49_31, st_X10_unpack_122, st_X10_unpack_125, st_X10_unpack_126, st_X10_unpack_127, st_X10_unpack_128, st_X10_unpack_129, st_X10_unpack_130, st_X10_unpack_132, st_X10_unpack_133, st_X10_unpack_134, st_X10_unpack_135, hw_70, st_X10_unpack_136, st_X10_unpack_137, st_X10_unpack_140, st_X10_unpack_143, Nat.reduceAdd, nn_1, nn_8, nn_16, nn_24, nn_32, nn_40, nn_48, nn_suc, nn_out, nn_clamp, Int32.zero_add, gM_64, gM_65, gM_66, gM_67, gM_68, gM_69, gM_70, gM_33, gM_72, gM_73, gM_o, gM_49, gMw_64, gMw_65, gMw_66, gMw_67, gMw_68, gMw_69, gMw_70, gMw_33, gMw_72, gMw_73, Nat.zero_add, nn_r1, nn_r48, nn_add, nn_l5, show j < 5 by omega, if_true]
theorem m_unpack_71 (hb : b + 54 ≤ 2160) : bc d M_X10_unpack none 0 [some (.ref 49), some (.ref 71), some (.int (Int32.ofNat b)), none] [] (hp t (gM g w a k)) cn sn = some (.inl none, hp t (gM g (unpR (g.1 71) b) a k), cn, sn) := by
  obtain ⟨b3, e⟩ := m_unpack_1_71 (d := d) (t := t) (g := g) (a := a) (k := k) (cn := cn) (sn := sn) hb 8 0 (by omega) (upd w 53 (g.1 71 b))
  have e2 := m_unpack_2_71 (d := d) (t := t) (g := g) (a := a) (k := k) (cn := cn) (sn := sn) hb 5 0 (by omega) (loopR (up1 (g.1 71) b) 8 0 (upd w 53 (g.1 71 b)))
  rw [show Int32.ofNat 0 = (0 : Int32) from rfl] at e e2
  simp (disch := omega) only [st_X10_unpack_0, st_X10_unpack_1, st_X10_unpack_2, st_X10_unpack_3, st_X10_unpack_4, st_X10_unpack_7, st_X10_unpack_8, bM_some, hs_49_33, ha_71, cond_false, nn_1, nn_8, nn_16, nn_24, nn_32, nn_40, nn_48, nn_suc, nn_out, nn_clamp, Int32.zero_add, gM_64, gM_65, gM_66, gM_67, gM_68, gM_69, gM_70, gM_33, gM_72, gM_73, gM_o, gM_49, gMw_64, gMw_65, gMw_66, gMw_67, gMw_68, gMw_69, gMw_70, gMw_33, gMw_72, gMw_73, Nat.zero_add, lc_i, Nat.reduceAdd]
  rw [e]
  simp only [st_X10_unpack_114, st_X10_unpack_115, lc_i, Nat.reduceAdd]
  rw [e2, gM_ext (fun i hi => up_all hi)]
end PACK
