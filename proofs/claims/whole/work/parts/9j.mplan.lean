/-! ===== soonest: the reference ===== -/
def gY (g : hG) (P B R : Rw) (o : Int32) : hG := hR (hR (hR (hI g 49 42 o) 75 P) 76 B) 77 R
def soI (q : Nat × Int32 × Rw) : Int32 := if q.2.1 = -1 then 100000 else q.2.1
def kI (a : Nat) : Int32 := Int32.ofNat a - 1
section MPLAN
variable {d : Nat} {t : List px_E} {g : hG} {N S D L T cn sn dd : Nat} {w a k P B R x' : Rw} {o x : Int32} {K : Kt} {q : Nat × Int32 × Rw}
theorem MK_gY (hM : MK K N S D L g) : MK K N S D L (gY g P B R o) := MK_hR (by omega) (MK_hR (by omega) (MK_hR (by omega) (MK_hI (by omega) hM)))
theorem gY_75 : (gY g P B R o).1 75 = P := rfl
theorem gY_76 : (gY g P B R o).1 76 = B := rfl
theorem gY_77 : (gY g P B R o).1 77 = R := rfl
theorem gY_42 : (gY g P B R o).1 49 42 = o := rfl
theorem gY_i75 {i : Nat} : hI (gY g P B R o) 75 i x = gY g (upd P i x) B R o := by
  apply hG_ext
  · intro c j
    simp only [gY, hR_at, hI_at, hJ_at, hR_2, hI_2, hJ_1, hJ_22, upd_at]
    (repeat' split) <;> first | rfl | (exfalso; omega)
  · intro c j; rfl
  · rfl
theorem gY_i76 {i : Nat} : hI (gY g P B R o) 76 i x = gY g P (upd B i x) R o := by
  apply hG_ext
  · intro c j
    simp only [gY, hR_at, hI_at, hJ_at, hR_2, hI_2, hJ_1, hJ_22, upd_at]
    (repeat' split) <;> first | rfl | (exfalso; omega)
  · intro c j; rfl
  · rfl
theorem gY_r77 : hR (gY g P B R o) 77 x' = gY g P B x' o := by unfold gY; rw [hR_hR]
theorem gY_o : hI (gY g P B R o) 49 42 x = gY g P B R x := by
  apply hG_ext
  · intro c j
    simp only [gY, hR_at, hI_at, hJ_at, hR_2, hI_2, hJ_1, hJ_22]
    (repeat' split) <;> first | rfl | (exfalso; omega)
  · intro c j; rfl
  · rfl
theorem gY_eta : gY g (g.1 75) (g.1 76) (g.1 77) (g.1 49 42) = g := by
  unfold gY
  rw [hI_self', hR_self, hR_self, hR_self]
theorem so_pred (hq : QI q) : px_min 60 (soI q - 1) = Int32.ofNat q.1 := by
  unfold soI
  rcases hq with ⟨h1, h2⟩ | ⟨h1, h2⟩
  · rw [if_pos h1, h2]; decide
  · rw [if_neg (by rw [h1, nn_nneg (by omega)]; exact fun z => z), h1, nn_p1 (by omega), show (60 : Int32) = Int32.ofNat 60 from rfl, nn_min (by omega) (by omega)]
    congr 1; omega
set_option maxHeartbeats 4000000 in
theorem gl_1 (hM : MK K N S D L g) (hK : KN K N S D L) {w0 : Rw} {a4 a5 : Option Value} : ∀ m j : Nat, j + m = N →
    bc d M_X10_goPlaces none 21 [some (.ref 49), some (.int (Int32.ofNat dd)), some (.int (Int32.ofNat S)), some (.int (Int32.ofNat j)), a4, a5] [] (hp t (gM g (stK j w0) a k)) cn sn =
    bc d M_X10_goPlaces none 44 [some (.ref 49), some (.int (Int32.ofNat dd)), some (.int (Int32.ofNat S)), some (.int (Int32.ofNat N)), a4, a5] [] (hp t (gM g (stK N w0) a k)) cn sn := by
  have h8 := hK.2.1
  intro m
  induction m with
  | zero =>
    intro j hj
    obtain rfl : j = N := by omega
    rw [st_X10_goPlaces_21]
    simp (disch := omega) only [st_X10_goPlaces_22, st_X10_goPlaces_23, st_X10_goPlaces_26, st_X10_goPlaces_27, st_X10_goPlaces_28, bM_some, hg_49_3, ha_52, gM_o, hM.n hK, nn_oc0, nn_c0, cond_false, nn_lt, Nat.lt_irrefl, if_false, Nat.reduceAdd]
  | succ m ih =>
    intro j hj
    rw [← ih (j + 1) (by omega), st_X10_goPlaces_21, stK_suc]
    simp (disch := omega) only [st_X10_goPlaces_22, st_X10_goPlaces_23, st_X10_goPlaces_26, st_X10_goPlaces_27, st_X10_goPlaces_28, st_X10_goPlaces_31, st_X10_goPlaces_32, st_X10_goPlaces_35, st_X10_goPlaces_36, st_X10_goPlaces_37, st_X10_goPlaces_38, st_X10_goPlaces_41, bM_some, hg_49_3, hg_49_25, ha_52, hw_64, gM_o, gMw_64, Nat.zero_add, hM.n hK, nn_oc0, nn_c0, nn_out, nn_clamp, cond_false, nn_lt, show j < N by omega, if_true, lc_r, lc_i, nn_r1, Nat.reduceAdd]
set_option maxHeartbeats 4000000 in
theorem gl_2 (hK : KN K N S D L) (hP : ∀ e, e < S → P e = -1 ∨ (0 ≤ (P e).toInt ∧ (P e).toInt < N)) {a4 a5 : Option Value} : ∀ m i : Nat, i + m = S → ∀ w : Rw,
    bc d M_X10_goPlaces none 46 [some (.ref 49), some (.int (Int32.ofNat dd)), some (.int (Int32.ofNat S)), some (.int (Int32.ofNat i)), a4, a5] [] (hp t (gM (gY g P B R o) w a k)) cn sn =
    bc d M_X10_goPlaces none 79 [some (.ref 49), some (.int (Int32.ofNat dd)), some (.int (Int32.ofNat S)), some (.int (Int32.ofNat S)), a4, a5] [] (hp t (gM (gY g P B R o) (stP m i P w) a k)) cn sn := by
  have h4 := hK.2.2.2.1
  have h8 := hK.2.1
  intro m
  induction m with
  | zero =>
    intro i hi w
    obtain rfl : i = S := by omega
    rw [st_X10_goPlaces_46]
    simp (disch := omega) only [st_X10_goPlaces_47, st_X10_goPlaces_48, nn_lt, Nat.lt_irrefl, if_false, stP, Nat.reduceAdd]
  | succ m ih =>
    intro i hi w
    unfold stP
    rw [← ih (i + 1) (by omega), st_X10_goPlaces_46]
    by_cases h : P i = -1
    · simp (disch := omega) only [st_X10_goPlaces_47, st_X10_goPlaces_48, st_X10_goPlaces_51, st_X10_goPlaces_52, st_X10_goPlaces_55, st_X10_goPlaces_56, st_X10_goPlaces_57, st_X10_goPlaces_58, st_X10_goPlaces_73, st_X10_goPlaces_76, bM_some, hg_49_39, ha_75, gM_o, gY_75, nn_lt, show i < S by omega, if_true, nn_out, nn_clamp, cond_false, h, lc_r, lc_i, nn_r1, Nat.reduceAdd]
    · rcases hP i (by omega) with q | q
      · exact absurd q h
      · have ho : px_out (P i) 8 = false := ii_out q.1 (by omega)
        have hc := ii_clamp (a := P i)
        simp (disch := omega) only [st_X10_goPlaces_47, st_X10_goPlaces_48, st_X10_goPlaces_51, st_X10_goPlaces_52, st_X10_goPlaces_55, st_X10_goPlaces_56, st_X10_goPlaces_57, st_X10_goPlaces_58, st_X10_goPlaces_61, st_X10_goPlaces_62, st_X10_goPlaces_65, st_X10_goPlaces_66, st_X10_goPlaces_69, st_X10_goPlaces_70, st_X10_goPlaces_71, st_X10_goPlaces_72, st_X10_goPlaces_73, st_X10_goPlaces_76, bM_some, hg_49_39, hg_49_25, ha_75, hw_64, gM_o, gMw_64, Nat.zero_add, gY_75, nn_lt, show i < S by omega, if_true, if_false, nn_out, nn_clamp, ho, cond_false, h, lc_r, lc_i, nn_r1, Nat.reduceAdd]
set_option maxHeartbeats 4000000 in
theorem gl_3 (hS : S ≤ 4) {y3 : Int32} {a5 : Option Value} : ∀ m i : Nat, i + m = S → ∀ B : Rw, ∃ B' : Rw, (∀ e, B' e = if i ≤ e ∧ e < S then P e else B e) ∧
    bc d M_X10_goPlaces none 119 [some (.ref 49), some (.int (Int32.ofNat dd)), some (.int (Int32.ofNat S)), some (.int y3), some (.int (Int32.ofNat i)), a5] [] (hp t (gM (gY g P B R o) w a k)) cn sn = some (.inl none, hp t (gM (gY g P B' R o) w a k), cn, sn) := by
  intro m
  induction m with
  | zero =>
    intro i hi B
    refine ⟨B, fun e => by rw [if_neg (by omega)], ?_⟩
    rw [st_X10_goPlaces_119]
    simp (disch := omega) only [st_X10_goPlaces_121, st_X10_goPlaces_122, st_X10_goPlaces_145, nn_lt, show ¬ i < S by omega, if_false, Nat.reduceAdd]
  | succ m ih =>
    intro i hi B
    obtain ⟨B', e1, e2⟩ := ih (i + 1) (by omega) (upd B i (P i))
    refine ⟨B', fun e => ?_, ?_⟩
    · rw [e1 e, upd_at]
      by_cases h : i + 1 ≤ e ∧ e < S
      · rw [if_pos h, if_pos (by omega)]
      · rw [if_neg h]
        by_cases h2 : e = i
        · rw [if_pos h2, if_pos (by omega), h2]
        · rw [if_neg h2, if_neg (by omega)]
    · rw [← e2, st_X10_goPlaces_119]
      simp (disch := omega) only [st_X10_goPlaces_121, st_X10_goPlaces_122, st_X10_goPlaces_125, st_X10_goPlaces_126, st_X10_goPlaces_129, st_X10_goPlaces_131, st_X10_goPlaces_132, st_X10_goPlaces_135, st_X10_goPlaces_137, st_X10_goPlaces_138, st_X10_goPlaces_139, st_X10_goPlaces_142, bM_some, hg_49_39, hg_49_40, ha_75, hw_76, gM_o, gM_hI, gY_75, gY_i76, nn_lt, show i < S by omega, if_true, nn_out, nn_clamp, cond_false, lc_r, lc_i, nn_r1, Nat.reduceAdd]
set_option maxHeartbeats 8000000 in
theorem gp_leaf (hM : MK K N S D L g) (hK : KN K N S D L) (hO : KO K N S D L) (hR' : RI K N S 9999 w) (hd : dd < D) (hP : ∀ e, e < S → P e = -1 ∨ (0 ≤ (P e).toInt ∧ (P e).toInt < N)) (hq : QI q) (hB : ∀ i, i < 4 → B i = q.2.2 i) : ∃ B' R' a' k' : Rw, (∀ i, i < 4 → B' i = (lfS (minR K N D L) N S dd w P q).2.2 i) ∧
    bc (d + 5) M_X10_goPlaces none 0 [some (.ref 49), some (.int (Int32.ofNat dd)), some (.int (Int32.ofNat S)), none, none, none] [] (hp t (gM (gY g P B R (soI q)) w a k)) cn sn = some (.inl none, hp t (gM (gY g P B' R' (soI (lfS (minR K N D L) N S dd w P q))) w a' k'), cn, sn) := by
  have h8 := hK.2.1
  have h4 := hK.2.2.2.1
  have hq60 := QI_le hq
  have hsp := so_pred hq
  have ep := m_pack_77 (d := d + 4) (t := t) (g := gY g P B R (soI q)) (w := w) (a := a) (k := k) (cn := 0) (sn := 0) (b := 0) (by omega)
  rw [gY_r77, gY_77, show Int32.ofNat 0 = (0 : Int32) from rfl] at ep
  generalize hR1 : packR R 0 w = R1 at ep
  have e1 := gl_1 (d := d + 5) (t := t) (g := gY g P B R1 (soI q)) (a := a) (k := k) (dd := dd) (cn := cn) (sn := sn) (MK_gY hM) hK (w0 := w) (a4 := none) (a5 := none) N 0 (by omega)
  have e0 : stK 0 w = w := by funext i; unfold stK; rw [if_neg (by omega)]
  rw [e0, show Int32.ofNat 0 = (0 : Int32) from rfl] at e1
  have e2 := gl_2 (d := d + 5) (t := t) (g := g) (P := P) (B := B) (R := R1) (o := soI q) (a := a) (k := k) (dd := dd) (cn := cn) (sn := sn) hK hP (a4 := none) (a5 := none) S 0 (by omega) (stK N w)
  rw [show Int32.ofNat 0 = (0 : Int32) from rfl] at e2
  obtain ⟨s1, s2⟩ := stR_RI hP h4 h8 hR'
  obtain ⟨w1, a1, k1, e3⟩ := m_doneIn (d := d) (t := t) (g := gY g P B R1 (soI q)) (w := stR N S P w) (a := a) (k := k) (cn := 0) (sn := 0) (MK_gY hM) hK hO hd (q := q.1) (by omega) s1
  have e4 := m_unpack_77 (d := d + 4) (t := t) (g := gY g P B R1 (soI q)) (w := w1) (a := a1) (k := k1) (cn := 0) (sn := 0) (b := 0) (by omega)
  rw [gY_77, show Int32.ofNat 0 = (0 : Int32) from rfl, show gM (gY g P B R1 (soI q)) (unpR R1 0) a1 k1 = gM (gY g P B R1 (soI q)) w a1 k1 from gM_ext (fun i hi => by rw [← hR1, unp_pack hi])] at e4
  have start : ∀ r, bc (d + 5) M_X10_goPlaces none 79 [some (.ref 49), some (.int (Int32.ofNat dd)), some (.int (Int32.ofNat S)), some (.int (Int32.ofNat S)), none, none] [] (hp t (gM (gY g P B R1 (soI q)) (stR N S P w) a k)) cn sn = r → bc (d + 5) M_X10_goPlaces none 0 [some (.ref 49), some (.int (Int32.ofNat dd)), some (.int (Int32.ofNat S)), none, none, none] [] (hp t (gM (gY g P B R (soI q)) w a k)) cn sn = r := by
    intro r hr
    simp (disch := omega) only [st_X10_goPlaces_0, st_X10_goPlaces_1, st_X10_goPlaces_2, st_X10_goPlaces_5, st_X10_goPlaces_6, st_X10_goPlaces_7, st_X10_goPlaces_10, st_X10_goPlaces_11, st_X10_goPlaces_12, st_X10_goPlaces_15, st_X10_goPlaces_19, st_X10_goPlaces_20, st_X10_goPlaces_16 (p := 49) hq_49 ps_, bM_some, hg_49_3, hg_49_41, ha_52, gM_o, (MK_gY hM).s hK, nn_oc1, nn_c1, cond_false, if_true, ep, bC_inl, Option.toList, List.nil_append, Nat.add_zero, lc_r, lc_i, lc_n, Nat.reduceAdd]
    refine Eq.trans e1 ?_
    simp (disch := omega) only [st_X10_goPlaces_44, st_X10_goPlaces_45, lc_r, lc_i, lc_n, Nat.reduceAdd]
    exact Eq.trans e2 hr
  unfold lfS
  by_cases hv : seekR (minR K N D L) (fun _ w' => bR w' dd) q.1 1 (stR N S P w) = -1
  · rw [hv] at e3
    rw [if_pos hv]
    refine ⟨B, R1, a1, k1, hB, start _ ?_⟩
    simp (disch := omega) only [st_X10_goPlaces_79, st_X10_goPlaces_80, st_X10_goPlaces_81, st_X10_goPlaces_83, st_X10_goPlaces_84, st_X10_goPlaces_87, st_X10_goPlaces_88, st_X10_goPlaces_89, st_X10_goPlaces_95, st_X10_goPlaces_96, st_X10_goPlaces_97, st_X10_goPlaces_98, st_X10_goPlaces_101, st_X10_goPlaces_105, st_X10_goPlaces_106, st_X10_goPlaces_107, st_X10_goPlaces_110, st_X10_goPlaces_92 (p := 49) hq_49 ps_, st_X10_goPlaces_102 (p := 49) hq_49 ps_, bM_some, bP_some, m2_ir, hg_49_42, hg_49_41, gM_49, gY_42, hsp, e3, e4, if_true, bC_inl, Option.toList, List.cons_append, List.nil_append, Nat.add_zero, lc_r, lc_i, lc_n, Nat.reduceAdd]
  · rw [if_neg hv]
    rcases seekR_b (f := minR K N D L) (P := fun _ w' => bR w' dd) q.1 1 (stR N S P w) with z | ⟨u, u1, u2, u3⟩
    · exact absurd z hv
    · rw [u3] at e3 hv ⊢
      obtain ⟨B', b1, b2⟩ := gl_3 (d := d + 5) (t := t) (g := g) (P := P) (R := R1) (o := Int32.ofNat u) (w := w) (a := a1) (k := k1) (dd := dd) (cn := cn) (sn := sn) h4 (y3 := Int32.ofNat u) (a5 := none) S 0 (by omega) B
      rw [show Int32.ofNat 0 = (0 : Int32) from rfl] at b2
      refine ⟨B', R1, a1, k1, fun i hi => ?_, start _ ?_⟩
      · dsimp only
        rw [b1 i]
        by_cases h : i < S
        · rw [if_pos (by omega), if_pos h]
        · rw [if_neg (by omega), if_neg h]; exact hB i hi
      · rw [show soI (((Int32.ofNat u).toNatClampNeg - 1, Int32.ofNat u, fun i => if i < S then P i else q.2.2 i) : Nat × Int32 × Rw) = Int32.ofNat u by unfold soI; dsimp only; rw [if_neg hv], ← b2]
        simp (disch := omega) only [st_X10_goPlaces_79, st_X10_goPlaces_80, st_X10_goPlaces_81, st_X10_goPlaces_83, st_X10_goPlaces_84, st_X10_goPlaces_87, st_X10_goPlaces_88, st_X10_goPlaces_89, st_X10_goPlaces_95, st_X10_goPlaces_96, st_X10_goPlaces_97, st_X10_goPlaces_98, st_X10_goPlaces_101, st_X10_goPlaces_105, st_X10_goPlaces_106, st_X10_goPlaces_107, st_X10_goPlaces_111, st_X10_goPlaces_112, st_X10_goPlaces_113, st_X10_goPlaces_116, st_X10_goPlaces_117, st_X10_goPlaces_92 (p := 49) hq_49 ps_, st_X10_goPlaces_102 (p := 49) hq_49 ps_, bM_some, bP_some, m2_ir, hg_49_42, hg_49_41, hs_49_42, gM_49, gM_hI49, gY_42, gY_o, hsp, e3, e4, hv, if_false, bC_inl, Option.toList, List.cons_append, List.nil_append, Nat.add_zero, lc_r, lc_i, lc_n, Nat.reduceAdd]
set_option maxHeartbeats 4000000 in
theorem gp_free {s : Nat} (hs : s ≤ 4) {y : Int32} : ∀ m i : Nat, i + m = s → ∀ b : Bool, ∃ b5 : Option Value,
    bc d M_X10_goPlaces none 164 [some (.ref 49), some (.int (Int32.ofNat dd)), some (.int (Int32.ofNat s)), some (.int y), some (.int (b01 b)), some (.int (Int32.ofNat i))] [] (hp t (gM (gY g P B R o) w a k)) cn sn =
    bc d M_X10_goPlaces none 204 [some (.ref 49), some (.int (Int32.ofNat dd)), some (.int (Int32.ofNat s)), some (.int y), some (.int (b01 (frB P y m i b))), b5] [] (hp t (gM (gY g P B R o) w a k)) cn sn := by
  intro m
  induction m with
  | zero =>
    intro i hi b
    refine ⟨some (.int (Int32.ofNat i)), ?_⟩
    rw [st_X10_goPlaces_164]
    simp (disch := omega) only [st_X10_goPlaces_166, st_X10_goPlaces_167, nn_lt, show ¬ i < s by omega, if_false, frB, Nat.reduceAdd]
  | succ m ih =>
    intro i hi b
    obtain ⟨b5, e1⟩ := ih (i + 1) (by omega) (b && (decide (y = -1) || !decide (P i = y)))
    refine ⟨b5, ?_⟩
    unfold frB
    rw [← e1, st_X10_goPlaces_164]
    cases b with
    | false =>
      rw [Bool.false_and]
      simp (disch := omega) only [st_X10_goPlaces_166, st_X10_goPlaces_167, st_X10_goPlaces_170, st_X10_goPlaces_172, st_X10_goPlaces_195, st_X10_goPlaces_196, st_X10_goPlaces_198, st_X10_goPlaces_201, nn_lt, show i < s by omega, if_true, b01, cond_false, lc_r, lc_i, nn_r1, Nat.reduceAdd]
    | true =>
      rw [Bool.true_and]
      by_cases h1 : y = -1
      · rw [decide_eq_true h1, Bool.true_or]
        simp (disch := omega) only [st_X10_goPlaces_166, st_X10_goPlaces_167, st_X10_goPlaces_170, st_X10_goPlaces_172, st_X10_goPlaces_175, st_X10_goPlaces_176, st_X10_goPlaces_177, st_X10_goPlaces_191, st_X10_goPlaces_192, st_X10_goPlaces_196, st_X10_goPlaces_198, st_X10_goPlaces_201, nn_lt, show i < s by omega, if_true, if_false, nn_one0, h1, b01, cond_true, lc_r, lc_i, nn_r1, Nat.reduceAdd]
      · rw [decide_eq_false h1, Bool.false_or]
        by_cases h2 : P i = y
        · rw [decide_eq_true h2, Bool.not_true]
          simp (disch := omega) only [st_X10_goPlaces_166, st_X10_goPlaces_167, st_X10_goPlaces_170, st_X10_goPlaces_172, st_X10_goPlaces_175, st_X10_goPlaces_176, st_X10_goPlaces_177, st_X10_goPlaces_180, st_X10_goPlaces_181, st_X10_goPlaces_184, st_X10_goPlaces_186, st_X10_goPlaces_187, st_X10_goPlaces_188, st_X10_goPlaces_195, st_X10_goPlaces_196, st_X10_goPlaces_198, st_X10_goPlaces_201, nn_lt, show i < s by omega, if_true, if_false, nn_one0, h1, h2, bM_some, hg_49_39, ha_75, gM_o, gY_75, nn_out, nn_clamp, b01, cond_true, cond_false, lc_r, lc_i, nn_r1, Nat.reduceAdd]
        · rw [decide_eq_false h2, Bool.not_false]
          simp (disch := omega) only [st_X10_goPlaces_166, st_X10_goPlaces_167, st_X10_goPlaces_170, st_X10_goPlaces_172, st_X10_goPlaces_175, st_X10_goPlaces_176, st_X10_goPlaces_177, st_X10_goPlaces_180, st_X10_goPlaces_181, st_X10_goPlaces_184, st_X10_goPlaces_186, st_X10_goPlaces_187, st_X10_goPlaces_188, st_X10_goPlaces_191, st_X10_goPlaces_192, st_X10_goPlaces_196, st_X10_goPlaces_198, st_X10_goPlaces_201, nn_lt, show i < s by omega, if_true, if_false, nn_one0, h1, h2, bM_some, hg_49_39, ha_75, gM_o, gY_75, nn_out, nn_clamp, b01, cond_true, cond_false, lc_r, lc_i, nn_r1, Nat.reduceAdd]
theorem kI_lt {e : Nat} (he : e < 1000) (hN : N ≤ 8) : (kI e < Int32.ofNat N) = (e < N + 1) := by
  unfold kI
  rw [ii_lt, ii_sub, ii_ofNat (by omega), ii_ofNat (by omega), ti_1]
  · exact propext ⟨fun h => by omega, fun h => by omega⟩
  · rw [ii_ofNat (by omega), ti_1]; omega
  · rw [ii_ofNat (by omega), ti_1]; omega
theorem kI_suc {e : Nat} : kI e + 1 = kI (e + 1) := by
  unfold kI
  rw [Int32.sub_add_cancel, ← nn_suc, Int32.add_sub_cancel]
theorem kI_b {e : Nat} (he : e < N + 1) (hN : N ≤ 8) : kI e = -1 ∨ (0 ≤ (kI e).toInt ∧ (kI e).toInt < N) := by
  unfold kI
  by_cases h : e = 0
  · left; rw [h]; decide
  · right; rw [nn_p1 (by omega), ii_ofNat (by omega)]; omega
theorem frB_congr {P' : Rw} {y : Int32} : ∀ (m i : Nat) (b : Bool), (∀ e, i ≤ e → e < i + m → P e = P' e) → frB P y m i b = frB P' y m i b := by
  intro m
  induction m with
  | zero => intro i b _; rfl
  | succ m ih =>
    intro i b h
    unfold frB
    rw [← h i (by omega) (by omega), ih (i + 1) _ (fun e h1 h2 => h e (by omega) (by omega))]
theorem goS_congr {lf : Rw → Nat × Int32 × Rw → Nat × Int32 × Rw} {C : Nat} (hlf : ∀ (P P' : Rw) q, (∀ e, e < S → P e = P' e) → lf P q = lf P' q) : ∀ (m s : Nat) (P P' : Rw) (q : Nat × Int32 × Rw), s + m = S → (∀ e, e < s → P e = P' e) → goS lf C m s P q = goS lf C m s P' q := by
  intro m
  induction m with
  | zero => intro s P P' q hs h; unfold goS; exact hlf _ _ _ (fun e he => h e (by omega))
  | succ m ih =>
    intro s P P' q hs h
    unfold goS
    have key : ∀ (b a : Nat) (q : Nat × Int32 × Rw), goK (fun P' q' => goS lf C m (s + 1) P' q') s P b a q = goK (fun P' q' => goS lf C m (s + 1) P' q') s P' b a q := by
      intro b
      induction b with
      | zero => intro a q; rfl
      | succ b ihb =>
        intro a q
        unfold goK
        rw [frB_congr s 0 true (fun e _ he => h e (by omega)), ihb, ih (s + 1) (upd P s (Int32.ofNat a - 1)) (upd P' s (Int32.ofNat a - 1)) q (by omega) (fun e he => by
          rw [upd_at, upd_at]
          split
          · rfl
          · exact h e (by omega))]
    exact key C 0 q
theorem goS_QI {lf : Rw → Nat × Int32 × Rw → Nat × Int32 × Rw} {C : Nat} (hlf : ∀ P q, QI q → QI (lf P q)) : ∀ (m s : Nat) (P : Rw) (q : Nat × Int32 × Rw), QI q → QI (goS lf C m s P q) := by
  intro m
  induction m with
  | zero => intro s P q h; exact hlf P q h
  | succ m ih =>
    intro s P q h
    unfold goS
    have key : ∀ (b a : Nat) (q : Nat × Int32 × Rw), QI q → QI (goK (fun P' q' => goS lf C m (s + 1) P' q') s P b a q) := by
      intro b
      induction b with
      | zero => intro a q h; exact h
      | succ b ihb =>
        intro a q h
        unfold goK
        apply ihb
        split
        · exact ih _ _ _ h
        · exact h
    exact key C 0 q h
set_option maxHeartbeats 8000000 in
theorem gp_rec (hM : MK K N S D L g) (hK : KN K N S D L) (hO : KO K N S D L) (hR' : RI K N S 9999 w) (hd : dd < D) : ∀ m s : Nat, s + m = S → ∀ (P B R a k : Rw) (q : Nat × Int32 × Rw) (cn sn : Nat), (∀ e, e < s → P e = -1 ∨ (0 ≤ (P e).toInt ∧ (P e).toInt < N)) → QI q → (∀ i, i < 4 → B i = q.2.2 i) → ∃ P' B' R' a' k' : Rw, (∀ e, e < s → P' e = P e) ∧ (∀ i, i < 4 → B' i = (goS (lfS (minR K N D L) N S dd w) (N + 1) m s P q).2.2 i) ∧
    bc (d + 5 + m) M_X10_goPlaces none 0 [some (.ref 49), some (.int (Int32.ofNat dd)), some (.int (Int32.ofNat s)), none, none, none] [] (hp t (gM (gY g P B R (soI q)) w a k)) cn sn = some (.inl none, hp t (gM (gY g P' B' R' (soI (goS (lfS (minR K N D L) N S dd w) (N + 1) m s P q))) w a' k'), cn, sn) := by
  have h8 := hK.2.1
  have h4 := hK.2.2.2.1
  intro m
  induction m with
  | zero =>
    intro s hs P B R a k q cn sn hP hq hB
    obtain rfl : s = S := by omega
    obtain ⟨B', R', a', k', e1, e2⟩ := gp_leaf (d := d) (t := t) (a := a) (k := k) (R := R) (cn := cn) (sn := sn) hM hK hO hR' hd hP hq hB
    exact ⟨P, B', R', a', k', fun e _ => rfl, e1, e2⟩
  | succ m ih =>
    intro s hs P B R a k q cn sn hP hq hB
    have key : ∀ (b z : Nat) (P1 B R a k : Rw) (q : Nat × Int32 × Rw) (a4 a5 : Option Value), z + b = N + 1 → (∀ e, e < s → P1 e = P e) → QI q → (∀ i, i < 4 → B i = q.2.2 i) → ∃ P' B' R' a' k' : Rw, (∀ e, e < s → P' e = P e) ∧ (∀ i, i < 4 → B' i = (goK (fun P' q' => goS (lfS (minR K N D L) N S dd w) (N + 1) m (s + 1) P' q') s P b z q).2.2 i) ∧
        bc (d + 5 + m + 1) M_X10_goPlaces none 148 [some (.ref 49), some (.int (Int32.ofNat dd)), some (.int (Int32.ofNat s)), some (.int (kI z)), a4, a5] [] (hp t (gM (gY g P1 B R (soI q)) w a k)) cn sn = some (.inl none, hp t (gM (gY g P' B' R' (soI (goK (fun P' q' => goS (lfS (minR K N D L) N S dd w) (N + 1) m (s + 1) P' q') s P b z q))) w a' k'), cn, sn) := by
      intro b
      induction b with
      | zero =>
        intro z P1 B R a k q a4 a5 hz hP1 hq hB
        refine ⟨P1, B, R, a, k, hP1, hB, ?_⟩
        rw [st_X10_goPlaces_148]
        simp (disch := omega) only [st_X10_goPlaces_149, st_X10_goPlaces_150, st_X10_goPlaces_153, st_X10_goPlaces_154, st_X10_goPlaces_155, st_X10_goPlaces_233, bM_some, hg_49_3, ha_52, gM_o, (MK_gY hM).n hK, nn_oc0, nn_c0, cond_false, kI_lt (N := N) (e := z) (by omega) h8, show ¬ z < N + 1 by omega, if_false, goK, Nat.reduceAdd]
      | succ b ihb =>
        intro z P1 B R a k q a4 a5 hz hP1 hq hB
        obtain ⟨b5, ef⟩ := gp_free (d := d + 5 + m + 1) (t := t) (g := g) (P := P1) (B := B) (R := R) (o := soI q) (w := w) (a := a) (k := k) (dd := dd) (cn := cn) (sn := sn) (s := s) (by omega) (y := kI z) s 0 (by omega) true
        rw [show Int32.ofNat 0 = (0 : Int32) from rfl, show b01 true = 1 from rfl, frB_congr s 0 true (fun e _ he => hP1 e (by omega))] at ef
        unfold goK
        rw [show Int32.ofNat z - 1 = kI z from rfl]
        rw [st_X10_goPlaces_148]
        simp (disch := omega) only [st_X10_goPlaces_149, st_X10_goPlaces_150, st_X10_goPlaces_153, st_X10_goPlaces_154, st_X10_goPlaces_155, st_X10_goPlaces_158, st_X10_goPlaces_159, st_X10_goPlaces_161, st_X10_goPlaces_162, bM_some, hg_49_3, ha_52, gM_o, (MK_gY hM).n hK, nn_oc0, nn_c0, cond_false, kI_lt (N := N) (e := z) (by omega) h8, show z < N + 1 by omega, if_true, lc_r, lc_i, Nat.reduceAdd]
        rw [ef]
        cases hf : frB P (kI z) s 0 true with
        | false =>
          obtain ⟨P', B', R', a', k', r1, r2, r3⟩ := ihb (z + 1) P1 B R a k q (some (.int 0)) b5 (by omega) hP1 hq hB
          rw [if_neg (by simp)]
          refine ⟨P', B', R', a', k', r1, r2, ?_⟩
          rw [← r3]
          simp (disch := omega) only [st_X10_goPlaces_204, st_X10_goPlaces_206, st_X10_goPlaces_209, st_X10_goPlaces_227, st_X10_goPlaces_230, b01, cond_false, if_true, kI_suc, lc_r, lc_i, Nat.reduceAdd]
        | true =>
          obtain ⟨P2, B2, R2, a2, k2, r1, r2, r3⟩ := ih (s + 1) (by omega) (upd P1 s (kI z)) B R a k q 0 0 (fun e he => by
            rw [upd_at]
            split
            · exact kI_b (by omega) h8
            · rw [hP1 e (by omega)]; exact hP e (by omega)) hq hB
          have ec : goS (lfS (minR K N D L) N S dd w) (N + 1) m (s + 1) (upd P1 s (kI z)) q = goS (lfS (minR K N D L) N S dd w) (N + 1) m (s + 1) (upd P s (kI z)) q := goS_congr (S := S) (fun P P' q h => lfS_congr P P' q h) m (s + 1) _ _ q (by omega) (fun e he => by
            rw [upd_at, upd_at]
            split
            · rfl
            · exact hP1 e (by omega))
          rw [ec] at r2 r3
          have hq2 := goS_QI (C := N + 1) (fun P q h => lfS_QI (f := minR K N D L) (N := N) (S := S) (dd := dd) (w := w) (P := P) h) m (s + 1) (upd P s (kI z)) q hq
          obtain ⟨P', B', R', a', k', q1, q2, q3⟩ := ihb (z + 1) P2 B2 R2 a2 k2 _ (some (.int 1)) b5 (by omega) (fun e he => by rw [r1 e (by omega), upd_oth (by omega)]; exact hP1 e he) hq2 r2
          rw [if_pos rfl]
          refine ⟨P', B', R', a', k', q1, q2, ?_⟩
          rw [← q3]
          simp (disch := omega) only [st_X10_goPlaces_204, st_X10_goPlaces_206, st_X10_goPlaces_212, st_X10_goPlaces_213, st_X10_goPlaces_216, st_X10_goPlaces_217, st_X10_goPlaces_218, st_X10_goPlaces_219, st_X10_goPlaces_220, st_X10_goPlaces_221, st_X10_goPlaces_222, st_X10_goPlaces_223, st_X10_goPlaces_227, st_X10_goPlaces_230, st_X10_goPlaces_224 (p := 49) hq_49 ps_, b01, cond_true, nn_one0, if_false, bM_some, hg_49_39, hw_75, gM_hI, gY_i75, nn_out, nn_clamp, cond_false, nn_r1, r3, bC_inl, Option.toList, List.nil_append, Nat.add_zero, kI_suc, lc_r, lc_i, Nat.reduceAdd]
    obtain ⟨P', B', R', a', k', r1, r2, r3⟩ := key (N + 1) 0 P B R a k q none none (by omega) (fun e _ => rfl) hq hB
    refine ⟨P', B', R', a', k', r1, r2, ?_⟩
    unfold goS
    rw [← r3, show d + 5 + (m + 1) = d + 5 + m + 1 from rfl]
    have hne : (Int32.ofNat s = Int32.ofNat S) = False := by rw [nn_inj (by omega) (by omega)]; exact eq_false (by omega)
    simp (disch := omega) only [st_X10_goPlaces_0, st_X10_goPlaces_1, st_X10_goPlaces_2, st_X10_goPlaces_5, st_X10_goPlaces_6, st_X10_goPlaces_7, st_X10_goPlaces_146, st_X10_goPlaces_147, bM_some, hg_49_3, ha_52, gM_o, (MK_gY hM).s hK, nn_oc1, nn_c1, cond_false, hne, if_false, lc_r, lc_i, lc_n, Nat.reduceAdd]
    rfl
set_option maxHeartbeats 4000000 in
theorem ms_fill : ∀ m i : Nat, i + m = 4 → ∀ B : Rw, (∀ e, e < i → B e = -1) → ∃ B' : Rw, (∀ e, e < 4 → B' e = -1) ∧
    bc d M_X10_soonest none 47 [some (.ref 49), some (.int (Int32.ofNat dd)), some (.int x), some (.int (Int32.ofNat i))] [] (hp t (gM (gY g P B R o) w a k)) cn sn =
    bc d M_X10_soonest none 65 [some (.ref 49), some (.int (Int32.ofNat dd)), some (.int x), some (.int (Int32.ofNat 4))] [] (hp t (gM (gY g P B' R o) w a k)) cn sn := by
  intro m
  induction m with
  | zero =>
    intro i hi B hB
    obtain rfl : i = 4 := by omega
    refine ⟨B, hB, ?_⟩
    rw [st_X10_soonest_47]
    simp (disch := omega) only [st_X10_soonest_48, st_X10_soonest_49, nn_l4, show ¬ 4 < 4 by omega, if_false, Nat.reduceAdd]
  | succ m ih =>
    intro i hi B hB
    obtain ⟨B', e1, e2⟩ := ih (i + 1) (by omega) (upd B i (-1)) (fun e he => by
      rw [upd_at]
      split
      · rfl
      · exact hB e (by omega))
    refine ⟨B', e1, ?_⟩
    rw [← e2, st_X10_soonest_47]
    simp (disch := omega) only [st_X10_soonest_48, st_X10_soonest_49, st_X10_soonest_52, st_X10_soonest_53, st_X10_soonest_56, st_X10_soonest_57, st_X10_soonest_58, st_X10_soonest_59, st_X10_soonest_62, nn_l4, show i < 4 by omega, if_true, bM_some, hg_49_40, hw_76, gM_hI, gY_i76, nn_out, nn_clamp, cond_false, lc_r, lc_i, nn_r1, Nat.reduceAdd]
theorem plA_go (hN : N ≤ 8) (h0 : w (48 + dd) = -1) : plA K N S D L dd w = goS (lfS (minR K N D L) N S dd w) (N + 1) S 0 P (60, -1, fun _ => -1) := by
  unfold plA
  rw [if_pos h0]
  have := cl_go (C := N + 1) (S := S) (lf := lfS (minR K N D L) N S dd w) (by omega) (by omega) (fun P P' q h => lfS_congr P P' q h) S 0 0 P (60, -1, fun _ => -1) (by omega) (fun s s' _ h => absurd h (Nat.not_lt_zero s')) (fun i hi => absurd hi (Nat.not_lt_zero i))
  rw [Nat.zero_mul] at this
  exact this
set_option maxHeartbeats 8000000 in
theorem m_soonest (hM : MK K N S D L g) (hK : KN K N S D L) (hO : KO K N S D L) (hR' : RI K N S 9999 w) (hd : dd < D) (hx : x = -1 ∨ (0 ≤ x.toInt ∧ x.toInt < S)) : ∃ P' B' R' a' k' : Rw, ∃ o' : Int32,
    bc (d + 10) M_X10_soonest none 0 [some (.ref 49), some (.int (Int32.ofNat dd)), some (.int x), none] [] (hp t (gM g w a k)) cn sn = some (.inl (some (.int (if x = -1 then (plA K N S D L dd w).2.1 else (plA K N S D L dd w).2.2 x.toNatClampNeg))), hp t (gM (gY (hI g 49 2 0) P' B' R' o') w a' k'), cn, sn) := by
  have h8 := hK.2.1
  have h4 := hK.2.2.2.1
  have h5 := hK.2.2.2.2.2.1
  have hMz := MK_49 (i := 2) (x := 0) hM
  have hid := m_isDish_y (d := d + 8) (t := t) (w := w) (a := a) (k := k) (cn := 0) (sn := 0) hMz hK (ofN_b hd (by omega))
  have e1N : (Int32.ofNat S - 1).toInt64.toInt = (S : Int) - 1 := by rw [jj_i, ofN1 (by omega)]
  have hin : bc (d + 9) M_X10_isIn none 0 [some (.long x.toInt64), none, some (.long (-1)), none, some (.long (Int32.ofNat S - 1).toInt64), none] [] (hp t (gM (hI g 49 2 0) w a k)) 0 0 = some (.inl (some (.int 1)), hp t (gM (hI g 49 2 0) w a k), 0, 0) := m_isIn_y (by
    rw [jj_i, e1N, tj_m1]
    rcases hx with h | h
    · rw [h, ti_m1]; omega
    · omega)
  obtain ⟨B1, b1, b2⟩ := ms_fill (d := d + 10) (t := t) (g := hI g 49 2 0) (P := g.1 75) (R := g.1 77) (o := 100000) (w := w) (a := a) (k := k) (dd := dd) (x := x) (cn := cn) (sn := sn) 4 0 (by omega) (g.1 76) (fun e he => absurd he (Nat.not_lt_zero e))
  rw [show Int32.ofNat 0 = (0 : Int32) from rfl, show Int32.ofNat 4 = (4 : Int32) from rfl] at b2
  have ey : hI (hI g 49 2 0) 49 42 100000 = gY (hI g 49 2 0) (g.1 75) (g.1 76) (g.1 77) 100000 := by
    have := gY_o (g := hI g 49 2 0) (P := (hI g 49 2 0).1 75) (B := (hI g 49 2 0).1 76) (R := (hI g 49 2 0).1 77) (o := (hI g 49 2 0).1 49 42) (x := 100000)
    rw [gY_eta] at this
    exact this
  have start : ∀ r, bc (d + 10) M_X10_soonest none 65 [some (.ref 49), some (.int (Int32.ofNat dd)), some (.int x), some (.int 4)] [] (hp t (gM (gY (hI g 49 2 0) (g.1 75) B1 (g.1 77) 100000) w a k)) cn sn = r → bc (d + 10) M_X10_soonest none 0 [some (.ref 49), some (.int (Int32.ofNat dd)), some (.int x), none] [] (hp t (gM g w a k)) cn sn = r := by
    intro r hr
    simp (disch := omega) only [st_X10_soonest_0, st_X10_soonest_1, st_X10_soonest_2, st_X10_soonest_5, st_X10_soonest_6, st_X10_soonest_10, st_X10_soonest_13, st_X10_soonest_14, st_X10_soonest_15, st_X10_soonest_18, st_X10_soonest_19, st_X10_soonest_22, st_X10_soonest_23, st_X10_soonest_24, st_X10_soonest_25, st_X10_soonest_26, st_X10_soonest_30, st_X10_soonest_39, st_X10_soonest_40, st_X10_soonest_42, st_X10_soonest_45, st_X10_soonest_46, st_X10_soonest_7 (p := 49) hq_49 ps_, st_X10_soonest_27 ps_, bM_some, hs_49_2, hs_49_42, hg_49_3, ha_52, gM_o, gM_hI49, hMz.s hK, nn_oc1, nn_c1, cond_false, hid, hin, nn_one0, if_false, ey, bC_inl, Option.toList, List.cons_append, List.nil_append, Nat.add_zero, lc_r, lc_i, lc_n, Nat.reduceAdd]
    exact Eq.trans b2 hr
  have fin : ∀ (P B R a k : Rw) (q : Nat × Int32 × Rw), QI q → (∀ i, i < 4 → B i = q.2.2 i) → bc (d + 10) M_X10_soonest none 81 [some (.ref 49), some (.int (Int32.ofNat dd)), some (.int x), some (.int 4)] [] (hp t (gM (gY (hI g 49 2 0) P B R (soI q)) w a k)) cn sn = some (.inl (some (.int (if x = -1 then q.2.1 else q.2.2 x.toNatClampNeg))), hp t (gM (gY (hI g 49 2 0) P B R (soI q)) w a k), cn, sn) := by
    intro P B R a k q hq hB
    by_cases h : x = -1
    · rw [if_pos h]
      rcases hq with ⟨q1, q2⟩ | ⟨q1, q2⟩
      · rw [show soI q = 100000 by unfold soI; rw [if_pos q1], q1]
        simp (disch := omega) only [st_X10_soonest_81, st_X10_soonest_82, st_X10_soonest_83, st_X10_soonest_95, st_X10_soonest_96, st_X10_soonest_99, st_X10_soonest_101, st_X10_soonest_104, st_X10_soonest_105, st_X10_soonest_112, h, if_true, bM_some, hg_49_42, gM_49, gY_42, Nat.reduceAdd]
      · rw [show soI q = q.2.1 by unfold soI; rw [if_neg (by rw [q1, nn_nneg (by omega)]; exact fun z => z)], q1]
        have hne : (Int32.ofNat (q.1 + 1) = 100000) = False := by rw [show (100000 : Int32) = Int32.ofNat 100000 from rfl, nn_inj (by omega) (by omega)]; exact eq_false (by omega)
        simp (disch := omega) only [st_X10_soonest_81, st_X10_soonest_82, st_X10_soonest_83, st_X10_soonest_95, st_X10_soonest_96, st_X10_soonest_99, st_X10_soonest_101, st_X10_soonest_108, st_X10_soonest_109, st_X10_soonest_112, h, if_true, hne, if_false, bM_some, hg_49_42, gM_49, gY_42, Nat.reduceAdd]
    · rw [if_neg h]
      rcases hx with hx | hx
      · exact absurd hx h
      · have hc := ii_clamp (a := x)
        have ho : px_out x 4 = false := ii_out hx.1 (by omega)
        simp (disch := omega) only [st_X10_soonest_81, st_X10_soonest_82, st_X10_soonest_83, st_X10_soonest_86, st_X10_soonest_87, st_X10_soonest_90, st_X10_soonest_91, st_X10_soonest_92, st_X10_soonest_112, h, if_false, bM_some, hg_49_40, ha_76, gM_o, gY_76, ho, cond_false, hB x.toNatClampNeg (by omega), Nat.reduceAdd]
  by_cases h0 : w (48 + dd) = -1
  · obtain ⟨P', B', R', a', k', r1, r2, r3⟩ := gp_rec (d := d + 4 - S) (t := t) (g := hI g 49 2 0) hMz hK hO hR' hd S 0 (by omega) (g.1 75) B1 (g.1 77) a k (60, -1, fun _ => -1) 0 0 (fun e he => absurd he (Nat.not_lt_zero e)) (Or.inl ⟨rfl, rfl⟩) b1
    have hq2 := goS_QI (C := N + 1) (fun P q h => lfS_QI (f := minR K N D L) (N := N) (S := S) (dd := dd) (w := w) (P := P) h) S 0 (g.1 75) (60, -1, fun _ => -1) (Or.inl ⟨rfl, rfl⟩)
    rw [← plA_go h8 h0] at r2 r3 hq2
    rw [show d + 4 - S + 5 + S = d + 9 by omega, show Int32.ofNat 0 = (0 : Int32) from rfl, show soI ((60, -1, fun _ => -1) : Nat × Int32 × Rw) = 100000 from rfl] at r3
    refine ⟨P', B', R', a', k', _, start _ (Eq.trans ?_ (fin P' B' R' a' k' _ hq2 r2))⟩
    simp (disch := omega) only [st_X10_soonest_65, st_X10_soonest_66, st_X10_soonest_69, st_X10_soonest_70, st_X10_soonest_71, st_X10_soonest_72, st_X10_soonest_75, st_X10_soonest_76, st_X10_soonest_77, st_X10_soonest_78 (p := 49) hq_49 ps_, bM_some, hg_49_31, ha_70, gM_70, nn_out, nn_clamp, cond_false, h0, if_true, r3, bC_inl, Option.toList, List.nil_append, Nat.add_zero, Nat.reduceAdd]
  · refine ⟨g.1 75, B1, g.1 77, a, k, _, start _ (Eq.trans ?_ (Eq.trans (fin (g.1 75) B1 (g.1 77) a k (60, -1, fun _ => -1) (Or.inl ⟨rfl, rfl⟩) b1) (by rw [show plA K N S D L dd w = (60, -1, fun _ => -1) by unfold plA; rw [if_neg h0]])))⟩
    rw [show soI ((60, -1, fun _ => -1) : Nat × Int32 × Rw) = 100000 from rfl]
    simp (disch := omega) only [st_X10_soonest_65, st_X10_soonest_66, st_X10_soonest_69, st_X10_soonest_70, st_X10_soonest_71, st_X10_soonest_72, bM_some, hg_49_31, ha_70, gM_70, nn_out, nn_clamp, cond_false, h0, if_false, Nat.reduceAdd]
theorem m_soonest_n1 (hM : MK K N S D L g) (hK : KN K N S D L) {y : Int32} (hx : ¬ (0 ≤ x.toInt ∧ x.toInt < D)) : bc (d + 2) M_X10_soonest none 0 [some (.ref 49), some (.int x), some (.int y), none] [] (hp t (gM g w a k)) cn sn = some (.inl (some (.int 0)), hp t (gM (hI g 49 2 1) w a k), cn, sn) := by
  simp (disch := omega) only [st_X10_soonest_0, st_X10_soonest_1, st_X10_soonest_2, st_X10_soonest_5, st_X10_soonest_6, st_X10_soonest_10, st_X10_soonest_33, st_X10_soonest_34, st_X10_soonest_38, st_X10_soonest_7 (p := 49) hq_49 ps_, st_X10_soonest_35 (p := 49) hq_49 ps_, bM_some, hs_49_2, gM_hI49, m_isDish_n (MK_49 hM) hK hx, m_fail, hI_hI, if_true, bC_inl, Option.toList, List.cons_append, List.nil_append, Nat.add_zero, Nat.reduceAdd]
theorem m_soonest_n2 (hM : MK K N S D L g) (hK : KN K N S D L) (hd : dd < D) (hx : ¬ (x = -1 ∨ (0 ≤ x.toInt ∧ x.toInt < S))) : bc (d + 2) M_X10_soonest none 0 [some (.ref 49), some (.int (Int32.ofNat dd)), some (.int x), none] [] (hp t (gM g w a k)) cn sn = some (.inl (some (.int 0)), hp t (gM (hI g 49 2 1) w a k), cn, sn) := by
  have h4 := hK.2.2.2.1
  have h5 := hK.2.2.2.2.2.1
  have e1N : (Int32.ofNat S - 1).toInt64.toInt = (S : Int) - 1 := by rw [jj_i, ofN1 (by omega)]
  have hin : bc (d + 1) M_X10_isIn none 0 [some (.long x.toInt64), none, some (.long (-1)), none, some (.long (Int32.ofNat S - 1).toInt64), none] [] (hp t (gM (hI g 49 2 0) w a k)) 0 0 = some (.inl (some (.int 0)), hp t (gM (hI g 49 2 0) w a k), 0, 0) := m_isIn_n (by
    rw [jj_i, e1N, tj_m1]
    intro z
    apply hx
    by_cases h : x = -1
    · exact Or.inl h
    · right
      rw [ii_eq, ti_m1] at h
      omega)
  simp (disch := omega) only [st_X10_soonest_0, st_X10_soonest_1, st_X10_soonest_2, st_X10_soonest_5, st_X10_soonest_6, st_X10_soonest_10, st_X10_soonest_13, st_X10_soonest_14, st_X10_soonest_15, st_X10_soonest_18, st_X10_soonest_19, st_X10_soonest_22, st_X10_soonest_23, st_X10_soonest_24, st_X10_soonest_25, st_X10_soonest_26, st_X10_soonest_30, st_X10_soonest_33, st_X10_soonest_34, st_X10_soonest_38, st_X10_soonest_7 (p := 49) hq_49 ps_, st_X10_soonest_27 ps_, st_X10_soonest_35 (p := 49) hq_49 ps_, bM_some, hs_49_2, hg_49_3, ha_52, gM_o, gM_hI49, (MK_49 (i := 2) (x := 0) hM).s hK, nn_oc1, nn_c1, cond_false, m_isDish_y (MK_49 hM) hK (ofN_b hd (by omega)), hin, m_fail, hI_hI, nn_one0, if_false, if_true, bC_inl, Option.toList, List.cons_append, List.nil_append, Nat.add_zero, Nat.reduceAdd]
end MPLAN
