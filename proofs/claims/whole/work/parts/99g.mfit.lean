/-! ===== the reference: what fits ===== -/
def gT (g : hG) (n : Nat) (f r : Rw) : hG := hR (hR (hI g 49 47 (Int32.ofNat n)) 81 f) 80 r
def fiL (ok : Nat → Bool) (j : Nat) (was : Int32) : Nat → Nat → Nat → Rw → Nat × Rw
  | 0, _, n, f => (n, f)
  | m + 1, c, n, f => if Int32.ofNat c = was then fiL ok j was m (c + 1) n f else if ok c = true then fiL ok j was m (c + 1) (n + 1) (upd f n (Int32.ofNat (10 * j + c))) else fiL ok j was m (c + 1) n f
def foL (ok : Nat → Nat → Bool) (w : Rw) : Nat → Nat → Nat → Rw → Nat × Rw
  | 0, _, n, f => (n, f)
  | m + 1, j, n, f => foL ok w m (j + 1) (fiL (ok j) j (w (24 + j)) 10 0 n f).1 (fiL (ok j) j (w (24 + j)) 10 0 n f).2
section MFIT
variable {d : Nat} {t : List px_E} {g : hG} {j q N S D L T cn sn n c : Nat} {w a k f r : Rw} {x : Int32} {K : Kt}
theorem MK_gT (hM : MK K N S D L g) : MK K N S D L (gT g n f r) := MK_hR (by omega) (MK_hR (by omega) (MK_hI (by omega) hM))
theorem gT_47 : (gT g n f r).1 49 47 = Int32.ofNat n := rfl
theorem gT_n {m : Nat} : hI (gT g n f r) 49 47 (Int32.ofNat m) = gT g m f r := by
  unfold gT
  rw [← hR_hI (by omega), ← hR_hI (by omega), hI_hI]
theorem gT_f {i : Nat} : hI (gT g n f r) 81 i x = gT g n (upd f i x) r := by
  unfold gT
  rw [← hR_hI (by omega), hI_R, hR_same, hR_hR]
theorem gT_E {v : Rw} : gE (gT g n f r) v = gT g n f (packR r 0 v) := by
  unfold gE gT
  rw [hR_same, hR_hR]
theorem RI_ch {z : Nat} (hN : N ≤ 8) (hz : z ≤ 9) (hj : j < 8) (h : RI K N S T w) : RI K N S T (upd w (24 + j) (Int32.ofNat z)) := by
  refine ⟨fun i hi => ?_, ?_⟩
  · obtain ⟨q1, q2, q3, q4, q5⟩ := h.1 i hi
    rw [upd_oth (show ¬ i = 24 + j by omega), upd_oth (show ¬ 8 + i = 24 + j by omega), upd_oth (show ¬ 16 + i = 24 + j by omega), upd_oth (show ¬ 40 + i = 24 + j by omega)]
    refine ⟨q1, q2, q3, ?_, q5⟩
    rw [upd_at]
    split
    · rw [ii_ofNat (by omega)]; omega
    · exact q4
  · rw [upd_oth (show ¬ 53 = 24 + j by omega)]
    exact h.2
theorem fiL_le {ok : Nat → Bool} {was : Int32} : ∀ (m c n : Nat) (f : Rw), (fiL ok j was m c n f).1 ≤ n + m := by
  intro m
  induction m with
  | zero => intro c n f; exact Nat.le_refl n
  | succ m ih =>
    intro c n f
    unfold fiL
    split
    · exact Nat.le_trans (ih _ _ _) (by omega)
    · split
      · exact Nat.le_trans (ih _ _ _) (by omega)
      · exact Nat.le_trans (ih _ _ _) (by omega)
set_option maxHeartbeats 4000000 in
theorem m_tf_1 (hM : MK K N S D L g) (hK : KN K N S D L) (hO : KO K N S D L) (hq : q ≤ 8) (hH : g.1 49 35 = Int32.ofNat q) (hb : ∀ i, i < q → 1 ≤ (g.1 78 i).toInt ∧ (g.1 78 i).toInt ≤ 60) (hRI : RI K N S T w) (hT : T < 29900) (hj : j < 8) : ∀ m c : Nat, c + m = 10 → ∀ (n : Nat) (f r a k : Rw) (x : Int32), n + m ≤ 80 → ∃ (r' a' k' : Rw) (b3 : Option Value),
    bc (d + 5) M_X10_tellFits none 26 [some (.ref 49), some (.int (Int32.ofNat j)), some (.int (w (24 + j))), some (.int (Int32.ofNat c))] [] (hp t (gM (gT g n f r) (upd w (24 + j) x) a k)) cn sn =
    bc (d + 5) M_X10_tellFits none 92 [some (.ref 49), some (.int (Int32.ofNat j)), some (.int (w (24 + j))), b3] [] (hp t (gM (gT g (fiL (fun z => fitL (minR K N D L) N (upd w (24 + j) (Int32.ofNat z)) (g.1 78) (g.1 79) q 0) j (w (24 + j)) m c n f).1 (fiL (fun z => fitL (minR K N D L) N (upd w (24 + j) (Int32.ofNat z)) (g.1 78) (g.1 79) q 0) j (w (24 + j)) m c n f).2 r') w a' k')) cn sn := by
  intro m
  induction m with
  | zero =>
    intro c hc n f r a k x hn
    have e9 : ((9 : Int32) < Int32.ofNat c) = True := by rw [show (9 : Int32) = Int32.ofNat 9 from rfl, nn_lt (by omega) (by omega)]; exact eq_true (by omega)
    have eu : upd w (24 + j) (w (24 + j)) = w := by funext i; rw [upd_at]; split <;> simp_all
    refine ⟨r, a, k, some (.int (Int32.ofNat c)), ?_⟩
    rw [st_X10_tellFits_26]
    simp (disch := omega) only [st_X10_tellFits_27, st_X10_tellFits_29, st_X10_tellFits_85, st_X10_tellFits_86, st_X10_tellFits_89, st_X10_tellFits_90, st_X10_tellFits_91, e9, if_true, bM_some, hg_49_28, hw_67, nn_out, nn_clamp, cond_false, gMw_67, upd_upd, eu, Nat.reduceAdd, fiL]
  | succ m ih =>
    intro c hc n f r a k x hn
    have e9 : ((9 : Int32) < Int32.ofNat c) = False := by rw [show (9 : Int32) = Int32.ofNat 9 from rfl, nn_lt (by omega) (by omega)]; exact eq_false (by omega)
    unfold fiL
    by_cases h1 : Int32.ofNat c = w (24 + j)
    · obtain ⟨r', a', k', b3, e⟩ := ih (c + 1) (by omega) n f r a k (Int32.ofNat c) (by omega)
      refine ⟨r', a', k', b3, ?_⟩
      rw [if_pos h1, ← e, st_X10_tellFits_26]
      simp (disch := omega) only [st_X10_tellFits_27, st_X10_tellFits_29, st_X10_tellFits_32, st_X10_tellFits_33, st_X10_tellFits_36, st_X10_tellFits_37, st_X10_tellFits_38, st_X10_tellFits_39, st_X10_tellFits_40, e9, if_false, bM_some, hg_49_28, hw_67, nn_out, nn_clamp, cond_false, gMw_67, upd_upd, Nat.reduceAdd]
      rw [st_X10_tellFits_41, if_pos h1]
      simp (disch := omega) only [st_X10_tellFits_79, st_X10_tellFits_82, lc_i, nn_r1, Nat.reduceAdd]
    · obtain ⟨a1, k1, ea⟩ := m_isAsHeard (d := d) (t := t) (g := gT g n f r) (w := upd w (24 + j) (Int32.ofNat c)) (a := a) (k := k) (cn := 0) (sn := 0) (MK_gT hM) hK hO hq hH hb (RI_ch hK.2.1 (by omega) hj hRI) hT
      rw [gT_E, show (gT g n f r).1 78 = g.1 78 from rfl, show (gT g n f r).1 79 = g.1 79 from rfl] at ea
      rw [if_neg h1]
      cases h2 : fitL (minR K N D L) N (upd w (24 + j) (Int32.ofNat c)) (g.1 78) (g.1 79) q 0 with
      | false =>
        rw [h2] at ea
        obtain ⟨r', a', k', b3, e⟩ := ih (c + 1) (by omega) n f (packR r 0 (upd w (24 + j) (Int32.ofNat c))) a1 k1 (Int32.ofNat c) (by omega)
        refine ⟨r', a', k', b3, ?_⟩
        rw [if_neg (by simp), ← e, st_X10_tellFits_26]
        simp (disch := omega) only [st_X10_tellFits_27, st_X10_tellFits_29, st_X10_tellFits_32, st_X10_tellFits_33, st_X10_tellFits_36, st_X10_tellFits_37, st_X10_tellFits_38, st_X10_tellFits_39, st_X10_tellFits_40, e9, if_false, bM_some, hg_49_28, hw_67, nn_out, nn_clamp, cond_false, gMw_67, upd_upd, Nat.reduceAdd]
        rw [st_X10_tellFits_41, if_neg h1]
        simp (disch := omega) only [st_X10_tellFits_44, st_X10_tellFits_48, st_X10_tellFits_51, st_X10_tellFits_79, st_X10_tellFits_82, st_X10_tellFits_45 (p := 49) hq_49 ps_, ea, b01, cond_false, if_true, bC_inl, Option.toList, List.cons_append, List.nil_append, Nat.add_zero, lc_i, nn_r1, Nat.reduceAdd]
      | true =>
        rw [h2] at ea
        obtain ⟨r', a', k', b3, e⟩ := ih (c + 1) (by omega) (n + 1) (upd f n (Int32.ofNat (10 * j + c))) (packR r 0 (upd w (24 + j) (Int32.ofNat c))) a1 k1 (Int32.ofNat c) (by omega)
        refine ⟨r', a', k', b3, ?_⟩
        rw [if_pos rfl, ← e, st_X10_tellFits_26]
        simp (disch := omega) only [st_X10_tellFits_27, st_X10_tellFits_29, st_X10_tellFits_32, st_X10_tellFits_33, st_X10_tellFits_36, st_X10_tellFits_37, st_X10_tellFits_38, st_X10_tellFits_39, st_X10_tellFits_40, e9, if_false, bM_some, hg_49_28, hw_67, nn_out, nn_clamp, cond_false, gMw_67, upd_upd, Nat.reduceAdd]
        rw [st_X10_tellFits_41, if_neg h1]
        simp (disch := omega) only [st_X10_tellFits_44, st_X10_tellFits_48, st_X10_tellFits_54, st_X10_tellFits_55, st_X10_tellFits_58, st_X10_tellFits_59, st_X10_tellFits_62, st_X10_tellFits_64, st_X10_tellFits_65, st_X10_tellFits_66, st_X10_tellFits_67, st_X10_tellFits_68, st_X10_tellFits_69, st_X10_tellFits_71, st_X10_tellFits_74, st_X10_tellFits_75, st_X10_tellFits_76, st_X10_tellFits_79, st_X10_tellFits_82, st_X10_tellFits_70r, st_X10_tellFits_45 (p := 49) hq_49 ps_, ea, b01, cond_true, nn_one0, if_false, bM_some, hg_49_46, hg_49_47, hs_49_47, hw_81, gM_49, gT_47, nn_out, nn_clamp, nn_m10, nn_add, cond_false, gM_hI, gM_hI49, gT_f, gT_n, bC_inl, Option.toList, List.cons_append, List.nil_append, Nat.add_zero, lc_i, nn_r1, Nat.reduceAdd]
theorem foL_le {ok : Nat → Nat → Bool} : ∀ (m j n : Nat) (f : Rw), (foL ok w m j n f).1 ≤ n + 10 * m := by
  intro m
  induction m with
  | zero => intro j n f; exact Nat.le_refl n
  | succ m ih =>
    intro j n f
    unfold foL
    have h1 := ih (j + 1) (fiL (ok j) j (w (24 + j)) 10 0 n f).1 (fiL (ok j) j (w (24 + j)) 10 0 n f).2
    have h2 := fiL_le (ok := ok j) (j := j) (was := w (24 + j)) 10 0 n f
    omega
set_option maxHeartbeats 4000000 in
theorem m_tf_2 (hM : MK K N S D L g) (hK : KN K N S D L) (hO : KO K N S D L) (hq : q ≤ 8) (hH : g.1 49 35 = Int32.ofNat q) (hb : ∀ i, i < q → 1 ≤ (g.1 78 i).toInt ∧ (g.1 78 i).toInt ≤ 60) (hRI : RI K N S T w) (hT : T < 29900) : ∀ m j : Nat, j + m = N → ∀ (n : Nat) (f r a k : Rw) (a2 a3 : Option Value), n + 10 * m ≤ 80 → ∃ (r' a' k' : Rw),
    bc (d + 5) M_X10_tellFits none 7 [some (.ref 49), some (.int (Int32.ofNat j)), a2, a3] [] (hp t (gM (gT g n f r) w a k)) cn sn =
    some (.inl none, hp t (gM (gT g (foL (fun y z => fitL (minR K N D L) N (upd w (24 + y) (Int32.ofNat z)) (g.1 78) (g.1 79) q 0) w m j n f).1 (foL (fun y z => fitL (minR K N D L) N (upd w (24 + y) (Int32.ofNat z)) (g.1 78) (g.1 79) q 0) w m j n f).2 r') w a' k'), cn, sn) := by
  have h8 := hK.2.1
  intro m
  induction m with
  | zero =>
    intro j hj n f r a k a2 a3 hn
    refine ⟨r, a, k, ?_⟩
    rw [st_X10_tellFits_7]
    simp (disch := omega) only [st_X10_tellFits_8, st_X10_tellFits_9, st_X10_tellFits_12, st_X10_tellFits_13, st_X10_tellFits_14, st_X10_tellFits_98, bM_some, hg_49_3, ha_52, gM_o, (MK_gT hM).n hK, nn_oc0, nn_c0, cond_false, nn_lt, show ¬ j < N by omega, if_false, foL, Nat.reduceAdd]
  | succ m ih =>
    intro j hj n f r a k a2 a3 hn
    have eu : upd w (24 + j) (w (24 + j)) = w := by funext i; rw [upd_at]; split <;> simp_all
    obtain ⟨r1, a1, k1, b3, e⟩ := m_tf_1 (d := d) (t := t) (cn := cn) (sn := sn) (j := j) hM hK hO hq hH hb hRI hT (by omega) 10 0 (by omega) n f r a k (w (24 + j)) (by omega)
    have hle := fiL_le (ok := fun z => fitL (minR K N D L) N (upd w (24 + j) (Int32.ofNat z)) (g.1 78) (g.1 79) q 0) (j := j) (was := w (24 + j)) 10 0 n f
    obtain ⟨r', a', k', e'⟩ := ih (j + 1) (by omega) (fiL (fun z => fitL (minR K N D L) N (upd w (24 + j) (Int32.ofNat z)) (g.1 78) (g.1 79) q 0) j (w (24 + j)) 10 0 n f).1 (fiL (fun z => fitL (minR K N D L) N (upd w (24 + j) (Int32.ofNat z)) (g.1 78) (g.1 79) q 0) j (w (24 + j)) 10 0 n f).2 r1 a1 k1 (some (.int (w (24 + j)))) b3 (by omega)
    refine ⟨r', a', k', ?_⟩
    unfold foL
    rw [← e', st_X10_tellFits_7]
    rw [eu, show Int32.ofNat 0 = (0 : Int32) from rfl] at e
    simp (disch := omega) only [st_X10_tellFits_8, st_X10_tellFits_9, st_X10_tellFits_12, st_X10_tellFits_13, st_X10_tellFits_14, st_X10_tellFits_17, st_X10_tellFits_18, st_X10_tellFits_21, st_X10_tellFits_22, st_X10_tellFits_23, st_X10_tellFits_24, st_X10_tellFits_25, bM_some, hg_49_3, hg_49_28, ha_52, ha_67, gM_o, gM_67, (MK_gT hM).n hK, nn_oc0, nn_c0, nn_out, nn_clamp, cond_false, nn_lt, show j < N by omega, if_true, lc_r, lc_i, Nat.reduceAdd]
    refine Eq.trans e ?_
    simp (disch := omega) only [st_X10_tellFits_92, st_X10_tellFits_95, lc_r, lc_i, nn_r1, Nat.reduceAdd]
end MFIT
