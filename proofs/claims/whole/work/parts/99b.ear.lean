/-! ===== the Ear: what fits ===== -/
def hQ (g : hG) (c : Nat) (F : Nat → Int64) : hG := (g.1, fun k => bif Nat.beq k c then F else g.2.1 k, g.2.2)
theorem hJ_Q {g : hG} {c j : Nat} {x : Int64} : hJ g c j x = hQ g c (vp_updL (g.2.1 c) j x) := rfl
theorem hQ_at {g : hG} {c c' j : Nat} {F : Nat → Int64} : (hQ g c F).2.1 c' j = if c' = c then F j else g.2.1 c' j := by
  show (bif Nat.beq c' c then F else g.2.1 c') j = _
  by_cases h : c' = c
  · rw [h, show Nat.beq c c = true from Nat.beq_refl c, if_pos rfl]; rfl
  · rw [show Nat.beq c' c = false from Bool.eq_false_iff.mpr (fun z => h (Nat.eq_of_beq_eq_true z)), if_neg h]; rfl
theorem hQ_1 {g : hG} {c : Nat} {F : Nat → Int64} : (hQ g c F).1 = g.1 := rfl
theorem hQ_22 {g : hG} {c : Nat} {F : Nat → Int64} : (hQ g c F).2.2 = g.2.2 := rfl
/-- the notes of the minutes to come, laid from place i on -/
def chL (f : Rw → Rw) (N : Nat) : Nat → Nat → Rw → (Nat → Int64) → (Nat → Int64)
  | 0, _, _, F => F
  | m + 1, i, w, F => chL f N m (i + 1) (f w) (vp_updL F i (notesN (f w) N))
theorem chL_at {f : Rw → Rw} {N : Nat} : ∀ (m i : Nat) (w : Rw) (F : Nat → Int64) (x : Nat), chL f N m i w F x = if i ≤ x ∧ x < i + m then notesN (iterR f (x - i + 1) w) N else F x := by
  intro m
  induction m with
  | zero => intro i w F x; unfold chL; rw [if_neg (by omega)]
  | succ m ih =>
    intro i w F x
    unfold chL
    rw [ih]
    by_cases h : i + 1 ≤ x ∧ x < i + 1 + m
    · rw [if_pos h, if_pos (by omega), show x - i + 1 = (x - (i + 1) + 1) + 1 by omega]; rfl
    · rw [if_neg h]
      unfold vp_updL
      by_cases e : x = i
      · rw [if_pos e, if_pos (by omega), e, Nat.sub_self]; rfl
      · rw [if_neg e, if_neg (by omega)]
section EAR
variable {d : Nat} {t : List px_E} {g : hG} {j q N S D L cn sn : Nat} {w v k : Rw} {s : Int32} {n : Int64} {x y : Int32} {F : Nat → Int64}
theorem gP_39 {i : Nat} {u : Int64} : hJ (gP (hQ g 39 F) 38 w s n v k) 39 i u = gP (hQ g 39 (vp_updL F i u)) 38 w s n v k := by
  apply hG_ext
  · intro c j; rfl
  · intro c j
    simp only [gP, hR_at, hI_at, hJ_at, hR_2, hI_2, hJ_1, hJ_22, hQ_at]
    unfold vp_updL
    (repeat' split) <;> first | rfl | (exfalso; omega)
  · rfl
theorem gP_39r : (gP (hQ g 39 F) 38 w s n v k).2.1 39 = F := rfl
set_option maxHeartbeats 4000000 in
theorem c_fits_1 (hK : KN (kC g) N S D L) (hO : KO (kC g) N S D L) (a4 a5 a6 a7 : Option Value) : ∀ m i : Nat, i + m = 61 → ∀ (w : Rw) (s : Int32) (n : Int64) (v k : Rw) (F : Nat → Int64), Z54 w → ∃ (w' : Rw) (s' : Int32) (n' : Int64) (v' k' : Rw) (b3 : Option Value), Z54 w' ∧
    bc (d + 4) M_X1_fits none 2 [some (.ref 37), some (.ref 16), some (.ref 34), some (.int (Int32.ofNat i)), a4, a5, a6, a7] [] (hp t (gP (hQ g 39 F) 38 w s n v k)) cn sn =
    bc (d + 4) M_X1_fits none 32 [some (.ref 37), some (.ref 16), some (.ref 34), b3, a4, a5, a6, a7] [] (hp t (gP (hQ g 39 (chL (minR (kC g) N D L) N m i w F)) 38 w' s' n' v' k')) cn sn := by
  intro m
  induction m with
  | zero =>
    intro i hi w s n v k F hz
    refine ⟨w, s, n, v, k, some (.int (Int32.ofNat i)), hz, ?_⟩
    rw [st_X1_fits_2]
    simp (disch := omega) only [st_X1_fits_3, st_X1_fits_5, nn_g60, show 60 < i by omega, if_true, chL, Nat.reduceAdd]
  | succ m ih =>
    intro i hi w s n v k F hz
    obtain ⟨v1, k1, e⟩ := c_min (d := d) (t := t) (g := hQ g 39 F) (cn := 0) (sn := 0) (w := w) (s := s) (n := n) (v := v) (k := k) h38 hK hO
    rw [show kC (hQ g 39 F) = kC g from rfl] at e
    obtain ⟨w', s', n', v', k', b3, hz', e'⟩ := ih (i + 1) (by omega) (minR (kC g) N D L w) (Int32.ofNat (cntN (bS (minR (kC g) N D L w)) N)) (notesN (minR (kC g) N D L w) N) v1 k1 (vp_updL F i (notesN (minR (kC g) N D L w) N)) (Z54_min hK hO hz)
    refine ⟨w', s', n', v', k', b3, hz', ?_⟩
    rw [show chL (minR (kC g) N D L) N (m + 1) i w F = chL (minR (kC g) N D L) N m (i + 1) (minR (kC g) N D L w) (vp_updL F i (notesN (minR (kC g) N D L w) N)) from rfl, ← e', st_X1_fits_2]
    simp (disch := omega) only [st_X1_fits_3, st_X1_fits_5, st_X1_fits_8, st_X1_fits_9, st_X1_fits_10, st_X1_fits_16, st_X1_fits_17, st_X1_fits_20, st_X1_fits_21, st_X1_fits_22, st_X1_fits_25, st_X1_fits_26, st_X1_fits_29, st_X1_fits_13 (p := 16) hq_16 ps_, bM_some, hg_37_0, hg_37_1, hg_16_13, hw_39, cond_false, e, gP_n h38, gP_39, nn_g60, show ¬ 60 < i by omega, if_false, nn_out, nn_clamp, bC_inl, Option.toList, List.nil_append, Nat.add_zero, Nat.reduceAdd, lc_r, lc_i, nn_r1]
/-- what is heard is so: minute by minute -/
def soB (F : Nat → Int64) (hm hn : Rw) : Nat → Nat → Bool
  | 0, _ => true
  | m + 1, i => if (if hn i = -1 then F (hm i).toNatClampNeg = 0 else shr (F (hm i).toNatClampNeg) (hn i) &&& 1 = 1) then soB F hm hn m (i + 1) else false
theorem lcmpi1 {α : Type} {x : Int64} {A B : α} : (if lg_cmp x 1 = 0 then A else B) = if x = 1 then A else B := lcmpi
set_option maxHeartbeats 4000000 in
theorem c_fits_2 (hq8 : q ≤ 8) (hH : g.1 34 2 = Int32.ofNat q) (hb : ∀ i, i < q → 1 ≤ (g.1 35 i).toInt ∧ (g.1 35 i).toInt ≤ 60) : ∀ m i : Nat, i + m = q → ∀ (a4 a5 a6 a7 : Option Value),
    bc (d + 4) M_X1_fits none 34 [some (.ref 37), some (.ref 16), some (.ref 34), some (.int (Int32.ofNat i)), a4, a5, a6, a7] [] (hp t (gP (hQ g 39 F) 38 w s n v k)) cn sn = some (.inl (some (.int (bif soB F (g.1 35) (g.1 36) m i then 1 else 0))), hp t (gP (hQ g 39 F) 38 w s n v k), cn, sn) := by
  have hH' : (gP (hQ g 39 F) 38 w s n v k).1 34 2 = Int32.ofNat q := hH
  have f1 : (gP (hQ g 39 F) 38 w s n v k).1 35 = g.1 35 := rfl
  have f2 : (gP (hQ g 39 F) 38 w s n v k).1 36 = g.1 36 := rfl
  intro m
  induction m with
  | zero =>
    intro i hi a4 a5 a6 a7
    rw [st_X1_fits_34]
    simp (disch := omega) only [st_X1_fits_35, st_X1_fits_36, st_X1_fits_39, st_X1_fits_116, st_X1_fits_117b, bM_some, hg_34_2, hH', nn_lt, show ¬ i < q by omega, if_false, Nat.reduceAdd, soB, cond_true]
  | succ m ih =>
    intro i hi a4 a5 a6 a7
    have hbi := hb i (by omega)
    have hcl := ii_clamp (a := g.1 35 i)
    have ho : px_out (g.1 35 i) 61 = false := ii_out (by omega) (by omega)
    rw [st_X1_fits_34]
    unfold soB
    by_cases h1 : g.1 36 i = -1
    · by_cases h2 : F (g.1 35 i).toNatClampNeg = 0
      · rw [if_pos (by rw [if_pos h1]; exact h2)]
        rw [← ih (i + 1) (by omega) (some (.int (g.1 36 i))) (some (.long (F (g.1 35 i).toNatClampNeg))) none (some (.int 1))]
        simp (disch := omega) only [st_X1_fits_0, lc_i, lc_r, lc_n, lc_j, lc_f, st_X1_fits_1, st_X1_fits_3, st_X1_fits_5, st_X1_fits_8, st_X1_fits_9, bM_some, hg_37_0, st_X1_fits_10, st_X1_fits_13 (p := 16) hq_16 ps_, bC_inl, Option.toList, List.cons_append, List.nil_append, Nat.add_zero, st_X1_fits_16, hg_37_1, st_X1_fits_17, st_X1_fits_20, st_X1_fits_21, hg_16_13, st_X1_fits_22, cond_false, hw_39, st_X1_fits_25, st_X1_fits_26, st_X1_fits_29, st_X1_fits_32, st_X1_fits_33, st_X1_fits_35, hg_34_2, st_X1_fits_36, st_X1_fits_39, st_X1_fits_42, hg_34_1, st_X1_fits_43, st_X1_fits_46, ha_36, st_X1_fits_47, st_X1_fits_48, st_X1_fits_50, st_X1_fits_51, st_X1_fits_54, hg_34_0, st_X1_fits_55, st_X1_fits_58, ha_35, st_X1_fits_59, ha_39, st_X1_fits_60, st_X1_fits_61, st_X1_fits_63, st_X1_fits_65, st_X1_fits_66, st_X1_fits_69, st_X1_fits_71, st_X1_fits_72, st_X1_fits_73, st_X1_fits_76, st_X1_fits_77, st_X1_fits_101, st_X1_fits_103, st_X1_fits_105, st_X1_fits_108, st_X1_fits_109, st_X1_fits_109b, st_X1_fits_110, st_X1_fits_113, st_X1_fits_80, st_X1_fits_81, st_X1_fits_84, st_X1_fits_86, st_X1_fits_88, st_X1_fits_89, st_X1_fits_90, st_X1_fits_91, st_X1_fits_92, st_X1_fits_93, st_X1_fits_96, st_X1_fits_97, st_X1_fits_100, st_X1_fits_116, st_X1_fits_117, st_X1_fits_117b, Nat.reduceAdd, hH', f1, f2, gP_39r, nn_lt, show i < q by omega, if_true, nn_out, nn_clamp, ho, h1, h2, lcmpi, nn_one0, if_false, nn_r1]
      · rw [if_neg (by rw [if_pos h1]; exact h2), cond_false]
        simp (disch := omega) only [st_X1_fits_0, lc_i, lc_r, lc_n, lc_j, lc_f, st_X1_fits_1, st_X1_fits_3, st_X1_fits_5, st_X1_fits_8, st_X1_fits_9, bM_some, hg_37_0, st_X1_fits_10, st_X1_fits_13 (p := 16) hq_16 ps_, bC_inl, Option.toList, List.cons_append, List.nil_append, Nat.add_zero, st_X1_fits_16, hg_37_1, st_X1_fits_17, st_X1_fits_20, st_X1_fits_21, hg_16_13, st_X1_fits_22, cond_false, hw_39, st_X1_fits_25, st_X1_fits_26, st_X1_fits_29, st_X1_fits_32, st_X1_fits_33, st_X1_fits_35, hg_34_2, st_X1_fits_36, st_X1_fits_39, st_X1_fits_42, hg_34_1, st_X1_fits_43, st_X1_fits_46, ha_36, st_X1_fits_47, st_X1_fits_48, st_X1_fits_50, st_X1_fits_51, st_X1_fits_54, hg_34_0, st_X1_fits_55, st_X1_fits_58, ha_35, st_X1_fits_59, ha_39, st_X1_fits_60, st_X1_fits_61, st_X1_fits_63, st_X1_fits_65, st_X1_fits_66, st_X1_fits_69, st_X1_fits_71, st_X1_fits_72, st_X1_fits_73, st_X1_fits_76, st_X1_fits_77, st_X1_fits_101, st_X1_fits_103, st_X1_fits_105, st_X1_fits_108, st_X1_fits_109, st_X1_fits_109b, st_X1_fits_110, st_X1_fits_113, st_X1_fits_80, st_X1_fits_81, st_X1_fits_84, st_X1_fits_86, st_X1_fits_88, st_X1_fits_89, st_X1_fits_90, st_X1_fits_91, st_X1_fits_92, st_X1_fits_93, st_X1_fits_96, st_X1_fits_97, st_X1_fits_100, st_X1_fits_116, st_X1_fits_117, st_X1_fits_117b, Nat.reduceAdd, hH', f1, f2, gP_39r, nn_lt, show i < q by omega, if_true, nn_out, nn_clamp, ho, h1, h2, lcmpi, if_false]
    · by_cases h2 : shr (F (g.1 35 i).toNatClampNeg) (g.1 36 i) &&& 1 = 1
      · rw [if_pos (by rw [if_neg h1]; exact h2)]
        rw [← ih (i + 1) (by omega) (some (.int (g.1 36 i))) (some (.long (F (g.1 35 i).toNatClampNeg))) none (some (.int 1))]
        unfold shr at h2
        simp (disch := omega) only [st_X1_fits_0, lc_i, lc_r, lc_n, lc_j, lc_f, st_X1_fits_1, st_X1_fits_3, st_X1_fits_5, st_X1_fits_8, st_X1_fits_9, bM_some, hg_37_0, st_X1_fits_10, st_X1_fits_13 (p := 16) hq_16 ps_, bC_inl, Option.toList, List.cons_append, List.nil_append, Nat.add_zero, st_X1_fits_16, hg_37_1, st_X1_fits_17, st_X1_fits_20, st_X1_fits_21, hg_16_13, st_X1_fits_22, cond_false, hw_39, st_X1_fits_25, st_X1_fits_26, st_X1_fits_29, st_X1_fits_32, st_X1_fits_33, st_X1_fits_35, hg_34_2, st_X1_fits_36, st_X1_fits_39, st_X1_fits_42, hg_34_1, st_X1_fits_43, st_X1_fits_46, ha_36, st_X1_fits_47, st_X1_fits_48, st_X1_fits_50, st_X1_fits_51, st_X1_fits_54, hg_34_0, st_X1_fits_55, st_X1_fits_58, ha_35, st_X1_fits_59, ha_39, st_X1_fits_60, st_X1_fits_61, st_X1_fits_63, st_X1_fits_65, st_X1_fits_66, st_X1_fits_69, st_X1_fits_71, st_X1_fits_72, st_X1_fits_73, st_X1_fits_76, st_X1_fits_77, st_X1_fits_101, st_X1_fits_103, st_X1_fits_105, st_X1_fits_108, st_X1_fits_109, st_X1_fits_109b, st_X1_fits_110, st_X1_fits_113, st_X1_fits_80, st_X1_fits_81, st_X1_fits_84, st_X1_fits_86, st_X1_fits_88, st_X1_fits_89, st_X1_fits_90, st_X1_fits_91, st_X1_fits_92, st_X1_fits_93, st_X1_fits_96, st_X1_fits_97, st_X1_fits_100, st_X1_fits_116, st_X1_fits_117, st_X1_fits_117b, Nat.reduceAdd, hH', f1, f2, gP_39r, nn_lt, show i < q by omega, if_true, nn_out, nn_clamp, ho, h1, h2, lcmpi, nn_one0, if_false, nn_r1]
      · rw [if_neg (by rw [if_neg h1]; exact h2), cond_false]
        unfold shr at h2
        simp (disch := omega) only [st_X1_fits_0, lc_i, lc_r, lc_n, lc_j, lc_f, st_X1_fits_1, st_X1_fits_3, st_X1_fits_5, st_X1_fits_8, st_X1_fits_9, bM_some, hg_37_0, st_X1_fits_10, st_X1_fits_13 (p := 16) hq_16 ps_, bC_inl, Option.toList, List.cons_append, List.nil_append, Nat.add_zero, st_X1_fits_16, hg_37_1, st_X1_fits_17, st_X1_fits_20, st_X1_fits_21, hg_16_13, st_X1_fits_22, cond_false, hw_39, st_X1_fits_25, st_X1_fits_26, st_X1_fits_29, st_X1_fits_32, st_X1_fits_33, st_X1_fits_35, hg_34_2, st_X1_fits_36, st_X1_fits_39, st_X1_fits_42, hg_34_1, st_X1_fits_43, st_X1_fits_46, ha_36, st_X1_fits_47, st_X1_fits_48, st_X1_fits_50, st_X1_fits_51, st_X1_fits_54, hg_34_0, st_X1_fits_55, st_X1_fits_58, ha_35, st_X1_fits_59, ha_39, st_X1_fits_60, st_X1_fits_61, st_X1_fits_63, st_X1_fits_65, st_X1_fits_66, st_X1_fits_69, st_X1_fits_71, st_X1_fits_72, st_X1_fits_73, st_X1_fits_76, st_X1_fits_77, st_X1_fits_101, st_X1_fits_103, st_X1_fits_105, st_X1_fits_108, st_X1_fits_109, st_X1_fits_109b, st_X1_fits_110, st_X1_fits_113, st_X1_fits_80, st_X1_fits_81, st_X1_fits_84, st_X1_fits_86, st_X1_fits_88, st_X1_fits_89, st_X1_fits_90, st_X1_fits_91, st_X1_fits_92, st_X1_fits_93, st_X1_fits_96, st_X1_fits_97, st_X1_fits_100, st_X1_fits_116, st_X1_fits_117, st_X1_fits_117b, Nat.reduceAdd, hH', f1, f2, gP_39r, nn_lt, show i < q by omega, if_true, nn_out, nn_clamp, ho, h1, h2, lcmpi, if_false]
end EAR
