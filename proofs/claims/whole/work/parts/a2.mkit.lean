/-! ===== the reference: a line, and all of them ===== -/
section MKIT
variable {d D : Nat} {t : List px_E} {g : hG} {n cn sn dep : Nat} {b r q : Rw} {x y : Int32} {σ σ' σ'' : Sg} {c N M k m : Nat} {a2 : Option Value}
theorem nn_nm1 {k : Nat} (hk : k < 1000) : (Int32.ofNat k = (-1 : Int32)) = False := eq_false (fun h => by
  have h' := congrArg Int32.toInt h
  rw [Int32.toInt_ofNat_of_lt (by omega)] at h'
  have e : (-1 : Int32).toInt = -1 := by decide
  omega)
set_option maxHeartbeats 8000000 in
theorem j_line (h : MQr b n q σ g) (hGi : GI σ) (h0 : σ.1 0 = 0) : ∃ g' : hG, MQr b n q (pBod b n σ) g' ∧ SmM g g' ∧ bc (d + 53) M_X10_readLine none 0 [some (.ref 49), some (.int (Int32.ofNat (σ.1 10))), none] [] (hp t g) cn sn = some (.inl (some (.int (Int32.ofNat ((pBod b n σ).1 10)))), hp t g', cn, sn) := by
  have ek := j_whichK (d := d + 39) (t := t) (cn := 0) (sn := 0) h
  have s1 := j_is (d := d + 40) (t := t) (cn := 0) (sn := 0) tx_51 (by decide) asc_sto h
  have s2 := j_is (d := d + 40) (t := t) (cn := 0) (sn := 0) tx_52 (by decide) asc_dis h
  have s3 := j_is (d := d + 40) (t := t) (cn := 0) (sn := 0) tx_50 (by decide) asc_lif h
  have w10 := (h.2.1.2.2 h0).2.2.2.2.2
  have f0 := bad_e h
  unfold pBod
  rw [ex_10]
  unfold pLin
  cases hk : whW b σ wKin 0 with
  | some kd =>
    rw [hk] at ek
    have hk4 : kd < 4 := by have := whW_lt wKin 0 hk; exact (by simpa [wKin] using this)
    rw [wh_lif hk] at s3
    obtain ⟨g1, c1, m1, e1⟩ := j_Kettle (d := d + 49) (t := t) (cn := 0) (sn := 0) (kd := kd) h h0
    obtain ⟨g2, c2, m2, e2⟩ := j_mark (d := d + 50) (t := t) (x := 59) (cn := 0) (sn := 0) (by decide) c1
    refine ⟨g2, c2, m1.trans m2, ?_⟩
    dsimp only
    rw [ket_10]
    simp (disch := omega) only [st_X10_readLine_0, st_X10_readLine_1, st_X10_readLine_2, st_X10_readLine_8, st_X10_readLine_9, st_X10_readLine_10, st_X10_readLine_16, st_X10_readLine_53, st_X10_readLine_54, st_X10_readLine_55, st_X10_readLine_58, st_X10_readLine_59, st_X10_readLine_63, st_X10_readLine_105, st_X10_readLine_106, st_X10_readLine_111, st_X10_readLine_112, st_X10_readLine_5 (p := 49) hq_49 ps_, st_X10_readLine_13 (p := 49) hq_49 ps_, st_X10_readLine_60 (p := 49) hq_49 ps_, st_X10_readLine_108 (p := 49) hq_49 ps_, bM_some, hg_49_0, ek, s3, wI, nn_nm1, if_false, if_true, b01, cond_false, e1, e2, bC_inl, Option.toList, List.cons_append, List.nil_append, Nat.add_zero, lc_r, lc_i, lc_n, Nat.reduceAdd]
  | none =>
    rw [hk] at ek
    dsimp only
    cases q1 : pIsW b wSto σ with
    | true =>
      rw [q1] at s1
      rw [sto_lif q1] at s3
      obtain ⟨g1, c1, m1, e1⟩ := j_Stove (d := d + 49) (t := t) (cn := 0) (sn := 0) h h0
      obtain ⟨g2, c2, m2, e2⟩ := j_mark (d := d + 50) (t := t) (x := 59) (cn := 0) (sn := 0) (by decide) c1
      rw [if_pos rfl]
      refine ⟨g2, c2, m1.trans m2, ?_⟩
      rw [stv_10]
      simp (disch := omega) only [st_X10_readLine_0, st_X10_readLine_1, st_X10_readLine_2, st_X10_readLine_8, st_X10_readLine_9, st_X10_readLine_10, st_X10_readLine_16, st_X10_readLine_53, st_X10_readLine_54, st_X10_readLine_55, st_X10_readLine_66, st_X10_readLine_67, st_X10_readLine_73, st_X10_readLine_76, st_X10_readLine_80, st_X10_readLine_105, st_X10_readLine_106, st_X10_readLine_111, st_X10_readLine_112, st_X10_readLine_5 (p := 49) hq_49 ps_, st_X10_readLine_13 (p := 49) hq_49 ps_, st_X10_readLine_70 (p := 49) hq_49 ps_, st_X10_readLine_77 (p := 49) hq_49 ps_, st_X10_readLine_108 (p := 49) hq_49 ps_, bM_some, hg_49_0, ek, s3, s1, wI, nn_one0, if_false, if_true, b01, cond_false, cond_true, e1, e2, bC_inl, Option.toList, List.cons_append, List.nil_append, Nat.add_zero, lc_r, lc_i, lc_n, Nat.reduceAdd]
    | false =>
      rw [q1] at s1
      rw [if_neg (by simp)]
      cases q2 : pIsW b wDis σ with
      | true =>
        rw [q2] at s2
        rw [isW_no q2 (by decide)] at s3
        obtain ⟨g1, c1, m1, e1⟩ := j_Dish (d := d + 49) (t := t) (cn := 0) (sn := 0) h h0
        obtain ⟨g2, c2, m2, e2⟩ := j_mark (d := d + 50) (t := t) (x := 59) (cn := 0) (sn := 0) (by decide) c1
        rw [if_pos rfl]
        refine ⟨g2, c2, m1.trans m2, ?_⟩
        rw [dsh_10]
        simp (disch := omega) only [st_X10_readLine_0, st_X10_readLine_1, st_X10_readLine_2, st_X10_readLine_8, st_X10_readLine_9, st_X10_readLine_10, st_X10_readLine_16, st_X10_readLine_53, st_X10_readLine_54, st_X10_readLine_55, st_X10_readLine_66, st_X10_readLine_67, st_X10_readLine_73, st_X10_readLine_83, st_X10_readLine_84, st_X10_readLine_90, st_X10_readLine_93, st_X10_readLine_97, st_X10_readLine_105, st_X10_readLine_106, st_X10_readLine_111, st_X10_readLine_112, st_X10_readLine_5 (p := 49) hq_49 ps_, st_X10_readLine_13 (p := 49) hq_49 ps_, st_X10_readLine_70 (p := 49) hq_49 ps_, st_X10_readLine_87 (p := 49) hq_49 ps_, st_X10_readLine_94 (p := 49) hq_49 ps_, st_X10_readLine_108 (p := 49) hq_49 ps_, bM_some, hg_49_0, ek, s3, s1, s2, wI, nn_one0, if_false, if_true, b01, cond_false, cond_true, e1, e2, bC_inl, Option.toList, List.cons_append, List.nil_append, Nat.add_zero, lc_r, lc_i, lc_n, Nat.reduceAdd]
      | false =>
        rw [q2] at s2
        rw [if_neg (by simp)]
        cases q3 : pIsW b wLif σ with
        | true =>
          rw [q3] at s3
          rw [if_pos rfl, lif_10 h0 w10]
          unfold pLif
          rw [if_pos h0]
          by_cases h10 : σ.1 10 = 0
          · rw [if_pos h10, h10]
            have c0 := MQr_10 h
            obtain ⟨g1, c1, m1, e1⟩ := j_adv (d := d + 51) (t := t) (cn := 0) (sn := 0) c0 h0
            have gi1 : GI (pAdv b n (sN σ 10 1)) := GI_gn (σ := sN σ 10 1) (gn_adv0 c0.2.1) hGi
            obtain ⟨g2, c2, m2, e2⟩ := j_expr (b := b) (n := n) (q := q) (d := d) 6 0 (by omega) _ g1 t 0 0 c1 gi1
            rw [show d + 16 + 6 * 6 = d + 52 by omega, show Int32.ofNat 0 = (0 : Int32) from rfl] at e2
            obtain ⟨g3, c3, m3, e3⟩ := j_mark (d := d + 50) (t := t) (x := 59) (cn := 0) (sn := 0) (by decide) c2
            refine ⟨g3, c3, m1.trans (m2.trans m3), ?_⟩
            have z1 : ((0 : Int32) = 1) = False := eq_false (by decide)
            rw [show Int32.ofNat 0 = (0 : Int32) from rfl, show Int32.ofNat 1 = (1 : Int32) from rfl]
            simp (disch := omega) only [st_X10_readLine_0, st_X10_readLine_1, st_X10_readLine_2, st_X10_readLine_8, st_X10_readLine_9, st_X10_readLine_10, st_X10_readLine_16, st_X10_readLine_19, st_X10_readLine_20, st_X10_readLine_21, st_X10_readLine_29, st_X10_readLine_30, st_X10_readLine_33, st_X10_readLine_36, st_X10_readLine_40, st_X10_readLine_41, st_X10_readLine_45, st_X10_readLine_46, st_X10_readLine_51, st_X10_readLine_52, st_X10_readLine_5 (p := 49) hq_49 ps_, st_X10_readLine_13 (p := 49) hq_49 ps_, st_X10_readLine_37 (p := 49) hq_49 ps_, st_X10_readLine_42 (p := 49) hq_49 ps_, st_X10_readLine_48 (p := 49) hq_49 ps_, bM_some, hg_49_0, hg_49_22, f0.trans (eq_true h0), ek, s3, wI, z1, nn_one0, if_false, if_true, b01, cond_false, cond_true, e1, e2, e3, bC_inl, Option.toList, List.cons_append, List.nil_append, Nat.add_zero, lc_r, lc_i, lc_n, Nat.reduceAdd]
          · obtain ⟨g1, c1, m1, e1⟩ := j_wrong (d := d + 52) (t := t) (cn := 0) (sn := 0) (c := 5) h (by omega)
            rw [if_neg h10, show σ.1 10 = 1 by omega]
            have z1 : ¬ (pFl 5 σ).1 0 = 0 := by rw [pFl_0, if_pos h0]; omega
            have f1 := bad_e c1
            obtain ⟨g2, c2, m2, e2⟩ := j_expr (b := b) (n := n) (q := q) (d := d) 6 0 (by omega) _ g1 t 0 0 c1 (fun z => absurd z z1)
            rw [expr_err 6 _ z1] at c2
            rw [show d + 16 + 6 * 6 = d + 52 by omega, show Int32.ofNat 0 = (0 : Int32) from rfl] at e2
            rw [show Int32.ofNat 5 = (5 : Int32) from rfl] at e1
            obtain ⟨g3, c3, m3, e3⟩ := j_mark (d := d + 50) (t := t) (x := 59) (cn := 0) (sn := 0) (by decide) c2
            refine ⟨g3, c3, m1.trans (m2.trans m3), ?_⟩
            rw [show Int32.ofNat 1 = (1 : Int32) from rfl]
            simp (disch := omega) only [st_X10_readLine_0, st_X10_readLine_1, st_X10_readLine_2, st_X10_readLine_8, st_X10_readLine_9, st_X10_readLine_10, st_X10_readLine_16, st_X10_readLine_19, st_X10_readLine_20, st_X10_readLine_21, st_X10_readLine_24, st_X10_readLine_25, st_X10_readLine_29, st_X10_readLine_30, st_X10_readLine_33, st_X10_readLine_40, st_X10_readLine_41, st_X10_readLine_45, st_X10_readLine_46, st_X10_readLine_51, st_X10_readLine_52, st_X10_readLine_5 (p := 49) hq_49 ps_, st_X10_readLine_13 (p := 49) hq_49 ps_, st_X10_readLine_26 (p := 49) hq_49 ps_, st_X10_readLine_42 (p := 49) hq_49 ps_, st_X10_readLine_48 (p := 49) hq_49 ps_, bM_some, hg_49_0, hg_49_22, f1.trans (eq_false z1), ek, s3, wI, nn_one0, if_false, if_true, b01, cond_false, cond_true, e1, e2, e3, bC_inl, Option.toList, List.cons_append, List.nil_append, Nat.add_zero, lc_r, lc_i, lc_n, Nat.reduceAdd]
        | false =>
          rw [q3] at s3
          obtain ⟨g1, c1, m1, e1⟩ := j_wrong (d := d + 52) (t := t) (cn := 0) (sn := 0) (c := 1) h (by omega)
          rw [show Int32.ofNat 1 = (1 : Int32) from rfl] at e1
          obtain ⟨g2, c2, m2, e2⟩ := j_mark (d := d + 50) (t := t) (x := 59) (cn := 0) (sn := 0) (by decide) c1
          rw [if_neg (by simp)]
          refine ⟨g2, c2, m1.trans m2, ?_⟩
          rw [pFl_o (by omega)]
          simp (disch := omega) only [st_X10_readLine_0, st_X10_readLine_1, st_X10_readLine_2, st_X10_readLine_8, st_X10_readLine_9, st_X10_readLine_10, st_X10_readLine_16, st_X10_readLine_53, st_X10_readLine_54, st_X10_readLine_55, st_X10_readLine_66, st_X10_readLine_67, st_X10_readLine_73, st_X10_readLine_83, st_X10_readLine_84, st_X10_readLine_90, st_X10_readLine_100, st_X10_readLine_101, st_X10_readLine_105, st_X10_readLine_106, st_X10_readLine_111, st_X10_readLine_112, st_X10_readLine_5 (p := 49) hq_49 ps_, st_X10_readLine_13 (p := 49) hq_49 ps_, st_X10_readLine_70 (p := 49) hq_49 ps_, st_X10_readLine_87 (p := 49) hq_49 ps_, st_X10_readLine_102 (p := 49) hq_49 ps_, st_X10_readLine_108 (p := 49) hq_49 ps_, bM_some, hg_49_0, ek, s3, s1, s2, wI, if_true, b01, cond_false, e1, e2, bC_inl, Option.toList, List.cons_append, List.nil_append, Nat.add_zero, lc_r, lc_i, lc_n, Nat.reduceAdd]
set_option maxHeartbeats 4000000 in
theorem mk_l : ∀ f : Nat, ∀ (σ : Sg) (g : hG) (a2 : Option Value), MQr b n q σ g → GI σ → (σ.1 0 = 0 → n ≤ σ.1 2 + f ∧ a2 = some (.int (Int32.ofNat (σ.1 10)))) → ∃ (g' : hG) (a2' : Option Value), MQr b n q (loopW isMo (pBod b n) f σ) g' ∧ SmM g g' ∧
    bc (d + 54) M_X10_kitchen none 76 [some (.ref 49), some (.int x), a2] [] (hp t g) cn sn = bc (d + 54) M_X10_kitchen none 99 [some (.ref 49), some (.int x), a2'] [] (hp t g') cn sn := by
  have hx : ∀ (σ : Sg) (g : hG) (a2 : Option Value), MQr b n q σ g → isMo σ = false → bc (d + 54) M_X10_kitchen none 76 [some (.ref 49), some (.int x), a2] [] (hp t g) cn sn = bc (d + 54) M_X10_kitchen none 99 [some (.ref 49), some (.int x), a2] [] (hp t g) cn sn := by
    intro σ g a2 h hm
    have f0 := bad_e h
    by_cases h0 : σ.1 0 = 0
    · have t0 : (g.1 49 18 = 0) = (σ.1 3 = 0) := tk_e (e := 0) (by omega) h h0
      have h3 : σ.1 3 = 0 := by
        unfold isMo at hm
        rw [decide_eq_true h0, Bool.true_and] at hm
        exact of_decide_eq_true (by simpa using hm)
      rw [st_X10_kitchen_76]
      simp (disch := omega) only [st_X10_kitchen_77, st_X10_kitchen_80, st_X10_kitchen_83, st_X10_kitchen_84, st_X10_kitchen_87, bM_some, hg_49_22, hg_49_18, f0.trans (eq_true h0), t0.trans (eq_true h3), if_true, Nat.reduceAdd]
    · rw [st_X10_kitchen_76]
      simp (disch := omega) only [st_X10_kitchen_77, st_X10_kitchen_80, bM_some, hg_49_22, f0.trans (eq_false h0), if_false, Nat.reduceAdd]
  intro f
  induction f with
  | zero =>
    intro σ g a2 h hGi hf
    refine ⟨g, a2, h, SmM.refl, hx σ g a2 h ?_⟩
    unfold isMo
    by_cases h0 : σ.1 0 = 0
    · obtain ⟨-, z1, -, -, z2, -⟩ := h.2.1.2.2 h0
      have h3 : σ.1 3 = 0 := Decidable.byContradiction (fun z => by have := z2 z; have := (hf h0).1; omega)
      rw [decide_eq_true h3, Bool.not_true, Bool.and_false]
    · rw [decide_eq_false h0, Bool.false_and]
  | succ f ih =>
    intro σ g a2 h hGi hf
    unfold loopW
    cases hm : isMo σ with
    | false => rw [if_neg (by simp)]; exact ⟨g, a2, h, SmM.refl, hx σ g a2 h hm⟩
    | true =>
      rw [if_pos rfl]
      have hh : σ.1 0 = 0 ∧ ¬ σ.1 3 = 0 := by
        unfold isMo at hm
        rw [Bool.and_eq_true] at hm
        exact ⟨of_decide_eq_true hm.1, by simpa using hm.2⟩
      obtain ⟨h0, h3⟩ := hh
      obtain ⟨hf1, rfl⟩ := hf h0
      have f0 := bad_e h
      have t0 : (g.1 49 18 = 0) = (σ.1 3 = 0) := tk_e (e := 0) (by omega) h h0
      obtain ⟨g1, c1, m1, e1⟩ := j_line (d := d) (t := t) (cn := 0) (sn := 0) h hGi h0
      obtain ⟨w1, gn1⟩ := PX_bod (b := b) (n := n) σ h.2.1
      obtain ⟨g2, a2', c2, m2, e2⟩ := ih (pBod b n σ) g1 (some (.int (Int32.ofNat ((pBod b n σ).1 10)))) c1 (GI_gn (gn_weak gn1 (Nat.le_refl _) (by omega)) hGi) (fun z => ⟨by have := (gn1 z).2.1; omega, rfl⟩)
      refine ⟨g2, a2', c2, m1.trans m2, Eq.trans ?_ e2⟩
      rw [st_X10_kitchen_76]
      simp (disch := omega) only [st_X10_kitchen_77, st_X10_kitchen_80, st_X10_kitchen_83, st_X10_kitchen_84, st_X10_kitchen_87, st_X10_kitchen_90, st_X10_kitchen_91, st_X10_kitchen_95, st_X10_kitchen_96, st_X10_kitchen_92 (p := 49) hq_49 ps_, bM_some, hg_49_22, hg_49_18, f0.trans (eq_true h0), t0.trans (eq_false h3), if_true, if_false, e1, bC_inl, Option.toList, List.cons_append, List.nil_append, Nat.add_zero, lc_r, lc_i, lc_n, Nat.reduceAdd]
end MKIT
