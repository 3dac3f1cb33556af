/-! ===== the reference: lines ===== -/
section MLINE2
variable {d D : Nat} {t : List px_E} {g : hG} {n cn sn dep : Nat} {b r q : Rw} {x y : Int32} {σ σ' : Sg} {p rc : Sg → Sg} {c N M : Nat}
/-- one kettle more -/
theorem MQr_N (h : MQr b n q σ g) (hN : σ.1 0 = 0 → σ.1 6 = N ∧ N < 8 ∧ g.1 53 (8 + N) = σ.2 0 N ∧ g.1 54 (8 + N) = σ.2 1 N ∧ g.1 55 (8 + N) = σ.2 2 N ∧ g.1 56 (8 + N) = σ.2 3 N ∧ g.1 57 (8 + N) = σ.2 4 N) : MQr b n q (sN σ 6 (N + 1)) (hI g 52 4 (Int32.ofNat (N + 1))) := by
  obtain ⟨h1, h2, h3, h4, h5⟩ := h
  refine ⟨h1, ⟨h2.1, h2.2.1, fun z => h2.2.2 z⟩, h3, fun z => ?_, fun z => ?_⟩
  · obtain ⟨⟨a1, a2, a3, a4⟩, b1, b2, b3, b4⟩ := h4 z
    obtain ⟨q1, q2, q3⟩ := hN z
    refine ⟨⟨by rw [hI_at, if_pos ⟨rfl, rfl⟩]; rfl, by rw [hI_at, if_neg (by omega)]; exact a2, by rw [hI_at, if_neg (by omega)]; exact a3, by rw [hI_at, if_neg (by omega)]; exact a4⟩, fun j hj => ?_, b2, b3, b4⟩
    have hj' : j < N + 1 := hj
    by_cases e : j = N
    · subst e; exact q3
    · exact b1 j (by omega)
  · obtain ⟨d1, d2, d3, d4⟩ := h5 z
    obtain ⟨q1, q2, q3⟩ := hN z
    exact ⟨show N + 1 ≤ 8 by omega, d2, d3, d4⟩
/-- one stove more -/
theorem MQr_S (h : MQr b n q σ g) (hN : σ.1 0 = 0 → σ.1 7 = N ∧ N < 4 ∧ g.1 58 (4 + N) = σ.2 5 N) : MQr b n q (sN σ 7 (N + 1)) (hI g 52 5 (Int32.ofNat (N + 1))) := by
  obtain ⟨h1, h2, h3, h4, h5⟩ := h
  refine ⟨h1, ⟨h2.1, h2.2.1, fun z => h2.2.2 z⟩, h3, fun z => ?_, fun z => ?_⟩
  · obtain ⟨⟨a1, a2, a3, a4⟩, b1, b2, b3, b4⟩ := h4 z
    obtain ⟨q1, q2, q3⟩ := hN z
    refine ⟨⟨by rw [hI_at, if_neg (by omega)]; exact a1, by rw [hI_at, if_pos ⟨rfl, rfl⟩]; rfl, by rw [hI_at, if_neg (by omega)]; exact a3, by rw [hI_at, if_neg (by omega)]; exact a4⟩, b1, fun j hj => ?_, b3, b4⟩
    have hj' : j < N + 1 := hj
    by_cases e : j = N
    · subst e; exact q3
    · exact b2 j (by omega)
  · obtain ⟨d1, d2, d3, d4⟩ := h5 z
    obtain ⟨q1, q2, q3⟩ := hN z
    exact ⟨d1, show N + 1 ≤ 4 by omega, d3, d4⟩
/-- one dish more -/
theorem MQr_D (h : MQr b n q σ g) (hN : σ.1 0 = 0 → σ.1 8 = N ∧ N < 5 ∧ g.1 59 (5 + N) = σ.2 6 N ∧ ∀ i, i < 3 → i < stpN N σ → g.1 60 (3 * (5 + N) + i) = σ.2 7 (N * 3 + i)) : MQr b n q (sN σ 8 (N + 1)) (hI g 52 6 (Int32.ofNat (N + 1))) := by
  obtain ⟨h1, h2, h3, h4, h5⟩ := h
  refine ⟨h1, ⟨h2.1, h2.2.1, fun z => h2.2.2 z⟩, h3, fun z => ?_, fun z => ?_⟩
  · obtain ⟨⟨a1, a2, a3, a4⟩, b1, b2, b3, b4⟩ := h4 z
    obtain ⟨q1, q2, q3⟩ := hN z
    refine ⟨⟨by rw [hI_at, if_neg (by omega)]; exact a1, by rw [hI_at, if_neg (by omega)]; exact a2, by rw [hI_at, if_pos ⟨rfl, rfl⟩]; rfl, by rw [hI_at, if_neg (by omega)]; exact a4⟩, b1, b2, fun j hj => ?_, b4⟩
    have hj' : j < N + 1 := hj
    by_cases e : j = N
    · subst e; exact q3
    · exact b3 j (by omega)
  · obtain ⟨d1, d2, d3, d4⟩ := h5 z
    obtain ⟨q1, q2, q3⟩ := hN z
    exact ⟨d1, d2, show N + 1 ≤ 5 by omega, d4⟩
/-- a fault told: the counts don't matter -/
theorem MQr_8 (h : MQr b n q σ g) (h0 : ¬ σ.1 0 = 0) : MQr b n q (sN σ 8 N) g := by
  obtain ⟨h1, h2, h3, h4, h5⟩ := h
  exact ⟨h1, ⟨h2.1, h2.2.1, fun z => absurd z h0⟩, h3, fun z => absurd z h0, fun z => absurd z h0⟩
theorem need_err {lo hi : Nat} (h0 : ¬ σ.1 0 = 0) : pNeed lo hi σ = σ := by unfold pNeed; rw [if_neg h0]
theorem adv_sK {i : Nat} : pAdv b n (sK σ c i x) = sK (pAdv b n σ) c i x := by
  unfold pAdv
  by_cases h0 : σ.1 0 = 0
  · rw [if_pos h0, if_pos (show (sK σ c i x).1 0 = 0 from h0)]; rfl
  · rw [if_neg h0, if_neg (show ¬ (sK σ c i x).1 0 = 0 from h0)]
theorem nn_8a {i : Nat} (hi : i < 1000) : (8 : Int32) + Int32.ofNat i = Int32.ofNat (8 + i) := nn_add (a := 8)
theorem nn_4a {i : Nat} (hi : i < 1000) : (4 : Int32) + Int32.ofNat i = Int32.ofNat (4 + i) := nn_add (a := 4)
theorem nn_5a {i : Nat} (hi : i < 1000) : (5 : Int32) + Int32.ofNat i = Int32.ofNat (5 + i) := nn_add (a := 5)
theorem sK_at {i : Nat} : (sK σ c i x).2 c i = x := if_pos ⟨rfl, rfl⟩
theorem sK_ne {i c' j : Nat} (h : ¬ (c' = c ∧ j = i)) : (sK σ c i x).2 c' j = σ.2 c' j := if_neg h
theorem hI_eq {i : Nat} : (hI g c i x).1 c i = x := by rw [hI_at, if_pos ⟨rfl, rfl⟩]
theorem hI_ne {i c' j : Nat} (h : ¬ (c' = c ∧ j = i)) : (hI g c i x).1 c' j = g.1 c' j := by rw [hI_at, if_neg h]
set_option maxHeartbeats 8000000 in
theorem j_Kettle {kd : Nat} (h : MQr b n q σ g) (h0 : σ.1 0 = 0) : ∃ g' : hG, MQr b n q (pKet b n kd σ) g' ∧ SmM g g' ∧ bc (d + 3) M_X10_readKettle none 0 [some (.ref 49), some (.int (Int32.ofNat kd)), none] [] (hp t g) cn sn = some (.inl none, hp t g', cn, sn) := by
  obtain ⟨g1, w1, m1, h'⟩ := j_another0 (d := d) (t := t) (cn := 0) (sn := 0) h h0
  have c4 : (4 : Int32).toNatClampNeg = 4 := by decide
  have o4 : px_out 4 8 = false := by decide
  rcases h' with ⟨hlt, c1, e1⟩ | ⟨hlt, c1, e1⟩
  · unfold pKet
    rw [if_pos hlt]
    dsimp only
    have eN : g.1 52 4 = Int32.ofNat (σ.1 6) := (h.2.2.2.1 h0).1.1
    obtain ⟨N, hN⟩ : ∃ N, N = σ.1 6 := ⟨_, rfl⟩
    rw [← hN] at hlt eN ⊢
    have n1 : (pAdv b n σ).1 6 = N := by rw [pAdv_o (by omega)]; exact hN.symm
    have c2 := MQr_w (cc := 53) (c := 0) (i := 8 + N) (ii := N) (m := 0) (x := Int32.ofNat kd) (by omega) c1
    generalize hs1 : sK (pAdv b n σ) 0 N (Int32.ofNat kd) = σ1 at c2 ⊢
    have n2 : σ1.1 6 = N := by rw [← hs1]; exact n1
    obtain ⟨g3, c3, m3, w3, e3⟩ := j_num (d := d) (t := t) (cn := 0) (sn := 0) (lo := 1) (hi := 24) (by omega) (by omega) c2
    have n3 : (pNumS b n 1 24 σ1).1 6 = N := by rw [pNumS_o (by omega)]; exact n2
    have c4' := MQr_w (cc := 54) (c := 1) (i := 8 + N) (ii := N) (m := 0) (x := Int32.ofNat (pNumV 1 24 σ1)) (by omega) c3
    generalize hs2 : sK (pNumS b n 1 24 σ1) 1 N (Int32.ofNat (pNumV 1 24 σ1)) = σ2 at c4' ⊢
    have n4 : σ2.1 6 = N := by rw [← hs2]; exact n3
    obtain ⟨g5, c5, m5, w5, e5⟩ := j_num (d := d) (t := t) (cn := 0) (sn := 0) (lo := 1) (hi := 40) (by omega) (by omega) c4'
    have n5 : (pNumS b n 1 40 σ2).1 6 = N := by rw [pNumS_o (by omega)]; exact n4
    have c6 := MQr_w (cc := 55) (c := 2) (i := 8 + N) (ii := N) (m := 0) (x := Int32.ofNat (pNumV 1 40 σ2)) (by omega) c5
    have hv := pNumV_le (lo := 1) (hi := 40) c4'.2.1
    generalize hs3 : sK (pNumS b n 1 40 σ2) 2 N (Int32.ofNat (pNumV 1 40 σ2)) = σ3 at c6 ⊢
    have n6 : σ3.1 6 = N := by rw [← hs3]; exact n5
    obtain ⟨g7, c7, m7, w7, e7⟩ := j_num (d := d) (t := t) (cn := 0) (sn := 0) (lo := 0) (hi := pNumV 1 40 σ2) (by omega) (by omega) c6
    have n7 : (pNumS b n 0 (pNumV 1 40 σ2) σ3).1 6 = N := by rw [pNumS_o (by omega)]; exact n6
    have c8 := MQr_w (cc := 56) (c := 3) (i := 8 + N) (ii := N) (m := 0) (x := Int32.ofNat (pNumV 0 (pNumV 1 40 σ2) σ3)) (by omega) c7
    generalize hs4 : sK (pNumS b n 0 (pNumV 1 40 σ2) σ3) 3 N (Int32.ofNat (pNumV 0 (pNumV 1 40 σ2) σ3)) = σ4 at c8 ⊢
    have n8 : σ4.1 6 = N := by rw [← hs4]; exact n7
    obtain ⟨g9, c9, m9, w9, e9⟩ := j_num (d := d) (t := t) (cn := 0) (sn := 0) (lo := 0) (hi := 9) (by omega) (by omega) c8
    have n9 : (pNumS b n 0 9 σ4).1 6 = N := by rw [pNumS_o (by omega)]; exact n8
    have ca := MQr_w (cc := 57) (c := 4) (i := 8 + N) (ii := N) (m := 0) (x := Int32.ofNat (pNumV 0 9 σ4)) (by omega) c9
    have r1 : g1.1 52 4 = Int32.ofNat N := by rw [w1 52 (by omega)]; exact eN
    have r9 : (hI g9 57 (8 + N) (Int32.ofNat (pNumV 0 9 σ4))).1 52 4 = Int32.ofNat N := by
      rw [hI_ne (by omega), w9 52 (by omega), hI_ne (by omega), w7 52 (by omega), hI_ne (by omega), w5 52 (by omega), hI_ne (by omega), w3 52 (by omega), hI_ne (by omega)]
      exact r1
    have r5 : (hI g5 55 (8 + N) (Int32.ofNat (pNumV 1 40 σ2))).1 55 (8 + N) = Int32.ofNat (pNumV 1 40 σ2) := hI_eq
    have cb := MQr_N (N := N) ca (fun _ => ⟨n9, hlt, by
        rw [hI_ne (by omega), w9 53 (by omega), hI_ne (by omega), w7 53 (by omega), hI_ne (by omega), w5 53 (by omega), hI_ne (by omega), w3 53 (by omega), hI_eq, sK_ne (by omega), pNumS_K, ← hs4, sK_ne (by omega), pNumS_K, ← hs3, sK_ne (by omega), pNumS_K, ← hs2, sK_ne (by omega), pNumS_K, ← hs1, sK_at], by
        rw [hI_ne (by omega), w9 54 (by omega), hI_ne (by omega), w7 54 (by omega), hI_ne (by omega), w5 54 (by omega), hI_eq, sK_ne (by omega), pNumS_K, ← hs4, sK_ne (by omega), pNumS_K, ← hs3, sK_ne (by omega), pNumS_K, ← hs2, sK_at], by
        rw [hI_ne (by omega), w9 55 (by omega), hI_ne (by omega), w7 55 (by omega), hI_eq, sK_ne (by omega), pNumS_K, ← hs4, sK_ne (by omega), pNumS_K, ← hs3, sK_at], by
        rw [hI_ne (by omega), w9 56 (by omega), hI_eq, sK_ne (by omega), pNumS_K, ← hs4, sK_at], by
        rw [hI_eq, sK_at]⟩)
    refine ⟨_, cb, m1.trans ((SmM_i (by omega)).trans (m3.trans ((SmM_i (by omega)).trans (m5.trans ((SmM_i (by omega)).trans (m7.trans ((SmM_i (by omega)).trans (m9.trans ((SmM_i (by omega)).trans (SmM_i (by omega))))))))))), ?_⟩
    simp only [show Int32.ofNat 1 = (1 : Int32) from rfl, show Int32.ofNat 0 = (0 : Int32) from rfl, show Int32.ofNat 24 = (24 : Int32) from rfl, show Int32.ofNat 40 = (40 : Int32) from rfl, show Int32.ofNat 9 = (9 : Int32) from rfl] at e3 e5 e7 e9
    simp (disch := omega) only [st_X10_readKettle_0, st_X10_readKettle_1, st_X10_readKettle_2, st_X10_readKettle_7, st_X10_readKettle_11, st_X10_readKettle_13, st_X10_readKettle_14, st_X10_readKettle_17, st_X10_readKettle_18, st_X10_readKettle_19, st_X10_readKettle_20, st_X10_readKettle_21, st_X10_readKettle_22, st_X10_readKettle_25, st_X10_readKettle_26, st_X10_readKettle_27, st_X10_readKettle_28, st_X10_readKettle_29, st_X10_readKettle_32, st_X10_readKettle_33, st_X10_readKettle_34, st_X10_readKettle_35, st_X10_readKettle_40, st_X10_readKettle_41, st_X10_readKettle_42, st_X10_readKettle_45, st_X10_readKettle_46, st_X10_readKettle_47, st_X10_readKettle_48, st_X10_readKettle_53, st_X10_readKettle_54, st_X10_readKettle_55, st_X10_readKettle_58, st_X10_readKettle_59, st_X10_readKettle_60, st_X10_readKettle_61, st_X10_readKettle_62, st_X10_readKettle_65, st_X10_readKettle_66, st_X10_readKettle_70, st_X10_readKettle_71, st_X10_readKettle_72, st_X10_readKettle_75, st_X10_readKettle_76, st_X10_readKettle_77, st_X10_readKettle_78, st_X10_readKettle_83, st_X10_readKettle_84, st_X10_readKettle_85, st_X10_readKettle_88, st_X10_readKettle_89, st_X10_readKettle_90, st_X10_readKettle_91, st_X10_readKettle_92, st_X10_readKettle_93, st_X10_readKettle_94, st_X10_readKettle_4 (p := 49) hq_49 ps_, st_X10_readKettle_37 (p := 49) hq_49 ps_ir, st_X10_readKettle_50 (p := 49) hq_49 ps_ir, st_X10_readKettle_67 (p := 49) hq_49 ps_ir, st_X10_readKettle_80 (p := 49) hq_49 ps_ir, bM_some, hg_49_3, hg_49_4, hg_49_5, hg_49_6, hg_49_7, hg_49_8, ha_52, ha_55, hw_52, hw_53, hw_54, hw_55, hw_56, hw_57, c4, o4, r1, r5, r9, nn_8a, nn_one0, if_false, e1, e3, e5, e7, e9, nn_out, nn_clamp, cond_false, bC_inl, Option.toList, List.cons_append, List.nil_append, Nat.add_zero, lc_r, lc_i, lc_n, nn_r1, Nat.reduceAdd]
  · unfold pKet
    rw [if_neg hlt]
    refine ⟨g1, c1, m1, ?_⟩
    simp (disch := omega) only [st_X10_readKettle_0, st_X10_readKettle_1, st_X10_readKettle_2, st_X10_readKettle_7, st_X10_readKettle_10, st_X10_readKettle_4 (p := 49) hq_49 ps_, e1, if_true, bC_inl, Option.toList, List.cons_append, List.nil_append, Nat.add_zero, Nat.reduceAdd]
set_option maxHeartbeats 4000000 in
theorem j_Stove (h : MQr b n q σ g) (h0 : σ.1 0 = 0) : ∃ g' : hG, MQr b n q (pStv b n σ) g' ∧ SmM g g' ∧ bc (d + 3) M_X10_readStove none 0 [some (.ref 49)] [] (hp t g) cn sn = some (.inl none, hp t g', cn, sn) := by
  obtain ⟨g1, w1, m1, h'⟩ := j_another1 (d := d) (t := t) (cn := 0) (sn := 0) h h0
  have c5 : (5 : Int32).toNatClampNeg = 5 := by decide
  have o5 : px_out 5 8 = false := by decide
  rcases h' with ⟨hlt, c1, e1⟩ | ⟨hlt, c1, e1⟩
  · unfold pStv
    rw [if_pos hlt]
    dsimp only
    have eN : g.1 52 5 = Int32.ofNat (σ.1 7) := (h.2.2.2.1 h0).1.2.1
    obtain ⟨N, hN⟩ : ∃ N, N = σ.1 7 := ⟨_, rfl⟩
    rw [← hN] at hlt eN ⊢
    have n1 : (pAdv b n σ).1 7 = N := by rw [pAdv_o (by omega)]; exact hN.symm
    obtain ⟨g3, c3, m3, w3, e3⟩ := j_num (d := d) (t := t) (cn := 0) (sn := 0) (lo := 1) (hi := 40) (by omega) (by omega) c1
    have n3 : (pNumS b n 1 40 (pAdv b n σ)).1 7 = N := by rw [pNumS_o (by omega)]; exact n1
    have c4 := MQr_w (cc := 58) (c := 5) (i := 4 + N) (ii := N) (m := 0) (x := Int32.ofNat (pNumV 1 40 (pAdv b n σ))) (by omega) c3
    have r1 : g1.1 52 5 = Int32.ofNat N := by rw [w1 52 (by omega)]; exact eN
    have r3 : (hI g3 58 (4 + N) (Int32.ofNat (pNumV 1 40 (pAdv b n σ)))).1 52 5 = Int32.ofNat N := by
      rw [hI_ne (by omega), w3 52 (by omega)]
      exact r1
    have cb := MQr_S (N := N) c4 (fun _ => ⟨n3, hlt, by rw [hI_eq, sK_at]⟩)
    refine ⟨_, cb, m1.trans (m3.trans ((SmM_i (by omega)).trans (SmM_i (by omega)))), ?_⟩
    simp only [show Int32.ofNat 1 = (1 : Int32) from rfl, show Int32.ofNat 40 = (40 : Int32) from rfl] at e3
    simp (disch := omega) only [st_X10_readStove_0, st_X10_readStove_1, st_X10_readStove_2, st_X10_readStove_6, st_X10_readStove_10, st_X10_readStove_11, st_X10_readStove_14, st_X10_readStove_15, st_X10_readStove_16, st_X10_readStove_19, st_X10_readStove_20, st_X10_readStove_21, st_X10_readStove_22, st_X10_readStove_23, st_X10_readStove_24, st_X10_readStove_29, st_X10_readStove_30, st_X10_readStove_31, st_X10_readStove_34, st_X10_readStove_35, st_X10_readStove_36, st_X10_readStove_37, st_X10_readStove_38, st_X10_readStove_39, st_X10_readStove_40, st_X10_readStove_3 (p := 49) hq_49 ps_, st_X10_readStove_26 (p := 49) hq_49 ps_ir, bM_some, hg_49_3, hg_49_9, ha_52, hw_52, hw_58, c5, o5, r1, r3, nn_4a, nn_one0, if_false, e1, e3, nn_out, nn_clamp, cond_false, bC_inl, Option.toList, List.cons_append, List.nil_append, Nat.add_zero, lc_r, lc_i, lc_n, nn_r1, Nat.reduceAdd]
  · unfold pStv
    rw [if_neg hlt]
    refine ⟨g1, c1, m1, ?_⟩
    simp (disch := omega) only [st_X10_readStove_0, st_X10_readStove_1, st_X10_readStove_2, st_X10_readStove_6, st_X10_readStove_9, st_X10_readStove_3 (p := 49) hq_49 ps_, e1, if_true, bC_inl, Option.toList, List.cons_append, List.nil_append, Nat.add_zero, Nat.reduceAdd]
end MLINE2
