/-! ===== chalk and listen of the class; both say the same ===== -/
def nz (z z' : Bool) : Nat := bif z then (bif z' then 0 else 1) else 0
section CHALK
variable {d : Nat} {t : List px_E} {T : (Nat → Int64) → List px_E} {p : Nat} {g : hG} {q N S D L cn sn : Nat} {x : Int32}
theorem nz_self {z : Bool} : nz z z = 0 := by cases z <;> rfl
theorem gW_of {F : Nat → Int64} {w v k : Rw} {s : Int32} {n : Int64} : gW g (g.2.2 37 3) (g.1 37) (g.1 40) F w s n v k = gP (hQ g 39 F) 38 w s n v k := by
  have e1 : hV g 37 3 (g.2.2 37 3) = g := by
    apply hG_ext
    · intro c j; rfl
    · intro c j; rfl
    · funext c j
      show (bif (Nat.beq c 37 && Nat.beq j 3) then g.2.2 37 3 else g.2.2 c j) = _
      cases h : (Nat.beq c 37 && Nat.beq j 3) with
      | false => rfl
      | true =>
        rw [Bool.and_eq_true] at h
        rw [Nat.eq_of_beq_eq_true h.1, Nat.eq_of_beq_eq_true h.2]; rfl
  unfold gW
  rw [e1, hR_self, hR_self]
theorem c_chalk_n (hx : ¬ (0 ≤ x.toInt ∧ x.toInt ≤ 2)) : bc (d + 12) M_X9_chalk none 0 [some (.ref 0), some (.int x)] [] (hp t g) cn sn = some (.inr 1, hp t g, cn + 1, sn + 6) := by
  by_cases h : x < 0
  · simp (disch := omega) only [st_X9_chalk_0, st_X9_chalk_1, st_X9_chalk_9, h, if_true, Nat.reduceAdd]
  · have h2 : 2 < x := by rw [ii_lt, ti_0] at h; rw [ii_lt, ti_2]; omega
    simp (disch := omega) only [st_X9_chalk_0, st_X9_chalk_1, st_X9_chalk_4, st_X9_chalk_5, st_X9_chalk_6, st_X9_chalk_9, h, h2, if_true, if_false, Nat.reduceAdd]
theorem c_listen_n (hx : ¬ (0 ≤ x.toInt ∧ x.toInt ≤ 1)) : bc (d + 12) M_X9_listen none 0 [some (.ref 0), some (.int x)] [] (hp t g) cn sn = some (.inr 1, hp t g, cn + 1, sn + 6) := by
  have h0 : ¬ x = 0 := by intro h; apply hx; rw [h]; decide
  have h1 : ¬ x = 1 := by intro h; apply hx; rw [h]; decide
  simp (disch := omega) only [st_X9_listen_0, st_X9_listen_1, st_X9_listen_4, st_X9_listen_5, st_X9_listen_6, st_X9_listen_9, h0, h1, if_false, Nat.reduceAdd]
set_option maxHeartbeats 4000000 in
theorem c_chalk_2 (hK : KN (kC g) N S D L) (hO : KO (kC g) N S D L) (hq8 : q ≤ 8) (hH : g.1 34 2 = Int32.ofNat q) (hb : ∀ i, i < q → (1 ≤ (g.1 35 i).toInt ∧ (g.1 35 i).toInt ≤ 60) ∧ (-1 ≤ (g.1 36 i).toInt ∧ (g.1 36 i).toInt ≤ 60)) (hz : Z54 (g.1 29)) (hw : Z54 (g.1 38)) : ∃ (F' : Nat → Int64) (w' : Rw) (s' : Int32) (n' : Int64) (v' k' : Rw), Z54 w' ∧
    bc (d + 6) M_X9_chalk none 0 [some (.ref 0), some (.int 2)] [] (hp t g) cn sn = some (.inl (some (.int (b01 (fitL (minR (kC g) N D L) N (g.1 29) (g.1 35) (g.1 36) q 0)))), hp t (gW g (g.2.2 37 3) (g.1 37) (g.1 40) F' w' s' n' v' k'), cn, sn) := by
  obtain ⟨w', s', n', v', k', hz', e1⟩ := c_fits (d := d) (t := t) (g := g) (F := g.2.1 39) (w := g.1 29) (s := g.1 16 14) (n := g.2.1 16 13) (v := g.1 28) (k := g.1 27) (cn := 0) (sn := 0) hK hO hq8 hH hb hz
  rw [← gW_of, ← gW_of] at e1
  refine ⟨chL (minR (kC g) N D L) N 60 1 (g.1 29) (g.2.1 39), w', s', n', v', k', hz', ?_⟩
  have g1 : g = gW g (g.2.2 37 3) (g.1 37) (g.1 40) (g.2.1 39) (g.1 38) (g.1 16 14) (g.2.1 16 13) (g.1 28) (g.1 27) := gW_eta.symm
  have e2 : ∀ cn sn : Nat, bc (d + 5) M_X1_fitsAsItIs none 0 [some (.ref 37), some (.ref 16), some (.ref 29), some (.ref 34)] [] (hp t g) cn sn = some (.inl (some (.int (b01 (fitL (minR (kC g) N D L) N (g.1 29) (g.1 35) (g.1 36) q 0)))), hp t (gW g (g.2.2 37 3) (g.1 37) (g.1 40) (chL (minR (kC g) N D L) N 60 1 (g.1 29) (g.2.1 39)) w' s' n' v' k'), cn, sn) := by
    intro cn sn
    rw [show hp t g = hp t (gW g (g.2.2 37 3) (g.1 37) (g.1 40) (g.2.1 39) (g.1 38) (g.1 16 14) (g.2.1 16 13) (g.1 28) (g.1 27)) from congrArg _ g1]
    cases hf : fitL (minR (kC g) N D L) N (g.1 29) (g.1 35) (g.1 36) q 0 <;> rw [hf] at e1 <;>
    simp (disch := omega) only [st_X1_fitsAsItIs_0, st_X1_fitsAsItIs_1, st_X1_fitsAsItIs_2, st_X1_fitsAsItIs_3, st_X1_fitsAsItIs_6, st_X1_fitsAsItIs_7, st_X1_fitsAsItIs_9, st_X1_fitsAsItIs_12, st_X1_fitsAsItIs_13, st_X1_fitsAsItIs_14, st_X1_fitsAsItIs_18, st_X1_fitsAsItIs_18b, st_X1_fitsAsItIs_15 (p := 37) hq_37 ps_, bM_some, bP_some, hg_37_0, hcp_29_38, show px_cpok 0 0 54 54 54 = true by decide, cond_true, cond_false, gW_29, gW_38, cp54 hz hw, gW_w, e1, b01, bC_inl, Option.toList, List.cons_append, List.nil_append, Nat.add_zero, Nat.reduceAdd]
  cases hf : fitL (minR (kC g) N D L) N (g.1 29) (g.1 35) (g.1 36) q 0 <;> rw [hf] at e2 <;>
  simp (disch := omega) only [st_X9_chalk_0, st_X9_chalk_1, st_X9_chalk_4, st_X9_chalk_5, st_X9_chalk_6, st_X9_chalk_19, st_X9_chalk_20, st_X9_chalk_21, st_X9_chalk_24, st_X9_chalk_25, st_X9_chalk_28, st_X9_chalk_29, st_X9_chalk_32, st_X9_chalk_33, st_X9_chalk_36, st_X9_chalk_37, st_X9_chalk_43, st_X9_chalk_46, st_X9_chalk_47, st_X9_chalk_50, st_X9_chalk_51, st_X9_chalk_40 (p := 37) hq_37 ps_, show ((2 : Int32) < 0) = False by decide, show ((2 : Int32) < 2) = False by decide, show ((2 : Int32) = 2) = True by decide, if_true, if_false, bM_some, hg_0_7, hg_0_1, hg_0_2, hg_0_6, e2, b01, cond_true, cond_false, nn_one0, bC_inl, Option.toList, List.cons_append, List.nil_append, Nat.add_zero, Nat.reduceAdd]
set_option maxHeartbeats 4000000 in
theorem c_chalk_01 (hT : earT T p) (hK : KN (kC g) N S D L) (hO : KO (kC g) N S D L) (hq8 : q ≤ 8) (hH : g.1 34 2 = Int32.ofNat q) (hb : ∀ i, i < q → (1 ≤ (g.1 35 i).toInt ∧ (g.1 35 i).toInt ≤ 60) ∧ (-1 ≤ (g.1 36 i).toInt ∧ (g.1 36 i).toInt ≤ 60)) (hz : Z54 (g.1 29)) (hy : ∀ j, j < N → 0 ≤ (g.1 29 (24 + j)).toInt ∧ (g.1 29 (24 + j)).toInt ≤ 9) (hw : Z54 (g.1 38)) (z : Bool) (U : Nat → Int64) (hzA : z = true → p = t.length + 89 ∧ t ++ [.inl (1, 4392, .inr (.inl (fun _ => 0)))] = T (fun _ => 0)) (h3 : g.2.2 37 3 = bif z then .null else .ref p)
    (hk : g.1 37 4 = 0 ∨ (g.1 37 4 = 1 ∧ eaOk (kC g) N D L q (g.1 29) (g.1 35) (g.1 36) (g.1 37))) (hx : x = 0 ∨ x = 1) : ∃ (z' : Bool) (U' : Nat → Int64) (e' u' : Rw) (F' : Nat → Int64) (w' : Rw) (s' : Int32) (n' : Int64) (v' k' : Rw), (z' = true → z = true) ∧ Z54 w' ∧ e' 4 = 1 ∧ eaOk (kC g) N D L q (g.1 29) (g.1 35) (g.1 36) e' ∧
    bc (d + 6) M_X9_chalk none 0 [some (.ref 0), some (.int x)] [] (hp (bif z then t else T U) g) cn sn = some (.inl (some (.int (if x = 0 then Int32.ofNat (fitS (kC g) N D L q (g.1 29) (g.1 35) (g.1 36)).length else fiE (fitS (kC g) N D L q (g.1 29) (g.1 35) (g.1 36))))), hp (bif z' then t else T U') (gW g (bif z' then .null else .ref p) e' u' F' w' s' n' v' k'), cn + nz z z', sn + 4392 * nz z z') := by
  obtain ⟨z', U', e', u', F', w', s', n', v', k', r1, r2, r3, r4, r5⟩ := c_search (d := d) (t := t) (T := T) (p := p) (cz := nz z) (sz := fun b => 4392 * nz z b) hT hK hO hq8 hH hb hz hy hw z U (fun h => ⟨(hzA h).1, (hzA h).2, by rw [h]; rfl, by rw [h]; rfl⟩) h3 hk
  refine ⟨z', U', e', u', F', w', s', n', v', k', r1, r2, r3, r4, ?_⟩
  simp only [nz_self, Nat.mul_zero] at r5
  obtain ⟨o1, o2, -, -⟩ := r4
  rcases hx with h | h <;> subst h <;>
  simp (disch := omega) only [st_X9_chalk_0, st_X9_chalk_1, st_X9_chalk_4, st_X9_chalk_5, st_X9_chalk_6, st_X9_chalk_19, st_X9_chalk_20, st_X9_chalk_21, st_X9_chalk_52, st_X9_chalk_53, st_X9_chalk_56, st_X9_chalk_57, st_X9_chalk_60, st_X9_chalk_61, st_X9_chalk_64, st_X9_chalk_65, st_X9_chalk_71, st_X9_chalk_72, st_X9_chalk_75, st_X9_chalk_76, st_X9_chalk_79, st_X9_chalk_82, st_X9_chalk_85, st_X9_chalk_86, st_X9_chalk_89, st_X9_chalk_92, st_X9_chalk_68 (p := 37) hq_37 ps_, show ((0 : Int32) < 0) = False by decide, show ((2 : Int32) < 0) = False by decide, show ((1 : Int32) < 0) = False by decide, show ((2 : Int32) < 1) = False by decide, show ((0 : Int32) = 2) = False by decide, show ((1 : Int32) = 2) = False by decide, if_true, if_false, nn_one0, bM_some, hg_0_7, hg_0_1, hg_0_2, hg_0_6, hg_37_5, hg_37_6, gW_37, r5, o1, o2, bC_inl, Option.toList, List.cons_append, List.nil_append, Nat.add_zero, Nat.reduceAdd]
set_option maxHeartbeats 4000000 in
theorem c_listen (hT : earT T p) (hK : KN (kC g) N S D L) (hO : KO (kC g) N S D L) (hq8 : q ≤ 8) (hH : g.1 34 2 = Int32.ofNat q) (hb : ∀ i, i < q → (1 ≤ (g.1 35 i).toInt ∧ (g.1 35 i).toInt ≤ 60) ∧ (-1 ≤ (g.1 36 i).toInt ∧ (g.1 36 i).toInt ≤ 60)) (hz : Z54 (g.1 29)) (hy : ∀ j, j < N → 0 ≤ (g.1 29 (24 + j)).toInt ∧ (g.1 29 (24 + j)).toInt ≤ 9) (hw : Z54 (g.1 38)) (z : Bool) (U : Nat → Int64) (hzA : z = true → p = t.length + 89 ∧ t ++ [.inl (1, 4392, .inr (.inl (fun _ => 0)))] = T (fun _ => 0)) (h3 : g.2.2 37 3 = bif z then .null else .ref p)
    (hk : g.1 37 4 = 0 ∨ (g.1 37 4 = 1 ∧ eaOk (kC g) N D L q (g.1 29) (g.1 35) (g.1 36) (g.1 37))) (hx : x = 0 ∨ x = 1) : ∃ (z' : Bool) (U' : Nat → Int64) (e' u' : Rw) (F' : Nat → Int64) (w' : Rw) (s' : Int32) (n' : Int64) (v' k' : Rw), (z' = true → z = true) ∧ Z54 w' ∧ e' 4 = 1 ∧ eaOk (kC g) N D L q (g.1 29) (g.1 35) (g.1 36) e' ∧
    bc (d + 6) M_X9_listen none 0 [some (.ref 0), some (.int x)] [] (hp (bif z then t else T U) g) cn sn = some (.inl (some (.int (if x = 0 then (liA (kC g) N D L q (g.1 29) (g.1 35) (g.1 36)).1 else Int32.ofNat (liA (kC g) N D L q (g.1 29) (g.1 35) (g.1 36)).2))), hp (bif z' then t else T U') (gW g (bif z' then .null else .ref p) e' u' F' w' s' n' v' k'), cn + nz z z', sn + 4392 * nz z z') := by
  obtain ⟨z', U', e', u', F', w', s', n', v', k', r1, r2, r3, r4, r5⟩ := c_search (d := d) (t := t) (T := T) (p := p) (cz := nz z) (sz := fun b => 4392 * nz z b) hT hK hO hq8 hH hb hz hy hw z U (fun h => ⟨(hzA h).1, (hzA h).2, by rw [h]; rfl, by rw [h]; rfl⟩) h3 hk
  refine ⟨z', U', e', u', F', w', s', n', v', k', r1, r2, r3, r4, ?_⟩
  simp only [nz_self, Nat.mul_zero] at r5
  obtain ⟨-, -, o1, o2⟩ := r4
  rcases hx with h | h <;> subst h <;>
  simp (disch := omega) only [st_X9_listen_0, st_X9_listen_1, st_X9_listen_4, st_X9_listen_5, st_X9_listen_6, st_X9_listen_20, st_X9_listen_21, st_X9_listen_24, st_X9_listen_25, st_X9_listen_28, st_X9_listen_29, st_X9_listen_32, st_X9_listen_33, st_X9_listen_39, st_X9_listen_40, st_X9_listen_43, st_X9_listen_44, st_X9_listen_47, st_X9_listen_50, st_X9_listen_53, st_X9_listen_54, st_X9_listen_57, st_X9_listen_60, st_X9_listen_36 (p := 37) hq_37 ps_, if_true, if_false, nn_one0, bM_some, hg_0_7, hg_0_1, hg_0_2, hg_0_6, hg_37_7, hg_37_8, gW_37, r5, o1, o2, bC_inl, Option.toList, List.cons_append, List.nil_append, Nat.add_zero, Nat.reduceAdd]
/-! the reference says the same -/
theorem foS_b {ok : Nat → Nat → Bool} {w : Rw} : ∀ (m j : Nat), ∀ e, e ∈ foS ok w m j → e < 10 * (j + m) := by
  intro m
  induction m with
  | zero => intro j e he; cases he
  | succ m ih =>
    intro j e he
    unfold foS at he
    rcases List.mem_append.mp he with h | h
    · obtain ⟨c, h1, h2⟩ := List.mem_map.mp h
      have := fiS_b 10 0 c h1
      omega
    · have := ih (j + 1) e h; omega
theorem chalk_eq {ok : Nat → Nat → Bool} {w f : Rw} : (if x = 0 then Int32.ofNat (foL ok w N 0 0 f).1 else if (foL ok w N 0 0 f).1 = 0 then -1 else (foL ok w N 0 0 f).2 0) = (if x = 0 then Int32.ofNat (foS ok w N 0).length else fiE (foS ok w N 0)) := by
  obtain ⟨h1, -, h3⟩ := foL_S (w := w) (ok := ok) N 0 0 f
  rw [Nat.zero_add] at h1
  rw [h1]
  split
  · rfl
  · cases hl : foS ok w N 0 with
    | nil => rfl
    | cons a l =>
      have := h3 0 (by rw [hl, List.length_cons]; omega)
      rw [hl, Nat.add_zero] at this
      rw [if_neg (by rw [List.length_cons]; omega), this]
      rfl
theorem ctL_at {f : Rw → Rw} {w fr : Rw} {e i : Nat} (hi : i < 60) : ∀ (m e0 : Nat) (F : Nat → Int64), ctL f N w fr m e0 F (60 * e + i) = if e0 ≤ e ∧ e < e0 + m then notesN (iterR f (i + 1) (upd w (24 + (fr e).toNatClampNeg / 10) (Int32.ofNat ((fr e).toNatClampNeg % 10)))) N else F (60 * e + i) := by
  intro m
  induction m with
  | zero => intro e0 F; unfold ctL; rw [if_neg (by omega)]
  | succ m ih =>
    intro e0 F
    unfold ctL
    rw [ih, chL_at]
    by_cases h : e0 + 1 ≤ e ∧ e < e0 + 1 + m
    · rw [if_pos h, if_pos (by omega)]
    · rw [if_neg h]
      by_cases h2 : e = e0
      · subst h2
        rw [if_pos (by omega), if_pos (by omega), show 60 * e + i - 60 * e + 1 = i + 1 by omega]
      · rw [if_neg (by omega), if_neg (by omega)]
theorem listen_eq {K : Kt} {w hm hn f : Rw} {F : Nat → Int64} (h8 : N ≤ 8) : liL (ctL (minR K N D L) N w (foL (okF K N D L q w hm hn) w N 0 0 f).2 (foL (okF K N D L q w hm hn) w N 0 0 f).1 0 F) (foL (okF K N D L q w hm hn) w N 0 0 f).1 60 0 (-1) 0 = liA K N D L q w hm hn := by
  obtain ⟨h1, -, h3⟩ := foL_S (w := w) (ok := okF K N D L q w hm hn) N 0 0 f
  rw [Nat.zero_add] at h1
  unfold liA
  refine liL_chM (c := unA K N D L q w hm hn) (fun i hi => ?_) 60 0 (-1) 0 (by omega)
  rw [unL_eq]
  unfold unA fitS
  rw [h1]
  congr 2
  apply List.ext_getElem
  · rw [List.length_map, List.length_map, List.length_range]
  · intro e he he'
    rw [List.length_map, List.length_range] at he
    have hb := foS_b (ok := okF K N D L q w hm hn) (w := w) N 0 _ (List.getElem_mem he)
    have h4 := h3 e he
    rw [Nat.zero_add, List.getD_eq_getElem?_getD, List.getElem?_eq_getElem he, Option.getD_some] at h4
    rw [List.getElem_map, List.getElem_map, List.getElem_range, ctL_at hi, if_pos (by omega), h4, nn_clamp (by omega)]
    rfl
end CHALK
