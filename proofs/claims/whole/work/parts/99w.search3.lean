/-! ===== the Ear: the search, whole ===== -/
section SEARCH3
variable {d : Nat} {t : List px_E} {T : (Nat → Int64) → List px_E} {p : Nat} {g : hG} {q N S D L Tm cn sn : Nat} {cz sz : Bool → Nat} {e : Rw}
set_option maxHeartbeats 8000000 in
theorem se_out (hT : earT T p) (hK : KN (kC g) N S D L) (hO : KO (kC g) N S D L) (hq8 : q ≤ 8) (hH : g.1 34 2 = Int32.ofNat q) (hb : ∀ i, i < q → (1 ≤ (g.1 35 i).toInt ∧ (g.1 35 i).toInt ≤ 60) ∧ (-1 ≤ (g.1 36 i).toInt ∧ (g.1 36 i).toInt ≤ 60)) (hz : Z54 (g.1 29)) (hy : ∀ j, j < N → 0 ≤ (g.1 29 (24 + j)).toInt ∧ (g.1 29 (24 + j)).toInt ≤ 9) :
    ∀ m j : Nat, j + m = N → ∀ (E : List Nat) (z : Bool) (U : Nat → Int64) (u : Rw) (F : Nat → Int64) (w : Rw) (s : Int32) (n : Int64) (v k : Rw) (a5 : Option Value), (z = true → E = [] ∧ hAl t T p cz sz) → Z54 w → EI (chv (kC g) N D L (g.1 29)) E U u → E.length ≤ 9 * j →
    ∃ (E' : List Nat) (z' : Bool) (U' : Nat → Int64) (u' : Rw) (F' : Nat → Int64) (w' : Rw) (s' : Int32) (n' : Int64) (v' k' : Rw) (b4 b5 : Option Value), E' = E ++ foS (okF (kC g) N D L q (g.1 29) (g.1 35) (g.1 36)) (g.1 29) m j ∧ (z' = true → z = true ∧ E' = []) ∧ Z54 w' ∧ EI (chv (kC g) N D L (g.1 29)) E' U' u' ∧ E'.length ≤ 72 ∧
    bc (d + 5) M_X1_search none 34 [some (.ref 37), some (.ref 16), some (.ref 29), some (.ref 34), some (.int (Int32.ofNat j)), a5] [] (hp (bif z then t else T U) (gW g (bif z then .null else .ref p) (eR e E) u F w s n v k)) (cz z) (sz z) =
    bc (d + 5) M_X1_search none 150 [some (.ref 37), some (.ref 16), some (.ref 29), some (.ref 34), b4, b5] [] (hp (bif z' then t else T U') (gW g (bif z' then .null else .ref p) (eR e E') u' F' w' s' n' v' k')) (cz z') (sz z') := by
  have hN : g.1 16 10 = Int32.ofNat N := hK.1
  have h8 := hK.2.1
  intro m
  induction m with
  | zero =>
    intro j hj E z U u F w s n v k a5 hzE hw hE hl
    refine ⟨E, z, U, u, F, w, s, n, v, k, some (.int (Int32.ofNat j)), a5, by rw [show foS (okF (kC g) N D L q (g.1 29) (g.1 35) (g.1 36)) (g.1 29) 0 j = [] from rfl, List.append_nil], fun h => ⟨h, (hzE h).1⟩, hw, hE, by omega, ?_⟩
    rw [st_X1_search_34]
    simp (disch := omega) only [st_X1_search_36, st_X1_search_37, st_X1_search_40, bM_some, hg_16_10, gW_16, hN, nn_lt, show ¬ j < N by omega, if_false, Nat.reduceAdd]
  | succ m ih =>
    intro j hj E z U u F w s n v k a5 hzE hw hE hl
    obtain ⟨y0, y9⟩ := hy j (by omega)
    have yc := ii_clamp (a := g.1 29 (24 + j))
    obtain ⟨E1, z1, U1, u1, F1, w1, s1, n1, v1, k1, r1, r2, r3, r4, r5, r6⟩ := se_in (d := d) (t := t) (T := T) (p := p) (cz := cz) (sz := sz) (e := e) hT hK hO hq8 hH hb hz (j := j) (y := (g.1 29 (24 + j)).toNatClampNeg) (by omega) (ii_nat y0).symm (by omega) 10 0 (by omega) E z U u F w s n v k hzE hw hE (by rw [if_neg (Nat.not_lt_zero _)]; omega)
    obtain ⟨E', z', U', u', F', w', s', n', v', k', b4, b5, q1, q2, q3, q4, q5, q6⟩ := ih (j + 1) (by omega) E1 z1 U1 u1 F1 w1 s1 n1 v1 k1 (some (.int (Int32.ofNat 10))) (fun h => (r2 h).2) r3 r4 r5
    refine ⟨E', z', U', u', F', w', s', n', v', k', b4, b5, by rw [q1, r1, List.append_assoc]; rfl, fun h => ⟨(r2 (q2 h).1).1, (q2 h).2⟩, q3, q4, q5, ?_⟩
    rw [← q6, st_X1_search_34]
    simp (disch := omega) only [st_X1_search_36, st_X1_search_37, st_X1_search_40, st_X1_search_43, st_X1_search_44, bM_some, hg_16_10, gW_16, hN, nn_lt, show j < N by omega, if_true, lc_r, lc_i, Nat.reduceAdd]
    rw [show Int32.ofNat 0 = (0 : Int32) from rfl] at r6
    refine Eq.trans r6 ?_
    simp only [st_X1_search_144, st_X1_search_147, lc_r, lc_i, nn_r1, Nat.reduceAdd]
theorem upd_87 {e : Rw} {a b c f : Int32} : upd (upd (upd (upd e 7 a) 8 b) 8 c) 7 f = upd (upd e 7 f) 8 c := by
  funext y
  simp only [upd_at]
  (repeat' split) <;> first | rfl | (exfalso; omega)
theorem chM_le {c : Nat → Nat} {B : Nat} (hc : ∀ x, c x ≤ B) : ∀ (m i : Nat) (b : Int32) (o : Nat), o ≤ B → (chM c m i b o).2 ≤ B := by
  intro m
  induction m with
  | zero => intro i b o h; exact h
  | succ m ih =>
    intro i b o h
    unfold chM
    split
    · exact ih _ _ _ (hc i)
    · exact ih _ _ _ h
set_option maxHeartbeats 4000000 in
theorem cm_l {c : Nat → Nat} (hu : ∀ x, 1 ≤ x → x ≤ 60 → g.1 40 x = Int32.ofNat (c x)) (hc : ∀ x, c x ≤ 100) : ∀ m i : Nat, i + m = 61 → 1 ≤ i → ∀ (b : Int32) (o : Nat), o ≤ 100 →
    bc d M_X1_chooseMinute none 12 [some (.ref 37), some (.int (Int32.ofNat i))] [] (hp t (hR g 37 (upd (upd e 7 b) 8 (Int32.ofNat o)))) cn sn = some (.inl none, hp t (hR g 37 (upd (upd e 7 (chM c m i b o).1) 8 (Int32.ofNat (chM c m i b o).2))), cn, sn) := by
  have f1 : ∀ (r : Rw) (i : Nat) (x : Int32), hI (hR g 37 r) 37 i x = hR g 37 (upd r i x) := fun r i x => by rw [hI_R, hR_same, hR_hR]
  have f2 : ∀ r : Rw, (hR g 37 r).1 37 = r := fun r => rfl
  have f3 : ∀ r : Rw, (hR g 37 r).1 40 = g.1 40 := fun r => rfl
  intro m
  induction m with
  | zero =>
    intro i hi h1 b o ho
    rw [st_X1_chooseMinute_12]
    simp (disch := omega) only [st_X1_chooseMinute_13, st_X1_chooseMinute_15, st_X1_chooseMinute_52, nn_g60, show 60 < i by omega, if_true, chM, Nat.reduceAdd]
  | succ m ih =>
    intro i hi h1 b o ho
    have hci := hc i
    unfold chM
    rw [st_X1_chooseMinute_12]
    by_cases h : o < c i
    · have e' := ih (i + 1) (by omega) (by omega) (Int32.ofNat i) (c i) hci
      rw [if_pos h]
      simp (disch := omega) only [st_X1_chooseMinute_13, st_X1_chooseMinute_15, st_X1_chooseMinute_18, st_X1_chooseMinute_19, st_X1_chooseMinute_22, st_X1_chooseMinute_23, st_X1_chooseMinute_24, st_X1_chooseMinute_25, st_X1_chooseMinute_28, st_X1_chooseMinute_31, st_X1_chooseMinute_32, st_X1_chooseMinute_33, st_X1_chooseMinute_36, st_X1_chooseMinute_37, st_X1_chooseMinute_38, st_X1_chooseMinute_41, st_X1_chooseMinute_42, st_X1_chooseMinute_43, st_X1_chooseMinute_46, st_X1_chooseMinute_49, nn_g60, show ¬ 60 < i by omega, if_false, bM_some, hg_37_2, hg_37_8, hs_37_7, hs_37_8, ha_40, f1, f2, f3, hu i h1 (by omega), upd_same, nn_out, nn_clamp, cond_false, nn_lt, h, if_true, upd_87, lc_r, lc_i, nn_r1, Nat.reduceAdd, e']
    · have e' := ih (i + 1) (by omega) (by omega) b o ho
      rw [if_neg h]
      simp (disch := omega) only [st_X1_chooseMinute_13, st_X1_chooseMinute_15, st_X1_chooseMinute_18, st_X1_chooseMinute_19, st_X1_chooseMinute_22, st_X1_chooseMinute_23, st_X1_chooseMinute_24, st_X1_chooseMinute_25, st_X1_chooseMinute_28, st_X1_chooseMinute_46, st_X1_chooseMinute_49, nn_g60, show ¬ 60 < i by omega, if_false, bM_some, hg_37_2, hg_37_8, ha_40, f2, f3, hu i h1 (by omega), upd_same, nn_out, nn_clamp, cond_false, nn_lt, h, lc_r, lc_i, nn_r1, Nat.reduceAdd, e']
theorem c_choose {c : Nat → Nat} (hu : ∀ x, 1 ≤ x → x ≤ 60 → g.1 40 x = Int32.ofNat (c x)) (hc : ∀ x, c x ≤ 100) :
    bc d M_X1_chooseMinute none 0 [some (.ref 37), none] [] (hp t g) cn sn = some (.inl none, hp t (hR g 37 (upd (upd (g.1 37) 7 (chM c 60 1 (-1) 0).1) 8 (Int32.ofNat (chM c 60 1 (-1) 0).2))), cn, sn) := by
  have e1 := cm_l (d := d) (t := t) (e := g.1 37) (cn := cn) (sn := sn) hu hc 60 1 (by omega) (by omega) (-1) 0 (by omega)
  rw [show Int32.ofNat 0 = (0 : Int32) from rfl, show Int32.ofNat 1 = (1 : Int32) from rfl] at e1
  refine Eq.trans ?_ e1
  have f1 : hI (hI g 37 7 (-1)) 37 8 0 = hR g 37 (upd (upd (g.1 37) 7 (-1)) 8 0) := by rw [hI_R, hI_R, hR_same, hR_hR]
  simp only [st_X1_chooseMinute_0, st_X1_chooseMinute_1, st_X1_chooseMinute_2, st_X1_chooseMinute_5, st_X1_chooseMinute_6, st_X1_chooseMinute_7, st_X1_chooseMinute_10, st_X1_chooseMinute_11, bM_some, hs_37_7, hs_37_8, f1, lc_r, lc_n, Nat.reduceAdd]
/-- what THE CHALK and LISTEN are -/
def fitS (K : Kt) (N D L q : Nat) (w hm hn : Rw) : List Nat := foS (okF K N D L q w hm hn) w N 0
def unA (K : Kt) (N D L q : Nat) (w hm hn : Rw) (x : Nat) : Nat := (dd ((fitS K N D L q w hm hn).map (chv K N D L w x))).length
def liA (K : Kt) (N D L q : Nat) (w hm hn : Rw) : Int32 × Nat := chM (unA K N D L q w hm hn) 60 1 (-1) 0
/-- the Ear's ints hold the answer -/
def eaOk (K : Kt) (N D L q : Nat) (w hm hn e : Rw) : Prop := e 5 = Int32.ofNat (fitS K N D L q w hm hn).length ∧ e 6 = fiE (fitS K N D L q w hm hn) ∧ e 7 = (liA K N D L q w hm hn).1 ∧ e 8 = Int32.ofNat (liA K N D L q w hm hn).2
set_option maxHeartbeats 8000000 in
theorem c_search (hT : earT T p) (hK : KN (kC g) N S D L) (hO : KO (kC g) N S D L) (hq8 : q ≤ 8) (hH : g.1 34 2 = Int32.ofNat q) (hb : ∀ i, i < q → (1 ≤ (g.1 35 i).toInt ∧ (g.1 35 i).toInt ≤ 60) ∧ (-1 ≤ (g.1 36 i).toInt ∧ (g.1 36 i).toInt ≤ 60)) (hz : Z54 (g.1 29)) (hy : ∀ j, j < N → 0 ≤ (g.1 29 (24 + j)).toInt ∧ (g.1 29 (24 + j)).toInt ≤ 9) (hw : Z54 (g.1 38)) (z : Bool) (U : Nat → Int64) (hzA : z = true → hAl t T p cz sz) (h3 : g.2.2 37 3 = bif z then .null else .ref p)
    (hk : g.1 37 4 = 0 ∨ (g.1 37 4 = 1 ∧ eaOk (kC g) N D L q (g.1 29) (g.1 35) (g.1 36) (g.1 37))) : ∃ (z' : Bool) (U' : Nat → Int64) (e' u' : Rw) (F' : Nat → Int64) (w' : Rw) (s' : Int32) (n' : Int64) (v' k' : Rw), (z' = true → z = true) ∧ Z54 w' ∧ e' 4 = 1 ∧ eaOk (kC g) N D L q (g.1 29) (g.1 35) (g.1 36) e' ∧
    bc (d + 5) M_X1_search none 0 [some (.ref 37), some (.ref 16), some (.ref 29), some (.ref 34), none, none] [] (hp (bif z then t else T U) g) (cz z) (sz z) = some (.inl none, hp (bif z' then t else T U') (gW g (bif z' then .null else .ref p) e' u' F' w' s' n' v' k'), cz z', sz z') := by
  have h8 := hK.2.1
  rcases hk with hk | ⟨hk, hok⟩
  · have hE0 : EI (chv (kC g) N D L (g.1 29)) [] U (filF 0 61 0 (g.1 40)) := by
      intro x h1 h2
      refine ⟨?_, fun i hi => absurd hi (Nat.not_lt_zero i)⟩
      unfold filF
      rw [if_pos (by omega)]; rfl
    obtain ⟨E', z', U', u', F', w', s', n', v', k', b4, b5, q1, q2, q3, q4, q5, q6⟩ := se_out (d := d) (t := t) (T := T) (p := p) (cz := cz) (sz := sz) (e := upd (g.1 37) 4 1) hT hK hO hq8 hH hb hz hy N 0 (by omega) [] z U (filF 0 61 0 (g.1 40)) (g.2.1 39) (g.1 38) (g.1 16 14) (g.2.1 16 13) (g.1 28) (g.1 27) none (fun h => ⟨rfl, hzA h⟩) hw hE0 (by rw [List.length_nil]; omega)
    rw [List.nil_append] at q1
    have hE : E' = fitS (kC g) N D L q (g.1 29) (g.1 35) (g.1 36) := q1
    have hun : ∀ x, unA (kC g) N D L q (g.1 29) (g.1 35) (g.1 36) x ≤ 100 := by
      intro x
      unfold unA
      rw [← hE]
      have := dd_len (l := E'.map (chv (kC g) N D L (g.1 29) x))
      rw [List.length_map] at this
      omega
    have ec := c_choose (d := d + 4) (t := bif z' then t else T U') (g := gW g (bif z' then .null else .ref p) (eR (upd (g.1 37) 4 1) E') u' F' w' s' n' v' k') (cn := 0) (sn := 0) (c := unA (kC g) N D L q (g.1 29) (g.1 35) (g.1 36)) (fun x h1 h2 => by rw [gW_40, (q4 x h1 h2).1]; unfold unA; rw [← hE]) hun
    rw [gW_37] at ec
    have f37 : ∀ (r r' : Rw) (zz : Value), hR (gW g zz r u' F' w' s' n' v' k') 37 r' = gW g zz r' u' F' w' s' n' v' k' := by
      intro r r' zz
      apply hG_ext
      · intro c j
        simp only [gW, gP, hR_at, hI_at, hJ_at, hR_2, hI_2, hJ_1, hJ_22, hQ_1, hV_1]
        (repeat' split) <;> first | rfl | (exfalso; omega)
      · intro c j; rfl
      · rfl
    rw [f37] at ec
    refine ⟨z', U', _, u', F', w', s', n', v', k', fun h => (q2 h).1, q3, ?_, ?_, Eq.trans ?_ (Eq.trans q6 (Eq.trans (b := bC (bc (d + 4) M_X1_chooseMinute none 0 [some (.ref 37), none] [] (hp (bif z' then t else T U') (gW g (bif z' then .null else .ref p) (eR (upd (g.1 37) 4 1) E') u' F' w' s' n' v' k')) 0 0) (fun v h' c k => bc (d + 5) M_X1_search none 154 [some (.ref 37), some (.ref 16), some (.ref 29), some (.ref 34), b4, b5] (v.toList ++ []) h' (cz z' + c) (sz z' + k)) (fun zz h' c k => some (.inr zz, h', cz z' + c, sz z' + k))) ?_ (by rw [ec]; simp only [st_X1_search_154, bC_inl, Option.toList, List.nil_append, Nat.add_zero]; rfl)))⟩
    · unfold eR; simp only [upd_at]; rfl
    · refine ⟨?_, ?_, ?_, ?_⟩
      · rw [upd_oth (by decide), upd_oth (by decide), eR_5, hE]
      · rw [upd_oth (by decide), upd_oth (by decide), eR_6, hE]
      · rw [upd_oth (by decide), upd_same]; rfl
      · rw [upd_same]; rfl
    · have g1 : g = gW g (bif z then .null else .ref p) (g.1 37) (g.1 40) (g.2.1 39) (g.1 38) (g.1 16 14) (g.2.1 16 13) (g.1 28) (g.1 27) := by rw [← h3]; exact gW_eta.symm
      have f4 : ∀ tt : List px_E, bc (d + 4) M_J7_fill_53178 none 0 [some (.ref 40), some (.int 0), none, none] [] (hp tt (gW g (bif z then .null else .ref p) (upd (upd (upd (g.1 37) 4 1) 5 0) 6 (-1)) (g.1 40) (g.2.1 39) (g.1 38) (g.1 16 14) (g.2.1 16 13) (g.1 28) (g.1 27))) 0 0 = some (.inl none, hp tt (gW g (bif z then .null else .ref p) (eR (upd (g.1 37) 4 1) []) (filF 0 61 0 (g.1 40)) (g.2.1 39) (g.1 38) (g.1 16 14) (g.2.1 16 13) (g.1 28) (g.1 27)), 0, 0) := by
        intro tt
        rw [fill_40, gW_u]; rfl
      rw [show hp (bif z then t else T U) g = hp (bif z then t else T U) (gW g (bif z then .null else .ref p) (g.1 37) (g.1 40) (g.2.1 39) (g.1 38) (g.1 16 14) (g.2.1 16 13) (g.1 28) (g.1 27)) from congrArg _ g1]
      simp only [st_X1_search_0, st_X1_search_1, st_X1_search_4, st_X1_search_8, st_X1_search_9, st_X1_search_10, st_X1_search_13, st_X1_search_14, st_X1_search_15, st_X1_search_18, st_X1_search_19, st_X1_search_20, st_X1_search_23, st_X1_search_24, st_X1_search_27, st_X1_search_31, st_X1_search_32, st_X1_search_28 ps_, bM_some, hg_37_4, hg_37_2, hs_37_4_1, hs_37_5, hs_37_6, gW_37, gW_e, hk, if_true, f4, bC_inl, Option.toList, List.nil_append, Nat.add_zero, lc_r, lc_n, Nat.reduceAdd]
      rfl
    · simp only [st_X1_search_150, st_X1_search_151 (p := 37) hq_37 ps_, Nat.reduceAdd]
  · refine ⟨z, U, g.1 37, g.1 40, g.2.1 39, g.1 38, g.1 16 14, g.2.1 16 13, g.1 28, g.1 27, fun h => h, hw, hk, hok, ?_⟩
    rw [← h3, gW_eta]
    simp only [st_X1_search_0, st_X1_search_1, st_X1_search_4, st_X1_search_7, bM_some, hg_37_4, hk, nn_one0, if_false, Nat.reduceAdd]
end SEARCH3
