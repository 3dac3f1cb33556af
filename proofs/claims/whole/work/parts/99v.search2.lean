/-! ===== the Ear: the search, its loops ===== -/
/-- the choir of fit e in minute x -/
def chv (K : Kt) (N D L : Nat) (w : Rw) (x e : Nat) : Int64 := notesN (iterR (minR K N D L) x (upd w (24 + e / 10) (Int32.ofNat (e % 10)))) N
section SEARCH2
variable {d : Nat} {t : List px_E} {T : (Nat → Int64) → List px_E} {p : Nat} {g : hG} {q N S D L Tm : Nat} {cz sz : Bool → Nat} {e : Rw}
def hAl (t : List px_E) (T : (Nat → Int64) → List px_E) (p : Nat) (cz sz : Bool → Nat) : Prop := p = t.length + 89 ∧ t ++ [.inl (1, 4392, .inr (.inl (fun _ => 0)))] = T (fun _ => 0) ∧ cz false = cz true + 1 ∧ sz false = sz true + 4392
theorem chL_chv {K : Kt} {w : Rw} {F : Nat → Int64} {j c x : Nat} (hc : c ≤ 9) (h1 : 1 ≤ x) (h2 : x ≤ 60) : chL (minR K N D L) N 60 1 (upd w (24 + j) (Int32.ofNat c)) F x = chv K N D L w x (10 * j + c) := by
  rw [chL_at, if_pos (by omega)]
  unfold chv
  rw [show x - 1 + 1 = x by omega, show (10 * j + c) / 10 = j by omega, show (10 * j + c) % 10 = c by omega]
set_option maxHeartbeats 8000000 in
theorem se_in (hT : earT T p) (hK : KN (kC g) N S D L) (hO : KO (kC g) N S D L) (hq8 : q ≤ 8) (hH : g.1 34 2 = Int32.ofNat q) (hb : ∀ i, i < q → (1 ≤ (g.1 35 i).toInt ∧ (g.1 35 i).toInt ≤ 60) ∧ (-1 ≤ (g.1 36 i).toInt ∧ (g.1 36 i).toInt ≤ 60)) (hz : Z54 (g.1 29)) {j y : Nat} (hj : j < 8) (hy : g.1 29 (24 + j) = Int32.ofNat y) (hy9 : y ≤ 9) :
    ∀ m c : Nat, c + m = 10 → ∀ (E : List Nat) (z : Bool) (U : Nat → Int64) (u : Rw) (F : Nat → Int64) (w : Rw) (s : Int32) (n : Int64) (v k : Rw), (z = true → E = [] ∧ hAl t T p cz sz) → Z54 w → EI (chv (kC g) N D L (g.1 29)) E U u → E.length + (if y < c then 1 else 0) ≤ 9 * j + c →
    ∃ (E' : List Nat) (z' : Bool) (U' : Nat → Int64) (u' : Rw) (F' : Nat → Int64) (w' : Rw) (s' : Int32) (n' : Int64) (v' k' : Rw), E' = E ++ (fiS (okF (kC g) N D L q (g.1 29) (g.1 35) (g.1 36) j) (g.1 29 (24 + j)) m c).map (fun c => 10 * j + c) ∧ (z' = true → z = true ∧ E' = [] ∧ hAl t T p cz sz) ∧ Z54 w' ∧ EI (chv (kC g) N D L (g.1 29)) E' U' u' ∧ E'.length ≤ 9 * (j + 1) ∧
    bc (d + 5) M_X1_search none 46 [some (.ref 37), some (.ref 16), some (.ref 29), some (.ref 34), some (.int (Int32.ofNat j)), some (.int (Int32.ofNat c))] [] (hp (bif z then t else T U) (gW g (bif z then .null else .ref p) (eR e E) u F w s n v k)) (cz z) (sz z) =
    bc (d + 5) M_X1_search none 144 [some (.ref 37), some (.ref 16), some (.ref 29), some (.ref 34), some (.int (Int32.ofNat j)), some (.int (Int32.ofNat 10))] [] (hp (bif z' then t else T U') (gW g (bif z' then .null else .ref p) (eR e E') u' F' w' s' n' v' k')) (cz z') (sz z') := by
  intro m
  induction m with
  | zero =>
    intro c hc E z U u F w s n v k hzE hw hE hl
    refine ⟨E, z, U, u, F, w, s, n, v, k, by rw [show fiS (okF (kC g) N D L q (g.1 29) (g.1 35) (g.1 36) j) (g.1 29 (24 + j)) 0 c = [] from rfl, List.map_nil, List.append_nil], fun h => ⟨h, hzE h⟩, hw, hE, ?_, ?_⟩
    · rw [if_pos (by omega)] at hl; omega
    · obtain rfl : c = 10 := by omega
      rw [st_X1_search_46]
      simp (disch := omega) only [st_X1_search_48, st_X1_search_50, nn_g9, show 9 < 10 by omega, if_true, Nat.reduceAdd]
  | succ m ih =>
    intro c hc E z U u F w s n v k hzE hw hE hl
    unfold fiS
    by_cases h : Int32.ofNat c = g.1 29 (24 + j)
    · have hcy : c = y := by rw [hy, nn_inj (by omega) (by omega)] at h; exact h
      obtain ⟨E', z', U', u', F', w', s', n', v', k', r1, r2, r3, r4, r5, r6⟩ := ih (c + 1) (by omega) E z U u F (upd (g.1 29) (24 + j) (Int32.ofNat c)) s n v k hzE (Z54_upd hz (by omega)) hE (by rw [if_neg (by omega)] at hl; rw [if_pos (by omega)]; omega)
      refine ⟨E', z', U', u', F', w', s', n', v', k', by rw [if_pos h]; exact r1, r2, r3, r4, r5, ?_⟩
      rw [← r6]
      exact se_was hj (by omega) hz hw h
    · have hcy : ¬ c = y := by rw [hy, nn_inj (by omega) (by omega)] at h; exact h
      obtain ⟨w1, s1, n1, v1, k1, hw1, e1⟩ := se_fit (d := d) (t := bif z then t else T U) (z := bif z then .null else .ref p) (e := eR e E) (u := u) (F := F) (w := w) (s := s) (n := n) (v := v) (k := k) (cn := cz z) (sn := sz z) hK hO hq8 hH hb hj (show c ≤ 9 by omega) hz hw h
      rw [if_neg h]
      cases hok : okF (kC g) N D L q (g.1 29) (g.1 35) (g.1 36) j c with
      | false =>
        rw [hok, cond_false] at e1
        obtain ⟨E', z', U', u', F', w', s', n', v', k', r1, r2, r3, r4, r5, r6⟩ := ih (c + 1) (by omega) E z U u (chL (minR (kC g) N D L) N 60 1 (upd (g.1 29) (24 + j) (Int32.ofNat c)) F) w1 s1 n1 v1 k1 hzE hw1 hE (by split at hl <;> split <;> omega)
        refine ⟨E', z', U', u', F', w', s', n', v', k', by rw [if_neg (by simp)]; exact r1, r2, r3, r4, r5, ?_⟩
        rw [← r6]
        refine Eq.trans e1 ?_
        simp (disch := omega) only [st_X1_search_95, st_X1_search_138, st_X1_search_141, if_true, lc_r, lc_i, nn_r1, Nat.reduceAdd]
      | true =>
        rw [hok, cond_true] at e1
        have hl1 : E.length < 72 := by split at hl <;> omega
        have hl0 : E.length < 1000 := by omega
        have hu := EI_lt hE hl1
        rw [if_pos rfl]
        cases z with
        | false =>
          have e2 := se_yes (d := d) (t := T U) (g := g) (z := .ref p) (e := e) (u := u) (F := chL (minR (kC g) N D L) N 60 1 (upd (g.1 29) (24 + j) (Int32.ofNat c)) F) (w := w1) (s := s1) (n := n1) (v := v1) (k := k1) (cn := cz false) (sn := sz false) (j := j) (c := c) hl0 hj (by omega)
          have e3 := c_collect (d := d + 4) (T := T) (F := U) (g := gW g (.ref p) (eR e (E ++ [10 * j + c])) u (chL (minR (kC g) N D L) N 60 1 (upd (g.1 29) (24 + j) (Int32.ofNat c)) F) w1 s1 n1 v1 k1) (cn := 0) (sn := 0) hT rfl hu
          rw [gW_u, gW_39, gW_40] at e3
          have hE2 := EI_suc (C := chL (minR (kC g) N D L) N 60 1 (upd (g.1 29) (24 + j) (Int32.ofNat c)) F) (e := 10 * j + c) hE hl1 (fun x h1 h2 => chL_chv (by omega) h1 h2)
          obtain ⟨E', z', U', u', F', w', s', n', v', k', r1, r2, r3, r4, r5, r6⟩ := ih (c + 1) (by omega) (E ++ [10 * j + c]) false _ _ (chL (minR (kC g) N D L) N 60 1 (upd (g.1 29) (24 + j) (Int32.ofNat c)) F) w1 s1 n1 v1 k1 (fun h => (by cases h)) hw1 hE2 (by rw [List.length_append, List.length_singleton]; split at hl <;> split <;> omega)
          refine ⟨E', z', U', u', F', w', s', n', v', k', by rw [r1, List.map_cons, List.append_assoc]; rfl, fun h => absurd (r2 h).1 (by decide), r3, r4, r5, ?_⟩
          rw [← r6]
          refine Eq.trans e1 ?_
          simp only [cond_false]
          refine Eq.trans e2 ?_
          rw [e3]
          simp (disch := omega) only [st_X1_search_138, st_X1_search_141, bC_inl, Option.toList, List.nil_append, Nat.add_zero, lc_r, lc_i, nn_r1, Nat.reduceAdd]
        | true =>
          obtain ⟨hnil, hp0, ht, hcz, hsz⟩ := hzE rfl
          have e2 := se_yes (d := d) (t := t) (g := g) (z := .null) (e := e) (u := u) (F := chL (minR (kC g) N D L) N 60 1 (upd (g.1 29) (24 + j) (Int32.ofNat c)) F) (w := w1) (s := s1) (n := n1) (v := v1) (k := k1) (cn := cz true) (sn := sz true) (j := j) (c := c) hl0 hj (by omega)
          have e3 := c_collect0 (d := d + 4) (T := T) (t := t) (g := gW g .null (eR e (E ++ [10 * j + c])) u (chL (minR (kC g) N D L) N 60 1 (upd (g.1 29) (24 + j) (Int32.ofNat c)) F) w1 s1 n1 v1 k1) (cn := 0) (sn := 0) hT hp0 rfl ht hu
          rw [gW_z, gW_u, gW_39, gW_40] at e3
          have hE0 : EI (chv (kC g) N D L (g.1 29)) E (fun _ => 0) u := by
            subst hnil
            intro x h1 h2
            exact ⟨(hE x h1 h2).1, fun i hi => absurd hi (Nat.not_lt_zero i)⟩
          have hE2 := EI_suc (C := chL (minR (kC g) N D L) N 60 1 (upd (g.1 29) (24 + j) (Int32.ofNat c)) F) (e := 10 * j + c) hE0 hl1 (fun x h1 h2 => chL_chv (by omega) h1 h2)
          obtain ⟨E', z', U', u', F', w', s', n', v', k', r1, r2, r3, r4, r5, r6⟩ := ih (c + 1) (by omega) (E ++ [10 * j + c]) false _ _ (chL (minR (kC g) N D L) N 60 1 (upd (g.1 29) (24 + j) (Int32.ofNat c)) F) w1 s1 n1 v1 k1 (fun h => (by cases h)) hw1 hE2 (by rw [List.length_append, List.length_singleton]; split at hl <;> split <;> omega)
          refine ⟨E', z', U', u', F', w', s', n', v', k', by rw [r1, List.map_cons, List.append_assoc]; rfl, fun h => absurd (r2 h).1 (by decide), r3, r4, r5, ?_⟩
          rw [← r6]
          refine Eq.trans e1 ?_
          simp only [cond_true]
          refine Eq.trans e2 ?_
          rw [e3]
          simp (disch := omega) only [st_X1_search_138, st_X1_search_141, bC_inl, Option.toList, List.nil_append, Nat.add_zero, Nat.zero_add, cond_false, lc_r, lc_i, nn_r1, Nat.reduceAdd, hcz, hsz]
end SEARCH2
