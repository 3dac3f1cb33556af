/-! ===== the Ear: the search ===== -/
def filF (x : Int32) (m i : Nat) (f : Rw) : Rw := fun y => if i ≤ y ∧ y < i + m then x else f y
theorem filF_suc {x : Int32} {m i : Nat} {f : Rw} : filF x m (i + 1) (upd f i x) = filF x (m + 1) i f := by
  funext y
  unfold filF
  by_cases h : i + 1 ≤ y ∧ y < i + 1 + m
  · rw [if_pos h, if_pos (by omega)]
  · rw [if_neg h, upd_at]
    by_cases e : y = i
    · rw [if_pos e, if_pos (by omega)]
    · rw [if_neg e, if_neg (by omega)]
section FILL
variable {d : Nat} {t : List px_E} {g : hG} {cn sn : Nat} {x : Int32}
theorem fill_40_l : ∀ m i : Nat, i + m = 61 → ∀ f : Rw,
    bc d M_J7_fill_53178 none 5 [some (.ref 40), some (.int x), some (.int (Int32.ofNat i)), some (.int 61)] [] (hp t (hR g 40 f)) cn sn = some (.inl none, hp t (hR g 40 (filF x m i f)), cn, sn) := by
  intro m
  induction m with
  | zero =>
    intro i hi f
    have e1 : (Int32.ofNat i < (61 : Int32)) = False := by rw [show (61 : Int32) = Int32.ofNat 61 from rfl, nn_lt (by omega) (by omega)]; exact eq_false (by omega)
    have e2 : filF x 0 i f = f := by funext y; unfold filF; rw [if_neg (by omega)]
    rw [st_J7_fill_53178_5]
    simp (disch := omega) only [st_J7_fill_53178_6, st_J7_fill_53178_7, st_J7_fill_53178_20, e1, e2, if_false, Nat.reduceAdd]
  | succ m ih =>
    intro i hi f
    have e1 : (Int32.ofNat i < (61 : Int32)) = True := by rw [show (61 : Int32) = Int32.ofNat 61 from rfl, nn_lt (by omega) (by omega)]; exact eq_true (by omega)
    have e2 : hI (hR g 40 f) 40 i x = hR g 40 (upd f i x) := by rw [hI_R, hR_same, hR_hR]
    have e3 := ih (i + 1) (by omega) (upd f i x)
    rw [filF_suc] at e3
    rw [st_J7_fill_53178_5]
    simp (disch := omega) only [st_J7_fill_53178_6, st_J7_fill_53178_7, st_J7_fill_53178_10, st_J7_fill_53178_11, st_J7_fill_53178_12, st_J7_fill_53178_13, st_J7_fill_53178_14, st_J7_fill_53178_17, e1, e2, e3, if_true, bM_some, hw_40, nn_out, nn_clamp, cond_false, lc_r, lc_i, nn_r1, Nat.reduceAdd]
theorem fill_40 : bc d M_J7_fill_53178 none 0 [some (.ref 40), some (.int x), none, none] [] (hp t g) cn sn = some (.inl none, hp t (hR g 40 (filF x 61 0 (g.1 40))), cn, sn) := by
  have e := fill_40_l (d := d) (t := t) (g := g) (cn := cn) (sn := sn) (x := x) 61 0 (by omega) (g.1 40)
  rw [hR_self, show Int32.ofNat 0 = (0 : Int32) from rfl] at e
  refine Eq.trans ?_ e
  simp only [st_J7_fill_53178_0, st_J7_fill_53178_1, st_J7_fill_53178_2, st_J7_fill_53178_3, st_J7_fill_53178_4, bM_some, hn_40, lc_r, lc_i, lc_n, Nat.reduceAdd]
theorem fill_29_l : ∀ m i : Nat, i + m = 54 → ∀ f : Rw,
    bc d M_J7_fill_53178 none 5 [some (.ref 29), some (.int x), some (.int (Int32.ofNat i)), some (.int 54)] [] (hp t (hR g 29 f)) cn sn = some (.inl none, hp t (hR g 29 (filF x m i f)), cn, sn) := by
  intro m
  induction m with
  | zero =>
    intro i hi f
    have e1 : (Int32.ofNat i < (54 : Int32)) = False := by rw [show (54 : Int32) = Int32.ofNat 54 from rfl, nn_lt (by omega) (by omega)]; exact eq_false (by omega)
    have e2 : filF x 0 i f = f := by funext y; unfold filF; rw [if_neg (by omega)]
    rw [st_J7_fill_53178_5]
    simp (disch := omega) only [st_J7_fill_53178_6, st_J7_fill_53178_7, st_J7_fill_53178_20, e1, e2, if_false, Nat.reduceAdd]
  | succ m ih =>
    intro i hi f
    have e1 : (Int32.ofNat i < (54 : Int32)) = True := by rw [show (54 : Int32) = Int32.ofNat 54 from rfl, nn_lt (by omega) (by omega)]; exact eq_true (by omega)
    have e2 : hI (hR g 29 f) 29 i x = hR g 29 (upd f i x) := by rw [hI_R, hR_same, hR_hR]
    have e3 := ih (i + 1) (by omega) (upd f i x)
    rw [filF_suc] at e3
    rw [st_J7_fill_53178_5]
    simp (disch := omega) only [st_J7_fill_53178_6, st_J7_fill_53178_7, st_J7_fill_53178_10, st_J7_fill_53178_11, st_J7_fill_53178_12, st_J7_fill_53178_13, st_J7_fill_53178_14, st_J7_fill_53178_17, e1, e2, e3, if_true, bM_some, hw_29, nn_out, nn_clamp, cond_false, lc_r, lc_i, nn_r1, Nat.reduceAdd]
theorem fill_29 : bc d M_J7_fill_53178 none 0 [some (.ref 29), some (.int x), none, none] [] (hp t g) cn sn = some (.inl none, hp t (hR g 29 (filF x 54 0 (g.1 29))), cn, sn) := by
  have e := fill_29_l (d := d) (t := t) (g := g) (cn := cn) (sn := sn) (x := x) 54 0 (by omega) (g.1 29)
  rw [hR_self, show Int32.ofNat 0 = (0 : Int32) from rfl] at e
  refine Eq.trans ?_ e
  simp only [st_J7_fill_53178_0, st_J7_fill_53178_1, st_J7_fill_53178_2, st_J7_fill_53178_3, st_J7_fill_53178_4, bM_some, hn_29, lc_r, lc_i, lc_n, Nat.reduceAdd]
theorem fill_44_l : ∀ m i : Nat, i + m = 4 → ∀ f : Rw,
    bc d M_J7_fill_53178 none 5 [some (.ref 44), some (.int x), some (.int (Int32.ofNat i)), some (.int 4)] [] (hp t (hR g 44 f)) cn sn = some (.inl none, hp t (hR g 44 (filF x m i f)), cn, sn) := by
  intro m
  induction m with
  | zero =>
    intro i hi f
    have e1 : (Int32.ofNat i < (4 : Int32)) = False := by rw [show (4 : Int32) = Int32.ofNat 4 from rfl, nn_lt (by omega) (by omega)]; exact eq_false (by omega)
    have e2 : filF x 0 i f = f := by funext y; unfold filF; rw [if_neg (by omega)]
    rw [st_J7_fill_53178_5]
    simp (disch := omega) only [st_J7_fill_53178_6, st_J7_fill_53178_7, st_J7_fill_53178_20, e1, e2, if_false, Nat.reduceAdd]
  | succ m ih =>
    intro i hi f
    have e1 : (Int32.ofNat i < (4 : Int32)) = True := by rw [show (4 : Int32) = Int32.ofNat 4 from rfl, nn_lt (by omega) (by omega)]; exact eq_true (by omega)
    have e2 : hI (hR g 44 f) 44 i x = hR g 44 (upd f i x) := by rw [hI_R, hR_same, hR_hR]
    have e3 := ih (i + 1) (by omega) (upd f i x)
    rw [filF_suc] at e3
    rw [st_J7_fill_53178_5]
    simp (disch := omega) only [st_J7_fill_53178_6, st_J7_fill_53178_7, st_J7_fill_53178_10, st_J7_fill_53178_11, st_J7_fill_53178_12, st_J7_fill_53178_13, st_J7_fill_53178_14, st_J7_fill_53178_17, e1, e2, e3, if_true, bM_some, hw_44, nn_out, nn_clamp, cond_false, lc_r, lc_i, nn_r1, Nat.reduceAdd]
theorem fill_44 : bc d M_J7_fill_53178 none 0 [some (.ref 44), some (.int x), none, none] [] (hp t g) cn sn = some (.inl none, hp t (hR g 44 (filF x 4 0 (g.1 44))), cn, sn) := by
  have e := fill_44_l (d := d) (t := t) (g := g) (cn := cn) (sn := sn) (x := x) 4 0 (by omega) (g.1 44)
  rw [hR_self, show Int32.ofNat 0 = (0 : Int32) from rfl] at e
  refine Eq.trans ?_ e
  simp only [st_J7_fill_53178_0, st_J7_fill_53178_1, st_J7_fill_53178_2, st_J7_fill_53178_3, st_J7_fill_53178_4, bM_some, hn_44, lc_r, lc_i, lc_n, Nat.reduceAdd]
theorem fill_48_l : ∀ m i : Nat, i + m = 16 → ∀ f : Rw,
    bc d M_J7_fill_53178 none 5 [some (.ref 48), some (.int x), some (.int (Int32.ofNat i)), some (.int 16)] [] (hp t (hR g 48 f)) cn sn = some (.inl none, hp t (hR g 48 (filF x m i f)), cn, sn) := by
  intro m
  induction m with
  | zero =>
    intro i hi f
    have e1 : (Int32.ofNat i < (16 : Int32)) = False := by rw [show (16 : Int32) = Int32.ofNat 16 from rfl, nn_lt (by omega) (by omega)]; exact eq_false (by omega)
    have e2 : filF x 0 i f = f := by funext y; unfold filF; rw [if_neg (by omega)]
    rw [st_J7_fill_53178_5]
    simp (disch := omega) only [st_J7_fill_53178_6, st_J7_fill_53178_7, st_J7_fill_53178_20, e1, e2, if_false, Nat.reduceAdd]
  | succ m ih =>
    intro i hi f
    have e1 : (Int32.ofNat i < (16 : Int32)) = True := by rw [show (16 : Int32) = Int32.ofNat 16 from rfl, nn_lt (by omega) (by omega)]; exact eq_true (by omega)
    have e2 : hI (hR g 48 f) 48 i x = hR g 48 (upd f i x) := by rw [hI_R, hR_same, hR_hR]
    have e3 := ih (i + 1) (by omega) (upd f i x)
    rw [filF_suc] at e3
    rw [st_J7_fill_53178_5]
    simp (disch := omega) only [st_J7_fill_53178_6, st_J7_fill_53178_7, st_J7_fill_53178_10, st_J7_fill_53178_11, st_J7_fill_53178_12, st_J7_fill_53178_13, st_J7_fill_53178_14, st_J7_fill_53178_17, e1, e2, e3, if_true, bM_some, hw_48, nn_out, nn_clamp, cond_false, lc_r, lc_i, nn_r1, Nat.reduceAdd]
theorem fill_48 : bc d M_J7_fill_53178 none 0 [some (.ref 48), some (.int x), none, none] [] (hp t g) cn sn = some (.inl none, hp t (hR g 48 (filF x 16 0 (g.1 48))), cn, sn) := by
  have e := fill_48_l (d := d) (t := t) (g := g) (cn := cn) (sn := sn) (x := x) 16 0 (by omega) (g.1 48)
  rw [hR_self, show Int32.ofNat 0 = (0 : Int32) from rfl] at e
  refine Eq.trans ?_ e
  simp only [st_J7_fill_53178_0, st_J7_fill_53178_1, st_J7_fill_53178_2, st_J7_fill_53178_3, st_J7_fill_53178_4, bM_some, hn_48, lc_r, lc_i, lc_n, Nat.reduceAdd]
end FILL
/-! the states of a search: base g, the reference to the long[] z, the Ear's ints e, its counts u, the choirs F, the trial w, and what the Kitchen keeps -/
def gW (g : hG) (z : Value) (e u : Rw) (F : Nat → Int64) (w : Rw) (s : Int32) (n : Int64) (v k : Rw) : hG := gP (hQ (hR (hR (hV g 37 3 z) 37 e) 40 u) 39 F) 38 w s n v k
section GW
variable {g : hG} {z z' : Value} {e u u' : Rw} {F : Nat → Int64} {w w' : Rw} {s : Int32} {n : Int64} {v k : Rw} {i : Nat} {x : Int32}
theorem hV_1 {g : hG} {c j : Nat} {v : Value} : (hV g c j v).1 = g.1 := rfl
theorem hV_21 {g : hG} {c j : Nat} {v : Value} : (hV g c j v).2.1 = g.2.1 := rfl
theorem gW_e : hI (gW g z e u F w s n v k) 37 i x = gW g z (upd e i x) u F w s n v k := by
  apply hG_ext
  · intro c j
    simp only [gW, gP, hR_at, hI_at, hJ_at, hR_2, hI_2, hJ_1, hJ_22, hQ_1, hV_1, upd_at]
    (repeat' split) <;> first | rfl | (exfalso; omega)
  · intro c j; rfl
  · rfl
theorem gW_u : hR (gW g z e u F w s n v k) 40 u' = gW g z e u' F w s n v k := by
  apply hG_ext
  · intro c j
    simp only [gW, gP, hR_at, hI_at, hJ_at, hR_2, hI_2, hJ_1, hJ_22, hQ_1, hV_1]
    (repeat' split) <;> first | rfl | (exfalso; omega)
  · intro c j; rfl
  · rfl
theorem gW_w : hR (gW g z e u F w s n v k) 38 w' = gW g z e u F w' s n v k := gP_w h38
theorem gW_wi : hI (gW g z e u F w s n v k) 38 i x = gW g z e u F (upd w i x) s n v k := by
  rw [hI_R, gW_w]; rfl
theorem gW_z : hV (gW g z e u F w s n v k) 37 3 z' = gW g z' e u F w s n v k := by
  apply hG_ext
  · intro c j; rfl
  · intro c j; rfl
  · funext c j
    show (bif (Nat.beq c 37 && Nat.beq j 3) then z' else (bif (Nat.beq c 37 && Nat.beq j 3) then z else g.2.2 c j)) = (bif (Nat.beq c 37 && Nat.beq j 3) then z' else g.2.2 c j)
    cases (Nat.beq c 37 && Nat.beq j 3) <;> rfl
theorem gW_eta : gW g (g.2.2 37 3) (g.1 37) (g.1 40) (g.2.1 39) (g.1 38) (g.1 16 14) (g.2.1 16 13) (g.1 28) (g.1 27) = g := by
  have e1 : hV g 37 3 (g.2.2 37 3) = g := by
    apply hG_ext
    · intro c j; rfl
    · intro c j; rfl
    · funext c j
      show (bif (Nat.beq c 37 && Nat.beq j 3) then g.2.2 37 3 else g.2.2 c j) = _
      cases h : (Nat.beq c 37 && Nat.beq j 3) with
      | false => rfl
      | true =>
        rw [Bool.and_eq_true] at h
        rw [Nat.eq_of_beq_eq_true h.1, Nat.eq_of_beq_eq_true h.2]; rfl
  have e2 : hQ g 39 (g.2.1 39) = g := by
    apply hG_ext
    · intro c j; rfl
    · intro c j
      rw [hQ_at]
      split
      · next h => rw [h]
      · rfl
    · rfl
  unfold gW
  rw [e1, hR_self, hR_self, e2]
  exact gP_eta
theorem gW_29 : (gW g z e u F w s n v k).1 29 = g.1 29 := rfl
theorem gW_38 : (gW g z e u F w s n v k).1 38 = w := rfl
theorem gW_37 : (gW g z e u F w s n v k).1 37 = e := rfl
theorem gW_40 : (gW g z e u F w s n v k).1 40 = u := rfl
theorem gW_39 : (gW g z e u F w s n v k).2.1 39 = F := rfl
theorem gW_3 : (gW g z e u F w s n v k).2.2 37 3 = z := rfl
theorem gW_16 : (gW g z e u F w s n v k).1 16 10 = g.1 16 10 := rfl
end GW
def fiE : List Nat → Int32
  | [] => -1
  | c :: _ => Int32.ofNat c
/-- the Ear's ints behind these fits -/
def eR (e : Rw) (E : List Nat) : Rw := upd (upd e 5 (Int32.ofNat E.length)) 6 (fiE E)
section SEARCH
variable {d : Nat} {t : List px_E} {g : hG} {j c q N S D L T cn sn : Nat} {z : Value} {e u : Rw} {F : Nat → Int64} {w v k : Rw} {s : Int32} {n : Int64} {E : List Nat}
theorem nn_g9 {a : Nat} (ha : a < 2147483648) : ((9 : Int32) < Int32.ofNat a) = (9 < a) := nn_lt (a := 9) (by decide) ha
theorem Z54_upd {w : Rw} {i : Nat} {x : Int32} (h : Z54 w) (hi : i < 54) : Z54 (upd w i x) := fun y hy => by rw [upd_oth (by omega)]; exact h y hy
set_option maxHeartbeats 4000000 in
theorem se_was (hj : j < 8) (hc : c ≤ 9) (hz : Z54 (g.1 29)) (hw : Z54 w) (h : Int32.ofNat c = g.1 29 (24 + j)) :
    bc (d + 5) M_X1_search none 46 [some (.ref 37), some (.ref 16), some (.ref 29), some (.ref 34), some (.int (Int32.ofNat j)), some (.int (Int32.ofNat c))] [] (hp t (gW g z e u F w s n v k)) cn sn =
    bc (d + 5) M_X1_search none 46 [some (.ref 37), some (.ref 16), some (.ref 29), some (.ref 34), some (.int (Int32.ofNat j)), some (.int (Int32.ofNat (c + 1)))] [] (hp t (gW g z e u F (upd (g.1 29) (24 + j) (Int32.ofNat c)) s n v k)) cn sn := by
  rw [st_X1_search_46]
  simp (disch := omega) only [st_X1_search_48, st_X1_search_50, st_X1_search_53, st_X1_search_54, st_X1_search_55, st_X1_search_56, st_X1_search_59, st_X1_search_60, st_X1_search_62, st_X1_search_65, st_X1_search_66, st_X1_search_69, st_X1_search_71, st_X1_search_73, st_X1_search_74, st_X1_search_76, st_X1_search_77, st_X1_search_79, st_X1_search_80, st_X1_search_82, st_X1_search_84, st_X1_search_85, nn_g9, show ¬ 9 < c by omega, if_false, bM_some, bP_some, hg_37_0, hcp_29_38, show px_cpok 0 0 54 54 54 = true by decide, cond_true, gW_29, gW_38, cp54 hz hw, gW_w, gW_wi, nn_24, nn_out, nn_clamp, hw_38, ha_29, cond_false, Nat.reduceAdd]
  rw [st_X1_search_86, if_pos h]
  simp only [st_X1_search_138, st_X1_search_141, lc_r, lc_i, nn_r1, Nat.reduceAdd]
/-- a chalk that it hasn't: what is heard decides -/
theorem se_fit (hK : KN (kC g) N S D L) (hO : KO (kC g) N S D L) (hq8 : q ≤ 8) (hH : g.1 34 2 = Int32.ofNat q) (hb : ∀ i, i < q → (1 ≤ (g.1 35 i).toInt ∧ (g.1 35 i).toInt ≤ 60) ∧ (-1 ≤ (g.1 36 i).toInt ∧ (g.1 36 i).toInt ≤ 60)) (hj : j < 8) (hc : c ≤ 9) (hz : Z54 (g.1 29)) (hw : Z54 w) (h : ¬ Int32.ofNat c = g.1 29 (24 + j)) : ∃ (w' : Rw) (s' : Int32) (n' : Int64) (v' k' : Rw), Z54 w' ∧
    bc (d + 5) M_X1_search none 46 [some (.ref 37), some (.ref 16), some (.ref 29), some (.ref 34), some (.int (Int32.ofNat j)), some (.int (Int32.ofNat c))] [] (hp t (gW g z e u F w s n v k)) cn sn =
    bc (d + 5) M_X1_search none 95 [some (.ref 37), some (.ref 16), some (.ref 29), some (.ref 34), some (.int (Int32.ofNat j)), some (.int (Int32.ofNat c))] [.int (bif okF (kC g) N D L q (g.1 29) (g.1 35) (g.1 36) j c then 1 else 0)] (hp t (gW g z e u (chL (minR (kC g) N D L) N 60 1 (upd (g.1 29) (24 + j) (Int32.ofNat c)) F) w' s' n' v' k')) cn sn := by
  obtain ⟨w', s', n', v', k', hz', e1⟩ := c_fits (d := d) (t := t) (g := hR (hR (hV g 37 3 z) 37 e) 40 u) (F := F) (w := upd (g.1 29) (24 + j) (Int32.ofNat c)) (s := s) (n := n) (v := v) (k := k) (cn := 0) (sn := 0) hK hO hq8 hH hb (Z54_upd hz (by omega))
  have e2 : bc (d + 4) M_X1_fits none 0 [some (.ref 37), some (.ref 16), some (.ref 34), none, none, none, none, none] [] (hp t (gW g z e u F (upd (g.1 29) (24 + j) (Int32.ofNat c)) s n v k)) 0 0 = some (.inl (some (.int (bif okF (kC g) N D L q (g.1 29) (g.1 35) (g.1 36) j c then 1 else 0))), hp t (gW g z e u (chL (minR (kC g) N D L) N 60 1 (upd (g.1 29) (24 + j) (Int32.ofNat c)) F) w' s' n' v' k'), 0, 0) := e1
  refine ⟨w', s', n', v', k', hz', ?_⟩
  rw [st_X1_search_46]
  simp (disch := omega) only [st_X1_search_48, st_X1_search_50, st_X1_search_53, st_X1_search_54, st_X1_search_55, st_X1_search_56, st_X1_search_59, st_X1_search_60, st_X1_search_62, st_X1_search_65, st_X1_search_66, st_X1_search_69, st_X1_search_71, st_X1_search_73, st_X1_search_74, st_X1_search_76, st_X1_search_77, st_X1_search_79, st_X1_search_80, st_X1_search_82, st_X1_search_84, st_X1_search_85, nn_g9, show ¬ 9 < c by omega, if_false, bM_some, bP_some, hg_37_0, hcp_29_38, show px_cpok 0 0 54 54 54 = true by decide, cond_true, gW_29, gW_38, cp54 hz hw, gW_w, gW_wi, nn_24, nn_out, nn_clamp, hw_38, ha_29, cond_false, Nat.reduceAdd]
  rw [st_X1_search_86, if_neg h]
  simp only [st_X1_search_89, st_X1_search_90, st_X1_search_91, st_X1_search_92 (p := 37) hq_37 ps_, e2, bC_inl, Option.toList, List.cons_append, List.nil_append, Nat.add_zero, Nat.reduceAdd]
theorem eR_suc (hl : E.length < 1000) : upd (upd (eR e E) 6 (if Int32.ofNat E.length = 0 then Int32.ofNat (10 * j + c) else fiE E)) 5 (Int32.ofNat (E.length + 1)) = eR e (E ++ [10 * j + c]) := by
  have e1 : (if Int32.ofNat E.length = 0 then Int32.ofNat (10 * j + c) else fiE E) = fiE (E ++ [10 * j + c]) := by
    cases E with
    | nil => rfl
    | cons a E =>
      rw [if_neg]
      · rfl
      · rw [nn_e0 (by omega), List.length_cons]; omega
  rw [e1]
  funext y
  unfold eR
  rw [List.length_append, List.length_singleton]
  simp only [upd_at]
  (repeat' split) <;> first | rfl | (exfalso; omega)
theorem eR_5 : eR e E 5 = Int32.ofNat E.length := by unfold eR; rw [upd_oth (by omega), upd_same]
theorem eR_6 : eR e E 6 = fiE E := by unfold eR; rw [upd_same]
set_option maxHeartbeats 4000000 in
theorem se_yes (hl : E.length < 1000) (hj : j < 8) (hc : c ≤ 9) :
    bc (d + 5) M_X1_search none 95 [some (.ref 37), some (.ref 16), some (.ref 29), some (.ref 34), some (.int (Int32.ofNat j)), some (.int (Int32.ofNat c))] [.int 1] (hp t (gW g z (eR e E) u F w s n v k)) cn sn =
    bC (bc (d + 4) M_X1_collect none 0 [some (.ref 37), none, none, none, none] [] (hp t (gW g z (eR e (E ++ [10 * j + c])) u F w s n v k)) 0 0) (fun v' h' c' k' => bc (d + 5) M_X1_search none 138 [some (.ref 37), some (.ref 16), some (.ref 29), some (.ref 34), some (.int (Int32.ofNat j)), some (.int (Int32.ofNat c))] (v'.toList ++ []) h' (cn + c') (sn + k')) (fun z' h' c' k' => some (.inr z', h', cn + c', sn + k')) := by
  have key := eR_suc (e := e) (j := j) (c := c) hl
  by_cases h : E.length = 0
  · rw [if_pos (by rw [h]; rfl)] at key
    simp (disch := omega) only [st_X1_search_95, st_X1_search_98, st_X1_search_99, st_X1_search_100, st_X1_search_103, st_X1_search_106, st_X1_search_108, st_X1_search_110, st_X1_search_111, st_X1_search_113, st_X1_search_114, st_X1_search_121, st_X1_search_124, st_X1_search_126, st_X1_search_129, st_X1_search_130, st_X1_search_131, st_X1_search_134, st_X1_search_125r, st_X1_search_135 (p := 37) hq_37 ps_, nn_one0, if_false, bM_some, hg_37_5, hs_37_5, hs_37_6, gW_37, gW_e, eR_5, nn_e0, h, if_true, nn_m10, nn_add, nn_r1, show ∀ (f : Rw) (x : Int32), upd f 6 x 5 = f 5 from fun f x => upd_oth (by decide), Nat.reduceAdd]
    rw [h] at key
    rw [← key]
  · rw [if_neg (by rw [nn_e0 (by omega)]; exact h)] at key
    simp (disch := omega) only [st_X1_search_95, st_X1_search_98, st_X1_search_99, st_X1_search_100, st_X1_search_103, st_X1_search_117, st_X1_search_118, st_X1_search_121, st_X1_search_124, st_X1_search_126, st_X1_search_129, st_X1_search_130, st_X1_search_131, st_X1_search_134, st_X1_search_125r, st_X1_search_135 (p := 37) hq_37 ps_, nn_one0, if_false, bM_some, hg_37_5, hg_37_6, hs_37_5, hs_37_6, gW_37, gW_e, eR_5, eR_6, nn_e0, h, nn_r1, show ∀ (f : Rw) (x : Int32), upd f 6 x 5 = f 5 from fun f x => upd_oth (by decide), Nat.reduceAdd]
    rw [← key]
end SEARCH
