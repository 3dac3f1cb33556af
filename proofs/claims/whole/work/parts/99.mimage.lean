/-! ===== image: the first one of the class; image and restore of the reference ===== -/
def cpN (s F : Rw) (i : Nat) : Rw := fun x => if x < i then s x else F x
theorem cpN_0 {s F : Rw} : cpN s F 0 = F := by funext x; unfold cpN; rw [if_neg (by omega)]
theorem cpN_s {s F : Rw} {i : Nat} : upd (cpN s F i) i (s i) = cpN s F (i + 1) := by
  funext x
  rw [upd_at]
  unfold cpN
  (repeat' split) <;> first | rfl | (exfalso; omega) | (subst_vars; rfl)
section IMG3
variable {d pc : Nat} {t : List px_E} {g : hG} {f m n x : Int32} {u : px_E} {cn sn j : Nat} {w a k F : Rw}
theorem hs_0_10 {r : List Value} {p : Nat} : px_put 9 10 (kt_ft 9 10) pc (.ref p :: .ref 0 :: r) (hp t g) = some (pc + 3, r, hp t (hV g 0 10 (.ref p))) := rfl
set_option maxHeartbeats 4000000 in
theorem c_imageN89 (hk : g.2.2 0 10 = .null) : bc (d + 5) M_X9_image none 0 [some (.ref 0)] [] (hp [] g) cn sn = some (.inl none, hp (imgL 89 (va_cpy (g.1 29) (fun _ => 0) 0 0 54) (va_cpy (g.1 33) (fun _ => 0) 0 0 2160) (g.1 32 1) (g.1 32 2) (va_cpy (g.1 35) (fun _ => 0) 0 0 8) (va_cpy (g.1 36) (fun _ => 0) 0 0 8) (g.1 34 2) (va_cpy (g.1 31) (fun _ => 0) 0 0 3) []) (hI (hV g 0 10 (.ref 89)) 0 11 1), cn + 8, sn + 2243) := by
  have e1 := c_inI89 (d := d + 1) (g := g) (cn := 0) (sn := 0)
  have e2 := c_keep89 (d := d + 2) (g := hV g 0 10 (.ref 89)) (R := (fun _ => 0)) (A := (fun _ => 0)) (f := 0) (m := 0) (M := (fun _ => 0)) (H := (fun _ => 0)) (n := 0) (S := (fun _ => 0)) (B := []) (cn := 0) (sn := 0)
  have hk2 : (hV g 0 10 (.ref 89)).2.2 0 10 = .ref 89 := rfl
  simp only [st_X9_image_0, st_X9_image_1, st_X9_image_4, st_X9_image_4r, st_X9_image_7, st_X9_image_11, st_X9_image_11r, st_X9_image_15, st_X9_image_18, st_X9_image_19, st_X9_image_22, st_X9_image_23, st_X9_image_26, st_X9_image_27, st_X9_image_30, st_X9_image_31, st_X9_image_34, st_X9_image_35, st_X9_image_41, st_X9_image_42, st_X9_image_43, st_X9_image_46, st_X9_image_8, st_X9_image_12 ps_rr, st_X9_image_38 (p := 89) iq89 ps_, hp_len, hp_app, dfl_3, List.length_cons, List.length_nil, Nat.zero_add, bC_inl, Option.toList, List.cons_append, List.nil_append, Nat.add_zero, Nat.reduceAdd, bM_some, bP_some, hg_0_10, hs_0_10, hg_0_2, hg_0_4, hg_0_5, hg_0_6, hs_0_11_1, hk, hk2, e1, e2, Nat.add_assoc]
  rfl
set_option maxHeartbeats 4000000 in
theorem c_imageN90 (hk : g.2.2 0 10 = .null) : bc (d + 5) M_X9_image none 0 [some (.ref 0)] [] (hp [u] g) cn sn = some (.inl none, hp (u :: imgL 90 (va_cpy (g.1 29) (fun _ => 0) 0 0 54) (va_cpy (g.1 33) (fun _ => 0) 0 0 2160) (g.1 32 1) (g.1 32 2) (va_cpy (g.1 35) (fun _ => 0) 0 0 8) (va_cpy (g.1 36) (fun _ => 0) 0 0 8) (g.1 34 2) (va_cpy (g.1 31) (fun _ => 0) 0 0 3) []) (hI (hV g 0 10 (.ref 90)) 0 11 1), cn + 8, sn + 2243) := by
  have e1 := c_inI90 (d := d + 1) (g := g) (cn := 0) (sn := 0) (u := u)
  have e2 := c_keep90 (d := d + 2) (g := hV g 0 10 (.ref 90)) (R := (fun _ => 0)) (A := (fun _ => 0)) (f := 0) (m := 0) (M := (fun _ => 0)) (H := (fun _ => 0)) (n := 0) (S := (fun _ => 0)) (B := []) (cn := 0) (sn := 0) (u := u)
  have hk2 : (hV g 0 10 (.ref 90)).2.2 0 10 = .ref 90 := rfl
  simp only [st_X9_image_0, st_X9_image_1, st_X9_image_4, st_X9_image_4r, st_X9_image_7, st_X9_image_11, st_X9_image_11r, st_X9_image_15, st_X9_image_18, st_X9_image_19, st_X9_image_22, st_X9_image_23, st_X9_image_26, st_X9_image_27, st_X9_image_30, st_X9_image_31, st_X9_image_34, st_X9_image_35, st_X9_image_41, st_X9_image_42, st_X9_image_43, st_X9_image_46, st_X9_image_8, st_X9_image_12 ps_rr, st_X9_image_38 (p := 90) iq90 ps_, hp_len, hp_app, dfl_3, List.length_cons, List.length_nil, Nat.zero_add, bC_inl, Option.toList, List.cons_append, List.nil_append, Nat.add_zero, Nat.reduceAdd, bM_some, bP_some, hg_0_10, hs_0_10, hg_0_2, hg_0_4, hg_0_5, hg_0_6, hs_0_11_1, hk, hk2, e1, e2, Nat.add_assoc]
  rfl
set_option maxHeartbeats 4000000 in
theorem m_be_l84 : ∀ l j : Nat, j + l = 2160 →
    bc d M_X10_be none 2 [some (.ref 84), some (.ref 71), some (.int (Int32.ofNat j))] [] (hp t (gM (hR g 84 (cpN (g.1 71) F j)) w a k)) cn sn = some (.inl none, hp t (gM (hR g 84 (cpN (g.1 71) F 2160)) w a k), cn, sn) := by
  intro l
  induction l with
  | zero =>
    intro j hj
    obtain rfl : j = 2160 := by omega
    rw [st_X10_be_2]
    simp (disch := omega) only [st_X10_be_3, st_X10_be_4, st_X10_be_5, st_X10_be_20, bM_some, hn_84, Nat.reduceAdd, nn_lt (b := 2160), show ((Int32.ofNat 2160) < 2160) = False by decide, if_false]
  | succ l ih =>
    intro j hj
    rw [st_X10_be_2]
    have hlt : (Int32.ofNat j < 2160) = True := by rw [show (2160 : Int32) = Int32.ofNat 2160 from rfl, nn_lt (by omega) (by omega)]; exact eq_true (by omega)
    have hsrc : (hR g 84 (cpN (g.1 71) F j)).1 71 = g.1 71 := rfl
    have hst : ∀ y : Int32, hI (gM (hR g 84 (cpN (g.1 71) F j)) w a k) 84 j y = gM (hR g 84 (upd (cpN (g.1 71) F j) j y)) w a k := by
      intro y; rw [gM_hI (by omega), hI_R, hR_same, hR_hR]
    simp (disch := omega) only [st_X10_be_3, st_X10_be_4, st_X10_be_5, st_X10_be_8, st_X10_be_9, st_X10_be_10, st_X10_be_11, st_X10_be_12, st_X10_be_13, st_X10_be_14, st_X10_be_17, bM_some, hn_84, ha_71, hw_84, cond_false, Nat.reduceAdd, hlt, if_true, nn_out, nn_clamp, gM_o, hsrc, hst, cpN_s, lc_r, nn_r1]
    exact ih (j + 1) (by omega)
theorem m_be84 : bc d M_X10_be none 0 [some (.ref 84), some (.ref 71), none] [] (hp t (gM g w a k)) cn sn = some (.inl none, hp t (gM (hR g 84 (cpN (g.1 71) (g.1 84) 2160)) w a k), cn, sn) := by
  have e := m_be_l84 (d := d) (t := t) (g := g) (F := g.1 84) (w := w) (a := a) (k := k) (cn := cn) (sn := sn) 2160 0 (by omega)
  rw [cpN_0, hR_self] at e
  rw [← e]
  simp only [st_X10_be_0, st_X10_be_1, lc_r, Nat.reduceAdd]
  rfl
set_option maxHeartbeats 4000000 in
theorem m_be_l85 : ∀ l j : Nat, j + l = 8 →
    bc d M_X10_be none 2 [some (.ref 85), some (.ref 78), some (.int (Int32.ofNat j))] [] (hp t (gM (hR g 85 (cpN (g.1 78) F j)) w a k)) cn sn = some (.inl none, hp t (gM (hR g 85 (cpN (g.1 78) F 8)) w a k), cn, sn) := by
  intro l
  induction l with
  | zero =>
    intro j hj
    obtain rfl : j = 8 := by omega
    rw [st_X10_be_2]
    simp (disch := omega) only [st_X10_be_3, st_X10_be_4, st_X10_be_5, st_X10_be_20, bM_some, hn_85, Nat.reduceAdd, nn_lt (b := 8), show ((Int32.ofNat 8) < 8) = False by decide, if_false]
  | succ l ih =>
    intro j hj
    rw [st_X10_be_2]
    have hlt : (Int32.ofNat j < 8) = True := by rw [show (8 : Int32) = Int32.ofNat 8 from rfl, nn_lt (by omega) (by omega)]; exact eq_true (by omega)
    have hsrc : (hR g 85 (cpN (g.1 78) F j)).1 78 = g.1 78 := rfl
    have hst : ∀ y : Int32, hI (gM (hR g 85 (cpN (g.1 78) F j)) w a k) 85 j y = gM (hR g 85 (upd (cpN (g.1 78) F j) j y)) w a k := by
      intro y; rw [gM_hI (by omega), hI_R, hR_same, hR_hR]
    simp (disch := omega) only [st_X10_be_3, st_X10_be_4, st_X10_be_5, st_X10_be_8, st_X10_be_9, st_X10_be_10, st_X10_be_11, st_X10_be_12, st_X10_be_13, st_X10_be_14, st_X10_be_17, bM_some, hn_85, ha_78, hw_85, cond_false, Nat.reduceAdd, hlt, if_true, nn_out, nn_clamp, gM_o, hsrc, hst, cpN_s, lc_r, nn_r1]
    exact ih (j + 1) (by omega)
theorem m_be85 : bc d M_X10_be none 0 [some (.ref 85), some (.ref 78), none] [] (hp t (gM g w a k)) cn sn = some (.inl none, hp t (gM (hR g 85 (cpN (g.1 78) (g.1 85) 8)) w a k), cn, sn) := by
  have e := m_be_l85 (d := d) (t := t) (g := g) (F := g.1 85) (w := w) (a := a) (k := k) (cn := cn) (sn := sn) 8 0 (by omega)
  rw [cpN_0, hR_self] at e
  rw [← e]
  simp only [st_X10_be_0, st_X10_be_1, lc_r, Nat.reduceAdd]
  rfl
set_option maxHeartbeats 4000000 in
theorem m_be_l86 : ∀ l j : Nat, j + l = 8 →
    bc d M_X10_be none 2 [some (.ref 86), some (.ref 79), some (.int (Int32.ofNat j))] [] (hp t (gM (hR g 86 (cpN (g.1 79) F j)) w a k)) cn sn = some (.inl none, hp t (gM (hR g 86 (cpN (g.1 79) F 8)) w a k), cn, sn) := by
  intro l
  induction l with
  | zero =>
    intro j hj
    obtain rfl : j = 8 := by omega
    rw [st_X10_be_2]
    simp (disch := omega) only [st_X10_be_3, st_X10_be_4, st_X10_be_5, st_X10_be_20, bM_some, hn_86, Nat.reduceAdd, nn_lt (b := 8), show ((Int32.ofNat 8) < 8) = False by decide, if_false]
  | succ l ih =>
    intro j hj
    rw [st_X10_be_2]
    have hlt : (Int32.ofNat j < 8) = True := by rw [show (8 : Int32) = Int32.ofNat 8 from rfl, nn_lt (by omega) (by omega)]; exact eq_true (by omega)
    have hsrc : (hR g 86 (cpN (g.1 79) F j)).1 79 = g.1 79 := rfl
    have hst : ∀ y : Int32, hI (gM (hR g 86 (cpN (g.1 79) F j)) w a k) 86 j y = gM (hR g 86 (upd (cpN (g.1 79) F j) j y)) w a k := by
      intro y; rw [gM_hI (by omega), hI_R, hR_same, hR_hR]
    simp (disch := omega) only [st_X10_be_3, st_X10_be_4, st_X10_be_5, st_X10_be_8, st_X10_be_9, st_X10_be_10, st_X10_be_11, st_X10_be_12, st_X10_be_13, st_X10_be_14, st_X10_be_17, bM_some, hn_86, ha_79, hw_86, cond_false, Nat.reduceAdd, hlt, if_true, nn_out, nn_clamp, gM_o, hsrc, hst, cpN_s, lc_r, nn_r1]
    exact ih (j + 1) (by omega)
theorem m_be86 : bc d M_X10_be none 0 [some (.ref 86), some (.ref 79), none] [] (hp t (gM g w a k)) cn sn = some (.inl none, hp t (gM (hR g 86 (cpN (g.1 79) (g.1 86) 8)) w a k), cn, sn) := by
  have e := m_be_l86 (d := d) (t := t) (g := g) (F := g.1 86) (w := w) (a := a) (k := k) (cn := cn) (sn := sn) 8 0 (by omega)
  rw [cpN_0, hR_self] at e
  rw [← e]
  simp only [st_X10_be_0, st_X10_be_1, lc_r, Nat.reduceAdd]
  rfl
set_option maxHeartbeats 4000000 in
theorem m_be_l87 : ∀ l j : Nat, j + l = 3 →
    bc d M_X10_be none 2 [some (.ref 87), some (.ref 62), some (.int (Int32.ofNat j))] [] (hp t (gM (hR g 87 (cpN (g.1 62) F j)) w a k)) cn sn = some (.inl none, hp t (gM (hR g 87 (cpN (g.1 62) F 3)) w a k), cn, sn) := by
  intro l
  induction l with
  | zero =>
    intro j hj
    obtain rfl : j = 3 := by omega
    rw [st_X10_be_2]
    simp (disch := omega) only [st_X10_be_3, st_X10_be_4, st_X10_be_5, st_X10_be_20, bM_some, hn_87, Nat.reduceAdd, nn_lt (b := 3), show ((Int32.ofNat 3) < 3) = False by decide, if_false]
  | succ l ih =>
    intro j hj
    rw [st_X10_be_2]
    have hlt : (Int32.ofNat j < 3) = True := by rw [show (3 : Int32) = Int32.ofNat 3 from rfl, nn_lt (by omega) (by omega)]; exact eq_true (by omega)
    have hsrc : (hR g 87 (cpN (g.1 62) F j)).1 62 = g.1 62 := rfl
    have hst : ∀ y : Int32, hI (gM (hR g 87 (cpN (g.1 62) F j)) w a k) 87 j y = gM (hR g 87 (upd (cpN (g.1 62) F j) j y)) w a k := by
      intro y; rw [gM_hI (by omega), hI_R, hR_same, hR_hR]
    simp (disch := omega) only [st_X10_be_3, st_X10_be_4, st_X10_be_5, st_X10_be_8, st_X10_be_9, st_X10_be_10, st_X10_be_11, st_X10_be_12, st_X10_be_13, st_X10_be_14, st_X10_be_17, bM_some, hn_87, ha_62, hw_87, cond_false, Nat.reduceAdd, hlt, if_true, nn_out, nn_clamp, gM_o, hsrc, hst, cpN_s, lc_r, nn_r1]
    exact ih (j + 1) (by omega)
theorem m_be87 : bc d M_X10_be none 0 [some (.ref 87), some (.ref 62), none] [] (hp t (gM g w a k)) cn sn = some (.inl none, hp t (gM (hR g 87 (cpN (g.1 62) (g.1 87) 3)) w a k), cn, sn) := by
  have e := m_be_l87 (d := d) (t := t) (g := g) (F := g.1 87) (w := w) (a := a) (k := k) (cn := cn) (sn := sn) 3 0 (by omega)
  rw [cpN_0, hR_self] at e
  rw [← e]
  simp only [st_X10_be_0, st_X10_be_1, lc_r, Nat.reduceAdd]
  rfl
set_option maxHeartbeats 4000000 in
theorem m_be_l71 : ∀ l j : Nat, j + l = 2160 →
    bc d M_X10_be none 2 [some (.ref 71), some (.ref 84), some (.int (Int32.ofNat j))] [] (hp t (gM (hR g 71 (cpN (g.1 84) F j)) w a k)) cn sn = some (.inl none, hp t (gM (hR g 71 (cpN (g.1 84) F 2160)) w a k), cn, sn) := by
  intro l
  induction l with
  | zero =>
    intro j hj
    obtain rfl : j = 2160 := by omega
    rw [st_X10_be_2]
    simp (disch := omega) only [st_X10_be_3, st_X10_be_4, st_X10_be_5, st_X10_be_20, bM_some, hn_71, Nat.reduceAdd, nn_lt (b := 2160), show ((Int32.ofNat 2160) < 2160) = False by decide, if_false]
  | succ l ih =>
    intro j hj
    rw [st_X10_be_2]
    have hlt : (Int32.ofNat j < 2160) = True := by rw [show (2160 : Int32) = Int32.ofNat 2160 from rfl, nn_lt (by omega) (by omega)]; exact eq_true (by omega)
    have hsrc : (hR g 71 (cpN (g.1 84) F j)).1 84 = g.1 84 := rfl
    have hst : ∀ y : Int32, hI (gM (hR g 71 (cpN (g.1 84) F j)) w a k) 71 j y = gM (hR g 71 (upd (cpN (g.1 84) F j) j y)) w a k := by
      intro y; rw [gM_hI (by omega), hI_R, hR_same, hR_hR]
    simp (disch := omega) only [st_X10_be_3, st_X10_be_4, st_X10_be_5, st_X10_be_8, st_X10_be_9, st_X10_be_10, st_X10_be_11, st_X10_be_12, st_X10_be_13, st_X10_be_14, st_X10_be_17, bM_some, hn_71, ha_84, hw_71, cond_false, Nat.reduceAdd, hlt, if_true, nn_out, nn_clamp, gM_o, hsrc, hst, cpN_s, lc_r, nn_r1]
    exact ih (j + 1) (by omega)
theorem m_be71 : bc d M_X10_be none 0 [some (.ref 71), some (.ref 84), none] [] (hp t (gM g w a k)) cn sn = some (.inl none, hp t (gM (hR g 71 (cpN (g.1 84) (g.1 71) 2160)) w a k), cn, sn) := by
  have e := m_be_l71 (d := d) (t := t) (g := g) (F := g.1 71) (w := w) (a := a) (k := k) (cn := cn) (sn := sn) 2160 0 (by omega)
  rw [cpN_0, hR_self] at e
  rw [← e]
  simp only [st_X10_be_0, st_X10_be_1, lc_r, Nat.reduceAdd]
  rfl
set_option maxHeartbeats 4000000 in
theorem m_be_l78 : ∀ l j : Nat, j + l = 8 →
    bc d M_X10_be none 2 [some (.ref 78), some (.ref 85), some (.int (Int32.ofNat j))] [] (hp t (gM (hR g 78 (cpN (g.1 85) F j)) w a k)) cn sn = some (.inl none, hp t (gM (hR g 78 (cpN (g.1 85) F 8)) w a k), cn, sn) := by
  intro l
  induction l with
  | zero =>
    intro j hj
    obtain rfl : j = 8 := by omega
    rw [st_X10_be_2]
    simp (disch := omega) only [st_X10_be_3, st_X10_be_4, st_X10_be_5, st_X10_be_20, bM_some, hn_78, Nat.reduceAdd, nn_lt (b := 8), show ((Int32.ofNat 8) < 8) = False by decide, if_false]
  | succ l ih =>
    intro j hj
    rw [st_X10_be_2]
    have hlt : (Int32.ofNat j < 8) = True := by rw [show (8 : Int32) = Int32.ofNat 8 from rfl, nn_lt (by omega) (by omega)]; exact eq_true (by omega)
    have hsrc : (hR g 78 (cpN (g.1 85) F j)).1 85 = g.1 85 := rfl
    have hst : ∀ y : Int32, hI (gM (hR g 78 (cpN (g.1 85) F j)) w a k) 78 j y = gM (hR g 78 (upd (cpN (g.1 85) F j) j y)) w a k := by
      intro y; rw [gM_hI (by omega), hI_R, hR_same, hR_hR]
    simp (disch := omega) only [st_X10_be_3, st_X10_be_4, st_X10_be_5, st_X10_be_8, st_X10_be_9, st_X10_be_10, st_X10_be_11, st_X10_be_12, st_X10_be_13, st_X10_be_14, st_X10_be_17, bM_some, hn_78, ha_85, hw_78, cond_false, Nat.reduceAdd, hlt, if_true, nn_out, nn_clamp, gM_o, hsrc, hst, cpN_s, lc_r, nn_r1]
    exact ih (j + 1) (by omega)
theorem m_be78 : bc d M_X10_be none 0 [some (.ref 78), some (.ref 85), none] [] (hp t (gM g w a k)) cn sn = some (.inl none, hp t (gM (hR g 78 (cpN (g.1 85) (g.1 78) 8)) w a k), cn, sn) := by
  have e := m_be_l78 (d := d) (t := t) (g := g) (F := g.1 78) (w := w) (a := a) (k := k) (cn := cn) (sn := sn) 8 0 (by omega)
  rw [cpN_0, hR_self] at e
  rw [← e]
  simp only [st_X10_be_0, st_X10_be_1, lc_r, Nat.reduceAdd]
  rfl
set_option maxHeartbeats 4000000 in
theorem m_be_l79 : ∀ l j : Nat, j + l = 8 →
    bc d M_X10_be none 2 [some (.ref 79), some (.ref 86), some (.int (Int32.ofNat j))] [] (hp t (gM (hR g 79 (cpN (g.1 86) F j)) w a k)) cn sn = some (.inl none, hp t (gM (hR g 79 (cpN (g.1 86) F 8)) w a k), cn, sn) := by
  intro l
  induction l with
  | zero =>
    intro j hj
    obtain rfl : j = 8 := by omega
    rw [st_X10_be_2]
    simp (disch := omega) only [st_X10_be_3, st_X10_be_4, st_X10_be_5, st_X10_be_20, bM_some, hn_79, Nat.reduceAdd, nn_lt (b := 8), show ((Int32.ofNat 8) < 8) = False by decide, if_false]
  | succ l ih =>
    intro j hj
    rw [st_X10_be_2]
    have hlt : (Int32.ofNat j < 8) = True := by rw [show (8 : Int32) = Int32.ofNat 8 from rfl, nn_lt (by omega) (by omega)]; exact eq_true (by omega)
    have hsrc : (hR g 79 (cpN (g.1 86) F j)).1 86 = g.1 86 := rfl
    have hst : ∀ y : Int32, hI (gM (hR g 79 (cpN (g.1 86) F j)) w a k) 79 j y = gM (hR g 79 (upd (cpN (g.1 86) F j) j y)) w a k := by
      intro y; rw [gM_hI (by omega), hI_R, hR_same, hR_hR]
    simp (disch := omega) only [st_X10_be_3, st_X10_be_4, st_X10_be_5, st_X10_be_8, st_X10_be_9, st_X10_be_10, st_X10_be_11, st_X10_be_12, st_X10_be_13, st_X10_be_14, st_X10_be_17, bM_some, hn_79, ha_86, hw_79, cond_false, Nat.reduceAdd, hlt, if_true, nn_out, nn_clamp, gM_o, hsrc, hst, cpN_s, lc_r, nn_r1]
    exact ih (j + 1) (by omega)
theorem m_be79 : bc d M_X10_be none 0 [some (.ref 79), some (.ref 86), none] [] (hp t (gM g w a k)) cn sn = some (.inl none, hp t (gM (hR g 79 (cpN (g.1 86) (g.1 79) 8)) w a k), cn, sn) := by
  have e := m_be_l79 (d := d) (t := t) (g := g) (F := g.1 79) (w := w) (a := a) (k := k) (cn := cn) (sn := sn) 8 0 (by omega)
  rw [cpN_0, hR_self] at e
  rw [← e]
  simp only [st_X10_be_0, st_X10_be_1, lc_r, Nat.reduceAdd]
  rfl
set_option maxHeartbeats 4000000 in
theorem m_be_l62 : ∀ l j : Nat, j + l = 3 →
    bc d M_X10_be none 2 [some (.ref 62), some (.ref 87), some (.int (Int32.ofNat j))] [] (hp t (gM (hR g 62 (cpN (g.1 87) F j)) w a k)) cn sn = some (.inl none, hp t (gM (hR g 62 (cpN (g.1 87) F 3)) w a k), cn, sn) := by
  intro l
  induction l with
  | zero =>
    intro j hj
    obtain rfl : j = 3 := by omega
    rw [st_X10_be_2]
    simp (disch := omega) only [st_X10_be_3, st_X10_be_4, st_X10_be_5, st_X10_be_20, bM_some, hn_62, Nat.reduceAdd, nn_lt (b := 3), show ((Int32.ofNat 3) < 3) = False by decide, if_false]
  | succ l ih =>
    intro j hj
    rw [st_X10_be_2]
    have hlt : (Int32.ofNat j < 3) = True := by rw [show (3 : Int32) = Int32.ofNat 3 from rfl, nn_lt (by omega) (by omega)]; exact eq_true (by omega)
    have hsrc : (hR g 62 (cpN (g.1 87) F j)).1 87 = g.1 87 := rfl
    have hst : ∀ y : Int32, hI (gM (hR g 62 (cpN (g.1 87) F j)) w a k) 62 j y = gM (hR g 62 (upd (cpN (g.1 87) F j) j y)) w a k := by
      intro y; rw [gM_hI (by omega), hI_R, hR_same, hR_hR]
    simp (disch := omega) only [st_X10_be_3, st_X10_be_4, st_X10_be_5, st_X10_be_8, st_X10_be_9, st_X10_be_10, st_X10_be_11, st_X10_be_12, st_X10_be_13, st_X10_be_14, st_X10_be_17, bM_some, hn_62, ha_87, hw_62, cond_false, Nat.reduceAdd, hlt, if_true, nn_out, nn_clamp, gM_o, hsrc, hst, cpN_s, lc_r, nn_r1]
    exact ih (j + 1) (by omega)
theorem m_be62 : bc d M_X10_be none 0 [some (.ref 62), some (.ref 87), none] [] (hp t (gM g w a k)) cn sn = some (.inl none, hp t (gM (hR g 62 (cpN (g.1 87) (g.1 62) 3)) w a k), cn, sn) := by
  have e := m_be_l62 (d := d) (t := t) (g := g) (F := g.1 62) (w := w) (a := a) (k := k) (cn := cn) (sn := sn) 3 0 (by omega)
  rw [cpN_0, hR_self] at e
  rw [← e]
  simp only [st_X10_be_0, st_X10_be_1, lc_r, Nat.reduceAdd]
  rfl
end IMG3
