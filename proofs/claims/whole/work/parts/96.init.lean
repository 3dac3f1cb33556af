/-! ===== printed by wip/whole/mac.py: constructors, new objects and arrays ===== -/
theorem bc_IS {d : Nat} {M : px_Mt} {scr : Option (Nat × (Nat → Int32))} {pc : Nat} {vs : List (Option Value)} {st : List Value} {h : px_H} {cn sn : Nat} {en : px_En} {M' : px_Mt} {d' : Nat} {as r : List Value} {ws : List (Option Value)} (ht : M.2.2.2.2.2.2 pc = some en) (hL : px_L M.2.2.1 en.1 en.2.2.1 pc (lc 0 vs) st = none) (hM : px_M kt_X.1.length kt_ft scr en.1 en.2.2.1 en.2.2.2.1 en.2.2.2.2.2 pc st h = none) (hP : px_P kt_X d en.1 en.2.2.1 st h = none) (hT : px_T d en.1 en.2.2.1 st = none) (hN : px_N kt_ft en.1 en.2.2.1 en.2.2.2.1 st = none) (hE : px_end M.2.2.2.1 en.1 st = none)
    (hI : px_I kt_mt d en.1 en.2.2.1 en.2.2.2.1 en.2.2.2.2.1 st h = some (d', M', as, r)) (ha : lv_args 0 as = lc 0 ws) (hi : px_isI en.1 = true) :
    bc d M scr pc vs st h cn sn = bC (bc d' M' none 0 ws [] h 0 0) (fun v h' c k => bc d M scr (pc + 3) vs (v.toList ++ r) h' (cn + c) (sn + k)) (fun _ _ _ _ => none) := by
  show bk d M scr pc (lc 0 vs) st h cn sn = _
  rw [bk_eq]
  unfold bk_F
  simp only [ht, hL, hM, hP, hT, hN, hE, hI, ha]
  show bk_call bk d M scr pc (lc 0 vs) cn sn en.1 r (bk d' M' none 0 (lc 0 ws) [] h 0 0) = bC (bk d' M' none 0 (lc 0 ws) [] h 0 0) _ _
  cases bk d' M' none 0 (lc 0 ws) [] h 0 0 with
  | none => rfl
  | some z =>
    obtain ⟨z, h', c, k⟩ := z
    cases z with
    | inl v => rfl
    | inr z =>
      unfold bk_call
      simp only [hi, cond_true]
      rfl
theorem px_I_spc {d : Nat} {st : List Value} {h : px_H} {M' : px_Mt} {i a b k p : Nat} {as r : List Value} (hm : kt_mt a = some M') (hp : px_pop b st [] = some (as, .ref p :: r)) (hs : px_sum r ≤ 8) (ha : Nat.ble (px_sum (.ref p :: as)) M'.2.2.1 = true) : px_I kt_mt (d + 1) (.invokespecial i) a b k st h = some (d, M', .ref p :: as, r) := by
  unfold px_I
  simp only [hm, hp]
  exact px_go_ok hs ha
theorem px_I_1000 {d : Nat} {st : List Value} {h : px_H} {i : Instr} {b k : Nat} : px_I kt_mt d i 1000 b k st h = none := rfl
section INIT
variable {d : Nat} {scr : Option (Nat × (Nat → Int32))} {st : List Value} {h : px_H} {cn sn : Nat} {x y z : Int32} {u w : Int64} {p p1 p2 p3 : Nat} {t : UInt32} {a0 a1 a2 a3 a4 a5 a6 a7 a8 a9 : Option Value}
theorem st_X0_init_0 : bc d M_X0_init scr 0 [some (.ref p)] st h cn sn = bc d M_X0_init scr 1 [some (.ref p)] (.ref p :: st) h cn sn := bc_lda1 rfl rfl
theorem st_X0_init_4 : bc d M_X0_init scr 4 [some (.ref p)] st h cn sn = bc d M_X0_init scr 5 [some (.ref p)] (.ref p :: st) h cn sn := bc_lda1 rfl rfl
theorem st_X0_init_5 : bc d M_X0_init scr 5 [a0] st h cn sn = bc d M_X0_init scr 8 [a0] (.int 2160 :: st) h cn sn := bc_L rfl rfl
theorem st_X0_init_10 : bc d M_X0_init scr 10 [a0] st h cn sn = bM (px_put 0 0 (kt_ft 0 0) 10 st h) (fun p s g => bc d M_X0_init scr p [a0] s g cn sn) := bc_M (en := (.putfield 9, 3, 0, 0, 0, .null)) rfl rfl rfl rfl rfl rfl px_I_pf
theorem st_X0_init_13 : bc d M_X0_init scr 13 [a0] [] h cn sn = some (.inl none, h, cn, sn) := bc_E rfl rfl rfl rfl rfl rfl rfl
theorem st_X0_init_1 : bc d M_X0_init scr 1 [a0] st h cn sn = bP (px_init d st h) (fun s g => bc d M_X0_init scr 4 [a0] s g cn sn) := bc_P (en := (.invokespecial 3, 3, 1000, 0, 0, .null)) rfl rfl rfl rfl rfl rfl px_I_1000
theorem st_X0_init_8 (hn : (!decide (x < 0) && Nat.ble x.toNatClampNeg 1000000) = true) : bc d M_X0_init scr 8 [a0] (.int x :: st) h cn sn = bc d M_X0_init scr 10 [a0] (.ref h.length :: st) (h ++ [px_arr 0 x.toNatClampNeg]) (cn + 1) (sn + x.toNatClampNeg) := bc_N (en := (.newarray .int, 2, 0, 0, 0, .null)) (q := (2, st, px_arr 0 x.toNatClampNeg, x.toNatClampNeg)) rfl rfl rfl rfl rfl (by show (bif (!decide (x < 0) && Nat.ble x.toNatClampNeg 1000000) then _ else none) = _; rw [hn]; rfl)
theorem st_X1_init_0 : bc d M_X1_init scr 0 [some (.ref p)] st h cn sn = bc d M_X1_init scr 1 [some (.ref p)] (.ref p :: st) h cn sn := bc_lda1 rfl rfl
theorem st_X1_init_4 : bc d M_X1_init scr 4 [some (.ref p)] st h cn sn = bc d M_X1_init scr 5 [some (.ref p)] (.ref p :: st) h cn sn := bc_lda1 rfl rfl
theorem st_X1_init_5 : bc d M_X1_init scr 5 [a0] st h cn sn = bc d M_X1_init scr 7 [a0] (.int 54 :: st) h cn sn := bc_L rfl rfl
theorem st_X1_init_9 : bc d M_X1_init scr 9 [a0] st h cn sn = bM (px_put 1 0 (kt_ft 1 0) 9 st h) (fun p s g => bc d M_X1_init scr p [a0] s g cn sn) := bc_M (en := (.putfield 9, 3, 1, 0, 0, .null)) rfl rfl rfl rfl rfl rfl px_I_pf
theorem st_X1_init_12 : bc d M_X1_init scr 12 [some (.ref p)] st h cn sn = bc d M_X1_init scr 13 [some (.ref p)] (.ref p :: st) h cn sn := bc_lda1 rfl rfl
theorem st_X1_init_13 : bc d M_X1_init scr 13 [a0] st h cn sn = bc d M_X1_init scr 15 [a0] (.int 61 :: st) h cn sn := bc_L rfl rfl
theorem st_X1_init_17 : bc d M_X1_init scr 17 [a0] st h cn sn = bM (px_put 1 1 (kt_ft 1 1) 17 st h) (fun p s g => bc d M_X1_init scr p [a0] s g cn sn) := bc_M (en := (.putfield 15, 3, 1, 1, 0, .null)) rfl rfl rfl rfl rfl rfl px_I_pf
theorem st_X1_init_20 : bc d M_X1_init scr 20 [some (.ref p)] st h cn sn = bc d M_X1_init scr 21 [some (.ref p)] (.ref p :: st) h cn sn := bc_lda1 rfl rfl
theorem st_X1_init_21 : bc d M_X1_init scr 21 [a0] st h cn sn = bc d M_X1_init scr 23 [a0] (.int 61 :: st) h cn sn := bc_L rfl rfl
theorem st_X1_init_25 : bc d M_X1_init scr 25 [a0] st h cn sn = bM (px_put 1 2 (kt_ft 1 2) 25 st h) (fun p s g => bc d M_X1_init scr p [a0] s g cn sn) := bc_M (en := (.putfield 19, 3, 1, 2, 0, .null)) rfl rfl rfl rfl rfl rfl px_I_pf
theorem st_X1_init_28 : bc d M_X1_init scr 28 [a0] [] h cn sn = some (.inl none, h, cn, sn) := bc_E rfl rfl rfl rfl rfl rfl rfl
theorem st_X1_init_1 : bc d M_X1_init scr 1 [a0] st h cn sn = bP (px_init d st h) (fun s g => bc d M_X1_init scr 4 [a0] s g cn sn) := bc_P (en := (.invokespecial 3, 3, 1000, 0, 0, .null)) rfl rfl rfl rfl rfl rfl px_I_1000
theorem st_X1_init_7 (hn : (!decide (x < 0) && Nat.ble x.toNatClampNeg 1000000) = true) : bc d M_X1_init scr 7 [a0] (.int x :: st) h cn sn = bc d M_X1_init scr 9 [a0] (.ref h.length :: st) (h ++ [px_arr 0 x.toNatClampNeg]) (cn + 1) (sn + x.toNatClampNeg) := bc_N (en := (.newarray .int, 2, 0, 0, 0, .null)) (q := (2, st, px_arr 0 x.toNatClampNeg, x.toNatClampNeg)) rfl rfl rfl rfl rfl (by show (bif (!decide (x < 0) && Nat.ble x.toNatClampNeg 1000000) then _ else none) = _; rw [hn]; rfl)
theorem st_X1_init_15 (hn : (!decide (x < 0) && Nat.ble x.toNatClampNeg 1000000) = true) : bc d M_X1_init scr 15 [a0] (.int x :: st) h cn sn = bc d M_X1_init scr 17 [a0] (.ref h.length :: st) (h ++ [px_arr 1 x.toNatClampNeg]) (cn + 1) (sn + x.toNatClampNeg) := bc_N (en := (.newarray .long, 2, 1, 0, 0, .null)) (q := (2, st, px_arr 1 x.toNatClampNeg, x.toNatClampNeg)) rfl rfl rfl rfl rfl (by show (bif (!decide (x < 0) && Nat.ble x.toNatClampNeg 1000000) then _ else none) = _; rw [hn]; rfl)
theorem st_X1_init_23 (hn : (!decide (x < 0) && Nat.ble x.toNatClampNeg 1000000) = true) : bc d M_X1_init scr 23 [a0] (.int x :: st) h cn sn = bc d M_X1_init scr 25 [a0] (.ref h.length :: st) (h ++ [px_arr 0 x.toNatClampNeg]) (cn + 1) (sn + x.toNatClampNeg) := bc_N (en := (.newarray .int, 2, 0, 0, 0, .null)) (q := (2, st, px_arr 0 x.toNatClampNeg, x.toNatClampNeg)) rfl rfl rfl rfl rfl (by show (bif (!decide (x < 0) && Nat.ble x.toNatClampNeg 1000000) then _ else none) = _; rw [hn]; rfl)
theorem st_X1_collect_11 (hn : (!decide (x < 0) && Nat.ble x.toNatClampNeg 1000000) = true) : bc d M_X1_collect scr 11 [a0, a1, a2, a3, a4] (.int x :: st) h cn sn = bc d M_X1_collect scr 13 [a0, a1, a2, a3, a4] (.ref h.length :: st) (h ++ [px_arr 1 x.toNatClampNeg]) (cn + 1) (sn + x.toNatClampNeg) := bc_N (en := (.newarray .long, 2, 1, 0, 0, .null)) (q := (2, st, px_arr 1 x.toNatClampNeg, x.toNatClampNeg)) rfl rfl rfl rfl rfl (by show (bif (!decide (x < 0) && Nat.ble x.toNatClampNeg 1000000) then _ else none) = _; rw [hn]; rfl)
theorem st_X2_init_0 : bc d M_X2_init scr 0 [some (.ref p)] st h cn sn = bc d M_X2_init scr 1 [some (.ref p)] (.ref p :: st) h cn sn := bc_lda1 rfl rfl
theorem st_X2_init_4 : bc d M_X2_init scr 4 [some (.ref p)] st h cn sn = bc d M_X2_init scr 5 [some (.ref p)] (.ref p :: st) h cn sn := bc_lda1 rfl rfl
theorem st_X2_init_5 : bc d M_X2_init scr 5 [a0] st h cn sn = bc d M_X2_init scr 7 [a0] (.int 8 :: st) h cn sn := bc_L rfl rfl
theorem st_X2_init_9 : bc d M_X2_init scr 9 [a0] st h cn sn = bM (px_put 2 0 (kt_ft 2 0) 9 st h) (fun p s g => bc d M_X2_init scr p [a0] s g cn sn) := bc_M (en := (.putfield 9, 3, 2, 0, 0, .null)) rfl rfl rfl rfl rfl rfl px_I_pf
theorem st_X2_init_12 : bc d M_X2_init scr 12 [some (.ref p)] st h cn sn = bc d M_X2_init scr 13 [some (.ref p)] (.ref p :: st) h cn sn := bc_lda1 rfl rfl
theorem st_X2_init_13 : bc d M_X2_init scr 13 [a0] st h cn sn = bc d M_X2_init scr 15 [a0] (.int 8 :: st) h cn sn := bc_L rfl rfl
theorem st_X2_init_17 : bc d M_X2_init scr 17 [a0] st h cn sn = bM (px_put 2 1 (kt_ft 2 1) 17 st h) (fun p s g => bc d M_X2_init scr p [a0] s g cn sn) := bc_M (en := (.putfield 15, 3, 2, 1, 0, .null)) rfl rfl rfl rfl rfl rfl px_I_pf
theorem st_X2_init_20 : bc d M_X2_init scr 20 [a0] [] h cn sn = some (.inl none, h, cn, sn) := bc_E rfl rfl rfl rfl rfl rfl rfl
theorem st_X2_init_1 : bc d M_X2_init scr 1 [a0] st h cn sn = bP (px_init d st h) (fun s g => bc d M_X2_init scr 4 [a0] s g cn sn) := bc_P (en := (.invokespecial 3, 3, 1000, 0, 0, .null)) rfl rfl rfl rfl rfl rfl px_I_1000
theorem st_X2_init_7 (hn : (!decide (x < 0) && Nat.ble x.toNatClampNeg 1000000) = true) : bc d M_X2_init scr 7 [a0] (.int x :: st) h cn sn = bc d M_X2_init scr 9 [a0] (.ref h.length :: st) (h ++ [px_arr 0 x.toNatClampNeg]) (cn + 1) (sn + x.toNatClampNeg) := bc_N (en := (.newarray .int, 2, 0, 0, 0, .null)) (q := (2, st, px_arr 0 x.toNatClampNeg, x.toNatClampNeg)) rfl rfl rfl rfl rfl (by show (bif (!decide (x < 0) && Nat.ble x.toNatClampNeg 1000000) then _ else none) = _; rw [hn]; rfl)
theorem st_X2_init_15 (hn : (!decide (x < 0) && Nat.ble x.toNatClampNeg 1000000) = true) : bc d M_X2_init scr 15 [a0] (.int x :: st) h cn sn = bc d M_X2_init scr 17 [a0] (.ref h.length :: st) (h ++ [px_arr 0 x.toNatClampNeg]) (cn + 1) (sn + x.toNatClampNeg) := bc_N (en := (.newarray .int, 2, 0, 0, 0, .null)) (q := (2, st, px_arr 0 x.toNatClampNeg, x.toNatClampNeg)) rfl rfl rfl rfl rfl (by show (bif (!decide (x < 0) && Nat.ble x.toNatClampNeg 1000000) then _ else none) = _; rw [hn]; rfl)
theorem st_X3_init_0 : bc d M_X3_init scr 0 [some (.ref p)] st h cn sn = bc d M_X3_init scr 1 [some (.ref p)] (.ref p :: st) h cn sn := bc_lda1 rfl rfl
theorem st_X3_init_4 : bc d M_X3_init scr 4 [some (.ref p)] st h cn sn = bc d M_X3_init scr 5 [some (.ref p)] (.ref p :: st) h cn sn := bc_lda1 rfl rfl
theorem st_X3_init_5 : bc d M_X3_init scr 5 [a0] st h cn sn = bc d M_X3_init scr 7 [a0] (.int 54 :: st) h cn sn := bc_L rfl rfl
theorem st_X3_init_9 : bc d M_X3_init scr 9 [a0] st h cn sn = bM (px_put 3 0 (kt_ft 3 0) 9 st h) (fun p s g => bc d M_X3_init scr p [a0] s g cn sn) := bc_M (en := (.putfield 9, 3, 3, 0, 0, .null)) rfl rfl rfl rfl rfl rfl px_I_pf
theorem st_X3_init_12 : bc d M_X3_init scr 12 [some (.ref p)] st h cn sn = bc d M_X3_init scr 13 [some (.ref p)] (.ref p :: st) h cn sn := bc_lda1 rfl rfl
theorem st_X3_init_16 : bc d M_X3_init scr 16 [a0] (.int x :: st) h cn sn = bc d M_X3_init scr 17 [a0] (.int x :: .int x :: st) h cn sn := bc_L rfl rfl
theorem st_X3_init_16r : bc d M_X3_init scr 16 [a0] (.ref p :: st) h cn sn = bc d M_X3_init scr 17 [a0] (.ref p :: .ref p :: st) h cn sn := bc_L rfl rfl
theorem st_X3_init_20 : bc d M_X3_init scr 20 [a0] st h cn sn = bM (px_put 3 1 (kt_ft 3 1) 20 st h) (fun p s g => bc d M_X3_init scr p [a0] s g cn sn) := bc_M (en := (.putfield 18, 3, 3, 1, 0, .null)) rfl rfl rfl rfl rfl rfl px_I_pf
theorem st_X3_init_23 : bc d M_X3_init scr 23 [some (.ref p)] st h cn sn = bc d M_X3_init scr 24 [some (.ref p)] (.ref p :: st) h cn sn := bc_lda1 rfl rfl
theorem st_X3_init_27 : bc d M_X3_init scr 27 [a0] (.int x :: st) h cn sn = bc d M_X3_init scr 28 [a0] (.int x :: .int x :: st) h cn sn := bc_L rfl rfl
theorem st_X3_init_27r : bc d M_X3_init scr 27 [a0] (.ref p :: st) h cn sn = bc d M_X3_init scr 28 [a0] (.ref p :: .ref p :: st) h cn sn := bc_L rfl rfl
theorem st_X3_init_31 : bc d M_X3_init scr 31 [a0] st h cn sn = bM (px_put 3 2 (kt_ft 3 2) 31 st h) (fun p s g => bc d M_X3_init scr p [a0] s g cn sn) := bc_M (en := (.putfield 25, 3, 3, 2, 0, .null)) rfl rfl rfl rfl rfl rfl px_I_pf
theorem st_X3_init_34 : bc d M_X3_init scr 34 [some (.ref p)] st h cn sn = bc d M_X3_init scr 35 [some (.ref p)] (.ref p :: st) h cn sn := bc_lda1 rfl rfl
theorem st_X3_init_35 : bc d M_X3_init scr 35 [a0] st h cn sn = bc d M_X3_init scr 36 [a0] (.int 3 :: st) h cn sn := bc_L rfl rfl
theorem st_X3_init_38 : bc d M_X3_init scr 38 [a0] st h cn sn = bM (px_put 3 3 (kt_ft 3 3) 38 st h) (fun p s g => bc d M_X3_init scr p [a0] s g cn sn) := bc_M (en := (.putfield 29, 3, 3, 3, 0, .null)) rfl rfl rfl rfl rfl rfl px_I_pf
theorem st_X3_init_41 : bc d M_X3_init scr 41 [a0] [] h cn sn = some (.inl none, h, cn, sn) := bc_E rfl rfl rfl rfl rfl rfl rfl
theorem st_X3_init_1 : bc d M_X3_init scr 1 [a0] st h cn sn = bP (px_init d st h) (fun s g => bc d M_X3_init scr 4 [a0] s g cn sn) := bc_P (en := (.invokespecial 3, 3, 1000, 0, 0, .null)) rfl rfl rfl rfl rfl rfl px_I_1000
theorem st_X3_init_7 (hn : (!decide (x < 0) && Nat.ble x.toNatClampNeg 1000000) = true) : bc d M_X3_init scr 7 [a0] (.int x :: st) h cn sn = bc d M_X3_init scr 9 [a0] (.ref h.length :: st) (h ++ [px_arr 0 x.toNatClampNeg]) (cn + 1) (sn + x.toNatClampNeg) := bc_N (en := (.newarray .int, 2, 0, 0, 0, .null)) (q := (2, st, px_arr 0 x.toNatClampNeg, x.toNatClampNeg)) rfl rfl rfl rfl rfl (by show (bif (!decide (x < 0) && Nat.ble x.toNatClampNeg 1000000) then _ else none) = _; rw [hn]; rfl)
theorem st_X3_init_13 : bc d M_X3_init scr 13 [a0] st h cn sn = bc d M_X3_init scr 16 [a0] (.ref h.length :: st) (h ++ [.inr (0, px_dfl (kt_ft 0) 3)]) (cn + 1) (sn + 3) := bc_N (en := (.new 15, 3, 0, 3, 0, .null)) rfl rfl rfl rfl rfl rfl
theorem st_X3_init_17 (hs : px_sum st ≤ 8) : bc (d + 1) M_X3_init scr 17 [a0] (.ref p :: st) h cn sn = bC (bc d M_X0_init none 0 [some (.ref p)] [] h 0 0) (fun v h' c k => bc (d + 1) M_X3_init scr 20 [a0] (v.toList ++ st) h' (cn + c) (sn + k)) (fun _ _ _ _ => none) := bc_IS (en := (.invokespecial 17, 3, 0, 0, 0, .null)) rfl rfl rfl rfl rfl rfl rfl (px_I_spc mt_0 rfl hs rfl) rfl rfl
theorem st_X3_init_24 : bc d M_X3_init scr 24 [a0] st h cn sn = bc d M_X3_init scr 27 [a0] (.ref h.length :: st) (h ++ [.inr (2, px_dfl (kt_ft 2) 3)]) (cn + 1) (sn + 3) := bc_N (en := (.new 22, 3, 2, 3, 0, .null)) rfl rfl rfl rfl rfl rfl
theorem st_X3_init_28 (hs : px_sum st ≤ 8) : bc (d + 1) M_X3_init scr 28 [a0] (.ref p :: st) h cn sn = bC (bc d M_X2_init none 0 [some (.ref p)] [] h 0 0) (fun v h' c k => bc (d + 1) M_X3_init scr 31 [a0] (v.toList ++ st) h' (cn + c) (sn + k)) (fun _ _ _ _ => none) := bc_IS (en := (.invokespecial 24, 3, 11, 0, 0, .null)) rfl rfl rfl rfl rfl rfl rfl (px_I_spc mt_11 rfl hs rfl) rfl rfl
theorem st_X3_init_36 (hn : (!decide (x < 0) && Nat.ble x.toNatClampNeg 1000000) = true) : bc d M_X3_init scr 36 [a0] (.int x :: st) h cn sn = bc d M_X3_init scr 38 [a0] (.ref h.length :: st) (h ++ [px_arr 0 x.toNatClampNeg]) (cn + 1) (sn + x.toNatClampNeg) := bc_N (en := (.newarray .int, 2, 0, 0, 0, .null)) (q := (2, st, px_arr 0 x.toNatClampNeg, x.toNatClampNeg)) rfl rfl rfl rfl rfl (by show (bif (!decide (x < 0) && Nat.ble x.toNatClampNeg 1000000) then _ else none) = _; rw [hn]; rfl)
theorem st_X4_init_0 : bc d M_X4_init scr 0 [some (.ref p)] st h cn sn = bc d M_X4_init scr 1 [some (.ref p)] (.ref p :: st) h cn sn := bc_lda1 rfl rfl
theorem st_X4_init_4 : bc d M_X4_init scr 4 [some (.ref p)] st h cn sn = bc d M_X4_init scr 5 [some (.ref p)] (.ref p :: st) h cn sn := bc_lda1 rfl rfl
theorem st_X4_init_5 : bc d M_X4_init scr 5 [a0] st h cn sn = bc d M_X4_init scr 7 [a0] (.int 8 :: st) h cn sn := bc_L rfl rfl
theorem st_X4_init_9 : bc d M_X4_init scr 9 [a0] st h cn sn = bM (px_put 4 0 (kt_ft 4 0) 9 st h) (fun p s g => bc d M_X4_init scr p [a0] s g cn sn) := bc_M (en := (.putfield 9, 3, 4, 0, 0, .null)) rfl rfl rfl rfl rfl rfl px_I_pf
theorem st_X4_init_12 : bc d M_X4_init scr 12 [some (.ref p)] st h cn sn = bc d M_X4_init scr 13 [some (.ref p)] (.ref p :: st) h cn sn := bc_lda1 rfl rfl
theorem st_X4_init_13 : bc d M_X4_init scr 13 [a0] st h cn sn = bc d M_X4_init scr 15 [a0] (.int 8 :: st) h cn sn := bc_L rfl rfl
theorem st_X4_init_17 : bc d M_X4_init scr 17 [a0] st h cn sn = bM (px_put 4 1 (kt_ft 4 1) 17 st h) (fun p s g => bc d M_X4_init scr p [a0] s g cn sn) := bc_M (en := (.putfield 15, 3, 4, 1, 0, .null)) rfl rfl rfl rfl rfl rfl px_I_pf
theorem st_X4_init_20 : bc d M_X4_init scr 20 [some (.ref p)] st h cn sn = bc d M_X4_init scr 21 [some (.ref p)] (.ref p :: st) h cn sn := bc_lda1 rfl rfl
theorem st_X4_init_21 : bc d M_X4_init scr 21 [a0] st h cn sn = bc d M_X4_init scr 23 [a0] (.int 8 :: st) h cn sn := bc_L rfl rfl
theorem st_X4_init_25 : bc d M_X4_init scr 25 [a0] st h cn sn = bM (px_put 4 2 (kt_ft 4 2) 25 st h) (fun p s g => bc d M_X4_init scr p [a0] s g cn sn) := bc_M (en := (.putfield 18, 3, 4, 2, 0, .null)) rfl rfl rfl rfl rfl rfl px_I_pf
theorem st_X4_init_28 : bc d M_X4_init scr 28 [some (.ref p)] st h cn sn = bc d M_X4_init scr 29 [some (.ref p)] (.ref p :: st) h cn sn := bc_lda1 rfl rfl
theorem st_X4_init_29 : bc d M_X4_init scr 29 [a0] st h cn sn = bc d M_X4_init scr 31 [a0] (.int 8 :: st) h cn sn := bc_L rfl rfl
theorem st_X4_init_33 : bc d M_X4_init scr 33 [a0] st h cn sn = bM (px_put 4 3 (kt_ft 4 3) 33 st h) (fun p s g => bc d M_X4_init scr p [a0] s g cn sn) := bc_M (en := (.putfield 21, 3, 4, 3, 0, .null)) rfl rfl rfl rfl rfl rfl px_I_pf
theorem st_X4_init_36 : bc d M_X4_init scr 36 [some (.ref p)] st h cn sn = bc d M_X4_init scr 37 [some (.ref p)] (.ref p :: st) h cn sn := bc_lda1 rfl rfl
theorem st_X4_init_37 : bc d M_X4_init scr 37 [a0] st h cn sn = bc d M_X4_init scr 39 [a0] (.int 8 :: st) h cn sn := bc_L rfl rfl
theorem st_X4_init_41 : bc d M_X4_init scr 41 [a0] st h cn sn = bM (px_put 4 4 (kt_ft 4 4) 41 st h) (fun p s g => bc d M_X4_init scr p [a0] s g cn sn) := bc_M (en := (.putfield 24, 3, 4, 4, 0, .null)) rfl rfl rfl rfl rfl rfl px_I_pf
theorem st_X4_init_44 : bc d M_X4_init scr 44 [some (.ref p)] st h cn sn = bc d M_X4_init scr 45 [some (.ref p)] (.ref p :: st) h cn sn := bc_lda1 rfl rfl
theorem st_X4_init_45 : bc d M_X4_init scr 45 [a0] st h cn sn = bc d M_X4_init scr 46 [a0] (.int 4 :: st) h cn sn := bc_L rfl rfl
theorem st_X4_init_48 : bc d M_X4_init scr 48 [a0] st h cn sn = bM (px_put 4 5 (kt_ft 4 5) 48 st h) (fun p s g => bc d M_X4_init scr p [a0] s g cn sn) := bc_M (en := (.putfield 27, 3, 4, 5, 0, .null)) rfl rfl rfl rfl rfl rfl px_I_pf
theorem st_X4_init_51 : bc d M_X4_init scr 51 [some (.ref p)] st h cn sn = bc d M_X4_init scr 52 [some (.ref p)] (.ref p :: st) h cn sn := bc_lda1 rfl rfl
theorem st_X4_init_52 : bc d M_X4_init scr 52 [a0] st h cn sn = bc d M_X4_init scr 53 [a0] (.int 5 :: st) h cn sn := bc_L rfl rfl
theorem st_X4_init_55 : bc d M_X4_init scr 55 [a0] st h cn sn = bM (px_put 4 6 (kt_ft 4 6) 55 st h) (fun p s g => bc d M_X4_init scr p [a0] s g cn sn) := bc_M (en := (.putfield 30, 3, 4, 6, 0, .null)) rfl rfl rfl rfl rfl rfl px_I_pf
theorem st_X4_init_58 : bc d M_X4_init scr 58 [some (.ref p)] st h cn sn = bc d M_X4_init scr 59 [some (.ref p)] (.ref p :: st) h cn sn := bc_lda1 rfl rfl
theorem st_X4_init_59 : bc d M_X4_init scr 59 [a0] st h cn sn = bc d M_X4_init scr 61 [a0] (.int 15 :: st) h cn sn := bc_L rfl rfl
theorem st_X4_init_63 : bc d M_X4_init scr 63 [a0] st h cn sn = bM (px_put 4 7 (kt_ft 4 7) 63 st h) (fun p s g => bc d M_X4_init scr p [a0] s g cn sn) := bc_M (en := (.putfield 33, 3, 4, 7, 0, .null)) rfl rfl rfl rfl rfl rfl px_I_pf
theorem st_X4_init_66 : bc d M_X4_init scr 66 [some (.ref p)] st h cn sn = bc d M_X4_init scr 67 [some (.ref p)] (.ref p :: st) h cn sn := bc_lda1 rfl rfl
theorem st_X4_init_70 : bc d M_X4_init scr 70 [a0] (.int x :: st) h cn sn = bc d M_X4_init scr 71 [a0] (.int x :: .int x :: st) h cn sn := bc_L rfl rfl
theorem st_X4_init_70r : bc d M_X4_init scr 70 [a0] (.ref p :: st) h cn sn = bc d M_X4_init scr 71 [a0] (.ref p :: .ref p :: st) h cn sn := bc_L rfl rfl
theorem st_X4_init_74 : bc d M_X4_init scr 74 [a0] st h cn sn = bM (px_put 4 8 (kt_ft 4 8) 74 st h) (fun p s g => bc d M_X4_init scr p [a0] s g cn sn) := bc_M (en := (.putfield 39, 3, 4, 8, 0, .null)) rfl rfl rfl rfl rfl rfl px_I_pf
theorem st_X4_init_77 : bc d M_X4_init scr 77 [some (.ref p)] st h cn sn = bc d M_X4_init scr 78 [some (.ref p)] (.ref p :: st) h cn sn := bc_lda1 rfl rfl
theorem st_X4_init_78 : bc d M_X4_init scr 78 [a0] st h cn sn = bc d M_X4_init scr 80 [a0] (.int 7 :: st) h cn sn := bc_L rfl rfl
theorem st_X4_init_82 : bc d M_X4_init scr 82 [a0] st h cn sn = bM (px_put 4 9 (kt_ft 4 9) 82 st h) (fun p s g => bc d M_X4_init scr p [a0] s g cn sn) := bc_M (en := (.putfield 43, 3, 4, 9, 0, .null)) rfl rfl rfl rfl rfl rfl px_I_pf
theorem st_X4_init_85 : bc d M_X4_init scr 85 [a0] [] h cn sn = some (.inl none, h, cn, sn) := bc_E rfl rfl rfl rfl rfl rfl rfl
theorem st_X4_init_1 : bc d M_X4_init scr 1 [a0] st h cn sn = bP (px_init d st h) (fun s g => bc d M_X4_init scr 4 [a0] s g cn sn) := bc_P (en := (.invokespecial 3, 3, 1000, 0, 0, .null)) rfl rfl rfl rfl rfl rfl px_I_1000
theorem st_X4_init_7 (hn : (!decide (x < 0) && Nat.ble x.toNatClampNeg 1000000) = true) : bc d M_X4_init scr 7 [a0] (.int x :: st) h cn sn = bc d M_X4_init scr 9 [a0] (.ref h.length :: st) (h ++ [px_arr 0 x.toNatClampNeg]) (cn + 1) (sn + x.toNatClampNeg) := bc_N (en := (.newarray .int, 2, 0, 0, 0, .null)) (q := (2, st, px_arr 0 x.toNatClampNeg, x.toNatClampNeg)) rfl rfl rfl rfl rfl (by show (bif (!decide (x < 0) && Nat.ble x.toNatClampNeg 1000000) then _ else none) = _; rw [hn]; rfl)
theorem st_X4_init_15 (hn : (!decide (x < 0) && Nat.ble x.toNatClampNeg 1000000) = true) : bc d M_X4_init scr 15 [a0] (.int x :: st) h cn sn = bc d M_X4_init scr 17 [a0] (.ref h.length :: st) (h ++ [px_arr 0 x.toNatClampNeg]) (cn + 1) (sn + x.toNatClampNeg) := bc_N (en := (.newarray .int, 2, 0, 0, 0, .null)) (q := (2, st, px_arr 0 x.toNatClampNeg, x.toNatClampNeg)) rfl rfl rfl rfl rfl (by show (bif (!decide (x < 0) && Nat.ble x.toNatClampNeg 1000000) then _ else none) = _; rw [hn]; rfl)
theorem st_X4_init_23 (hn : (!decide (x < 0) && Nat.ble x.toNatClampNeg 1000000) = true) : bc d M_X4_init scr 23 [a0] (.int x :: st) h cn sn = bc d M_X4_init scr 25 [a0] (.ref h.length :: st) (h ++ [px_arr 0 x.toNatClampNeg]) (cn + 1) (sn + x.toNatClampNeg) := bc_N (en := (.newarray .int, 2, 0, 0, 0, .null)) (q := (2, st, px_arr 0 x.toNatClampNeg, x.toNatClampNeg)) rfl rfl rfl rfl rfl (by show (bif (!decide (x < 0) && Nat.ble x.toNatClampNeg 1000000) then _ else none) = _; rw [hn]; rfl)
theorem st_X4_init_31 (hn : (!decide (x < 0) && Nat.ble x.toNatClampNeg 1000000) = true) : bc d M_X4_init scr 31 [a0] (.int x :: st) h cn sn = bc d M_X4_init scr 33 [a0] (.ref h.length :: st) (h ++ [px_arr 0 x.toNatClampNeg]) (cn + 1) (sn + x.toNatClampNeg) := bc_N (en := (.newarray .int, 2, 0, 0, 0, .null)) (q := (2, st, px_arr 0 x.toNatClampNeg, x.toNatClampNeg)) rfl rfl rfl rfl rfl (by show (bif (!decide (x < 0) && Nat.ble x.toNatClampNeg 1000000) then _ else none) = _; rw [hn]; rfl)
theorem st_X4_init_39 (hn : (!decide (x < 0) && Nat.ble x.toNatClampNeg 1000000) = true) : bc d M_X4_init scr 39 [a0] (.int x :: st) h cn sn = bc d M_X4_init scr 41 [a0] (.ref h.length :: st) (h ++ [px_arr 0 x.toNatClampNeg]) (cn + 1) (sn + x.toNatClampNeg) := bc_N (en := (.newarray .int, 2, 0, 0, 0, .null)) (q := (2, st, px_arr 0 x.toNatClampNeg, x.toNatClampNeg)) rfl rfl rfl rfl rfl (by show (bif (!decide (x < 0) && Nat.ble x.toNatClampNeg 1000000) then _ else none) = _; rw [hn]; rfl)
theorem st_X4_init_46 (hn : (!decide (x < 0) && Nat.ble x.toNatClampNeg 1000000) = true) : bc d M_X4_init scr 46 [a0] (.int x :: st) h cn sn = bc d M_X4_init scr 48 [a0] (.ref h.length :: st) (h ++ [px_arr 0 x.toNatClampNeg]) (cn + 1) (sn + x.toNatClampNeg) := bc_N (en := (.newarray .int, 2, 0, 0, 0, .null)) (q := (2, st, px_arr 0 x.toNatClampNeg, x.toNatClampNeg)) rfl rfl rfl rfl rfl (by show (bif (!decide (x < 0) && Nat.ble x.toNatClampNeg 1000000) then _ else none) = _; rw [hn]; rfl)
theorem st_X4_init_53 (hn : (!decide (x < 0) && Nat.ble x.toNatClampNeg 1000000) = true) : bc d M_X4_init scr 53 [a0] (.int x :: st) h cn sn = bc d M_X4_init scr 55 [a0] (.ref h.length :: st) (h ++ [px_arr 0 x.toNatClampNeg]) (cn + 1) (sn + x.toNatClampNeg) := bc_N (en := (.newarray .int, 2, 0, 0, 0, .null)) (q := (2, st, px_arr 0 x.toNatClampNeg, x.toNatClampNeg)) rfl rfl rfl rfl rfl (by show (bif (!decide (x < 0) && Nat.ble x.toNatClampNeg 1000000) then _ else none) = _; rw [hn]; rfl)
theorem st_X4_init_61 (hn : (!decide (x < 0) && Nat.ble x.toNatClampNeg 1000000) = true) : bc d M_X4_init scr 61 [a0] (.int x :: st) h cn sn = bc d M_X4_init scr 63 [a0] (.ref h.length :: st) (h ++ [px_arr 0 x.toNatClampNeg]) (cn + 1) (sn + x.toNatClampNeg) := bc_N (en := (.newarray .int, 2, 0, 0, 0, .null)) (q := (2, st, px_arr 0 x.toNatClampNeg, x.toNatClampNeg)) rfl rfl rfl rfl rfl (by show (bif (!decide (x < 0) && Nat.ble x.toNatClampNeg 1000000) then _ else none) = _; rw [hn]; rfl)
theorem st_X4_init_67 : bc d M_X4_init scr 67 [a0] st h cn sn = bc d M_X4_init scr 70 [a0] (.ref h.length :: st) (h ++ [.inr (7, px_dfl (kt_ft 7) 3)]) (cn + 1) (sn + 3) := bc_N (en := (.new 36, 3, 7, 3, 0, .null)) rfl rfl rfl rfl rfl rfl
theorem st_X4_init_71 (hs : px_sum st ≤ 8) : bc (d + 1) M_X4_init scr 71 [a0] (.ref p :: st) h cn sn = bC (bc d M_X7_init none 0 [some (.ref p)] [] h 0 0) (fun v h' c k => bc (d + 1) M_X4_init scr 74 [a0] (v.toList ++ st) h' (cn + c) (sn + k)) (fun _ _ _ _ => none) := bc_IS (en := (.invokespecial 38, 3, 67, 0, 0, .null)) rfl rfl rfl rfl rfl rfl rfl (px_I_spc mt_67 rfl hs rfl) rfl rfl
theorem st_X4_init_80 (hn : (!decide (x < 0) && Nat.ble x.toNatClampNeg 1000000) = true) : bc d M_X4_init scr 80 [a0] (.int x :: st) h cn sn = bc d M_X4_init scr 82 [a0] (.ref h.length :: st) (h ++ [px_arr 0 x.toNatClampNeg]) (cn + 1) (sn + x.toNatClampNeg) := bc_N (en := (.newarray .int, 2, 0, 0, 0, .null)) (q := (2, st, px_arr 0 x.toNatClampNeg, x.toNatClampNeg)) rfl rfl rfl rfl rfl (by show (bif (!decide (x < 0) && Nat.ble x.toNatClampNeg 1000000) then _ else none) = _; rw [hn]; rfl)
theorem st_X5_init_0 : bc d M_X5_init scr 0 [some (.ref p)] st h cn sn = bc d M_X5_init scr 1 [some (.ref p)] (.ref p :: st) h cn sn := bc_lda1 rfl rfl
theorem st_X5_init_4 : bc d M_X5_init scr 4 [some (.ref p)] st h cn sn = bc d M_X5_init scr 5 [some (.ref p)] (.ref p :: st) h cn sn := bc_lda1 rfl rfl
theorem st_X5_init_5 : bc d M_X5_init scr 5 [a0] st h cn sn = bc d M_X5_init scr 7 [a0] (.int 54 :: st) h cn sn := bc_L rfl rfl
theorem st_X5_init_9 : bc d M_X5_init scr 9 [a0] st h cn sn = bM (px_put 5 0 (kt_ft 5 0) 9 st h) (fun p s g => bc d M_X5_init scr p [a0] s g cn sn) := bc_M (en := (.putfield 9, 3, 5, 0, 0, .null)) rfl rfl rfl rfl rfl rfl px_I_pf
theorem st_X5_init_12 : bc d M_X5_init scr 12 [some (.ref p)] st h cn sn = bc d M_X5_init scr 13 [some (.ref p)] (.ref p :: st) h cn sn := bc_lda1 rfl rfl
theorem st_X5_init_13 : bc d M_X5_init scr 13 [a0] st h cn sn = bc d M_X5_init scr 14 [a0] (.int 4 :: st) h cn sn := bc_L rfl rfl
theorem st_X5_init_16 : bc d M_X5_init scr 16 [a0] st h cn sn = bM (px_put 5 1 (kt_ft 5 1) 16 st h) (fun p s g => bc d M_X5_init scr p [a0] s g cn sn) := bc_M (en := (.putfield 15, 3, 5, 1, 0, .null)) rfl rfl rfl rfl rfl rfl px_I_pf
theorem st_X5_init_19 : bc d M_X5_init scr 19 [some (.ref p)] st h cn sn = bc d M_X5_init scr 20 [some (.ref p)] (.ref p :: st) h cn sn := bc_lda1 rfl rfl
theorem st_X5_init_20 : bc d M_X5_init scr 20 [a0] st h cn sn = bc d M_X5_init scr 21 [a0] (.int 4 :: st) h cn sn := bc_L rfl rfl
theorem st_X5_init_23 : bc d M_X5_init scr 23 [a0] st h cn sn = bM (px_put 5 2 (kt_ft 5 2) 23 st h) (fun p s g => bc d M_X5_init scr p [a0] s g cn sn) := bc_M (en := (.putfield 18, 3, 5, 2, 0, .null)) rfl rfl rfl rfl rfl rfl px_I_pf
theorem st_X5_init_26 : bc d M_X5_init scr 26 [some (.ref p)] st h cn sn = bc d M_X5_init scr 27 [some (.ref p)] (.ref p :: st) h cn sn := bc_lda1 rfl rfl
theorem st_X5_init_27 : bc d M_X5_init scr 27 [a0] st h cn sn = bc d M_X5_init scr 28 [a0] (.int (-1) :: st) h cn sn := bc_L rfl rfl
theorem st_X5_init_28 : bc d M_X5_init scr 28 [a0] st h cn sn = bM (px_put 5 4 (kt_ft 5 4) 28 st h) (fun p s g => bc d M_X5_init scr p [a0] s g cn sn) := bc_M (en := (.putfield 21, 3, 5, 4, 0, .null)) rfl rfl rfl rfl rfl rfl px_I_pf
theorem st_X5_init_31 : bc d M_X5_init scr 31 [a0] [] h cn sn = some (.inl none, h, cn, sn) := bc_E rfl rfl rfl rfl rfl rfl rfl
theorem st_X5_init_1 : bc d M_X5_init scr 1 [a0] st h cn sn = bP (px_init d st h) (fun s g => bc d M_X5_init scr 4 [a0] s g cn sn) := bc_P (en := (.invokespecial 3, 3, 1000, 0, 0, .null)) rfl rfl rfl rfl rfl rfl px_I_1000
theorem st_X5_init_7 (hn : (!decide (x < 0) && Nat.ble x.toNatClampNeg 1000000) = true) : bc d M_X5_init scr 7 [a0] (.int x :: st) h cn sn = bc d M_X5_init scr 9 [a0] (.ref h.length :: st) (h ++ [px_arr 0 x.toNatClampNeg]) (cn + 1) (sn + x.toNatClampNeg) := bc_N (en := (.newarray .int, 2, 0, 0, 0, .null)) (q := (2, st, px_arr 0 x.toNatClampNeg, x.toNatClampNeg)) rfl rfl rfl rfl rfl (by show (bif (!decide (x < 0) && Nat.ble x.toNatClampNeg 1000000) then _ else none) = _; rw [hn]; rfl)
theorem st_X5_init_14 (hn : (!decide (x < 0) && Nat.ble x.toNatClampNeg 1000000) = true) : bc d M_X5_init scr 14 [a0] (.int x :: st) h cn sn = bc d M_X5_init scr 16 [a0] (.ref h.length :: st) (h ++ [px_arr 0 x.toNatClampNeg]) (cn + 1) (sn + x.toNatClampNeg) := bc_N (en := (.newarray .int, 2, 0, 0, 0, .null)) (q := (2, st, px_arr 0 x.toNatClampNeg, x.toNatClampNeg)) rfl rfl rfl rfl rfl (by show (bif (!decide (x < 0) && Nat.ble x.toNatClampNeg 1000000) then _ else none) = _; rw [hn]; rfl)
theorem st_X5_init_21 (hn : (!decide (x < 0) && Nat.ble x.toNatClampNeg 1000000) = true) : bc d M_X5_init scr 21 [a0] (.int x :: st) h cn sn = bc d M_X5_init scr 23 [a0] (.ref h.length :: st) (h ++ [px_arr 0 x.toNatClampNeg]) (cn + 1) (sn + x.toNatClampNeg) := bc_N (en := (.newarray .int, 2, 0, 0, 0, .null)) (q := (2, st, px_arr 0 x.toNatClampNeg, x.toNatClampNeg)) rfl rfl rfl rfl rfl (by show (bif (!decide (x < 0) && Nat.ble x.toNatClampNeg 1000000) then _ else none) = _; rw [hn]; rfl)
theorem st_X6_init_0 : bc d M_X6_init scr 0 [some (.ref p)] st h cn sn = bc d M_X6_init scr 1 [some (.ref p)] (.ref p :: st) h cn sn := bc_lda1 rfl rfl
theorem st_X6_init_4 : bc d M_X6_init scr 4 [some (.ref p)] st h cn sn = bc d M_X6_init scr 5 [some (.ref p)] (.ref p :: st) h cn sn := bc_lda1 rfl rfl
theorem st_X6_init_5 : bc d M_X6_init scr 5 [a0] st h cn sn = bc d M_X6_init scr 8 [a0] (.int 600 :: st) h cn sn := bc_L rfl rfl
theorem st_X6_init_10 : bc d M_X6_init scr 10 [a0] st h cn sn = bM (px_put 6 0 (kt_ft 6 0) 10 st h) (fun p s g => bc d M_X6_init scr p [a0] s g cn sn) := bc_M (en := (.putfield 9, 3, 6, 0, 0, .null)) rfl rfl rfl rfl rfl rfl px_I_pf
theorem st_X6_init_13 : bc d M_X6_init scr 13 [some (.ref p)] st h cn sn = bc d M_X6_init scr 14 [some (.ref p)] (.ref p :: st) h cn sn := bc_lda1 rfl rfl
theorem st_X6_init_17 : bc d M_X6_init scr 17 [a0] (.int x :: st) h cn sn = bc d M_X6_init scr 18 [a0] (.int x :: .int x :: st) h cn sn := bc_L rfl rfl
theorem st_X6_init_17r : bc d M_X6_init scr 17 [a0] (.ref p :: st) h cn sn = bc d M_X6_init scr 18 [a0] (.ref p :: .ref p :: st) h cn sn := bc_L rfl rfl
theorem st_X6_init_21 : bc d M_X6_init scr 21 [a0] st h cn sn = bM (px_put 6 1 (kt_ft 6 1) 21 st h) (fun p s g => bc d M_X6_init scr p [a0] s g cn sn) := bc_M (en := (.putfield 18, 3, 6, 1, 0, .null)) rfl rfl rfl rfl rfl rfl px_I_pf
theorem st_X6_init_24 : bc d M_X6_init scr 24 [some (.ref p)] st h cn sn = bc d M_X6_init scr 25 [some (.ref p)] (.ref p :: st) h cn sn := bc_lda1 rfl rfl
theorem st_X6_init_25 : bc d M_X6_init scr 25 [a0] st h cn sn = bc d M_X6_init scr 26 [a0] (.int (-1) :: st) h cn sn := bc_L rfl rfl
theorem st_X6_init_26 : bc d M_X6_init scr 26 [a0] st h cn sn = bM (px_put 6 3 (kt_ft 6 3) 26 st h) (fun p s g => bc d M_X6_init scr p [a0] s g cn sn) := bc_M (en := (.putfield 22, 3, 6, 3, 0, .null)) rfl rfl rfl rfl rfl rfl px_I_pf
theorem st_X6_init_29 : bc d M_X6_init scr 29 [a0] [] h cn sn = some (.inl none, h, cn, sn) := bc_E rfl rfl rfl rfl rfl rfl rfl
theorem st_X6_init_1 : bc d M_X6_init scr 1 [a0] st h cn sn = bP (px_init d st h) (fun s g => bc d M_X6_init scr 4 [a0] s g cn sn) := bc_P (en := (.invokespecial 3, 3, 1000, 0, 0, .null)) rfl rfl rfl rfl rfl rfl px_I_1000
theorem st_X6_init_8 (hn : (!decide (x < 0) && Nat.ble x.toNatClampNeg 1000000) = true) : bc d M_X6_init scr 8 [a0] (.int x :: st) h cn sn = bc d M_X6_init scr 10 [a0] (.ref h.length :: st) (h ++ [px_arr 2 x.toNatClampNeg]) (cn + 1) (sn + x.toNatClampNeg) := bc_N (en := (.newarray .byte, 2, 2, 0, 0, .null)) (q := (2, st, px_arr 2 x.toNatClampNeg, x.toNatClampNeg)) rfl rfl rfl rfl rfl (by show (bif (!decide (x < 0) && Nat.ble x.toNatClampNeg 1000000) then _ else none) = _; rw [hn]; rfl)
theorem st_X6_init_14 : bc d M_X6_init scr 14 [a0] st h cn sn = bc d M_X6_init scr 17 [a0] (.ref h.length :: st) (h ++ [.inr (4, px_dfl (kt_ft 4) 15)]) (cn + 1) (sn + 15) := bc_N (en := (.new 15, 3, 4, 15, 0, .null)) rfl rfl rfl rfl rfl rfl
theorem st_X6_init_18 (hs : px_sum st ≤ 8) : bc (d + 1) M_X6_init scr 18 [a0] (.ref p :: st) h cn sn = bC (bc d M_X4_init none 0 [some (.ref p)] [] h 0 0) (fun v h' c k => bc (d + 1) M_X6_init scr 21 [a0] (v.toList ++ st) h' (cn + c) (sn + k)) (fun _ _ _ _ => none) := bc_IS (en := (.invokespecial 17, 3, 18, 0, 0, .null)) rfl rfl rfl rfl rfl rfl rfl (px_I_spc mt_18 rfl hs rfl) rfl rfl
theorem st_X7_init_0 : bc d M_X7_init scr 0 [some (.ref p)] st h cn sn = bc d M_X7_init scr 1 [some (.ref p)] (.ref p :: st) h cn sn := bc_lda1 rfl rfl
theorem st_X7_init_4 : bc d M_X7_init scr 4 [some (.ref p)] st h cn sn = bc d M_X7_init scr 5 [some (.ref p)] (.ref p :: st) h cn sn := bc_lda1 rfl rfl
theorem st_X7_init_5 : bc d M_X7_init scr 5 [a0] st h cn sn = bc d M_X7_init scr 8 [a0] (.int 600 :: st) h cn sn := bc_L rfl rfl
theorem st_X7_init_10 : bc d M_X7_init scr 10 [a0] st h cn sn = bM (px_put 7 0 (kt_ft 7 0) 10 st h) (fun p s g => bc d M_X7_init scr p [a0] s g cn sn) := bc_M (en := (.putfield 11, 3, 7, 0, 0, .null)) rfl rfl rfl rfl rfl rfl px_I_pf
theorem st_X7_init_13 : bc d M_X7_init scr 13 [some (.ref p)] st h cn sn = bc d M_X7_init scr 14 [some (.ref p)] (.ref p :: st) h cn sn := bc_lda1 rfl rfl
theorem st_X7_init_14 : bc d M_X7_init scr 14 [a0] st h cn sn = bc d M_X7_init scr 16 [a0] (.int 40 :: st) h cn sn := bc_L rfl rfl
theorem st_X7_init_18 : bc d M_X7_init scr 18 [a0] st h cn sn = bM (px_put 7 1 (kt_ft 7 1) 18 st h) (fun p s g => bc d M_X7_init scr p [a0] s g cn sn) := bc_M (en := (.putfield 15, 3, 7, 1, 0, .null)) rfl rfl rfl rfl rfl rfl px_I_pf
theorem st_X7_init_21 : bc d M_X7_init scr 21 [a0] [] h cn sn = some (.inl none, h, cn, sn) := bc_E rfl rfl rfl rfl rfl rfl rfl
theorem st_X7_init_1 : bc d M_X7_init scr 1 [a0] st h cn sn = bP (px_init d st h) (fun s g => bc d M_X7_init scr 4 [a0] s g cn sn) := bc_P (en := (.invokespecial 5, 3, 1000, 0, 0, .null)) rfl rfl rfl rfl rfl rfl px_I_1000
theorem st_X7_init_8 (hn : (!decide (x < 0) && Nat.ble x.toNatClampNeg 1000000) = true) : bc d M_X7_init scr 8 [a0] (.int x :: st) h cn sn = bc d M_X7_init scr 10 [a0] (.ref h.length :: st) (h ++ [px_arr 0 x.toNatClampNeg]) (cn + 1) (sn + x.toNatClampNeg) := bc_N (en := (.newarray .int, 2, 0, 0, 0, .null)) (q := (2, st, px_arr 0 x.toNatClampNeg, x.toNatClampNeg)) rfl rfl rfl rfl rfl (by show (bif (!decide (x < 0) && Nat.ble x.toNatClampNeg 1000000) then _ else none) = _; rw [hn]; rfl)
theorem st_X7_init_16 (hn : (!decide (x < 0) && Nat.ble x.toNatClampNeg 1000000) = true) : bc d M_X7_init scr 16 [a0] (.int x :: st) h cn sn = bc d M_X7_init scr 18 [a0] (.ref h.length :: st) (h ++ [px_arr 0 x.toNatClampNeg]) (cn + 1) (sn + x.toNatClampNeg) := bc_N (en := (.newarray .int, 2, 0, 0, 0, .null)) (q := (2, st, px_arr 0 x.toNatClampNeg, x.toNatClampNeg)) rfl rfl rfl rfl rfl (by show (bif (!decide (x < 0) && Nat.ble x.toNatClampNeg 1000000) then _ else none) = _; rw [hn]; rfl)
theorem st_X8_init_0 : bc d M_X8_init scr 0 [some (.ref p)] st h cn sn = bc d M_X8_init scr 1 [some (.ref p)] (.ref p :: st) h cn sn := bc_lda1 rfl rfl
theorem st_X8_init_4 : bc d M_X8_init scr 4 [some (.ref p)] st h cn sn = bc d M_X8_init scr 5 [some (.ref p)] (.ref p :: st) h cn sn := bc_lda1 rfl rfl
theorem st_X8_init_5 : bc d M_X8_init scr 5 [a0] st h cn sn = bc d M_X8_init scr 6 [a0] (.int 4 :: st) h cn sn := bc_L rfl rfl
theorem st_X8_init_8 : bc d M_X8_init scr 8 [a0] st h cn sn = bM (px_put 8 0 (kt_ft 8 0) 8 st h) (fun p s g => bc d M_X8_init scr p [a0] s g cn sn) := bc_M (en := (.putfield 11, 3, 8, 0, 0, .null)) rfl rfl rfl rfl rfl rfl px_I_pf
theorem st_X8_init_11 : bc d M_X8_init scr 11 [some (.ref p)] st h cn sn = bc d M_X8_init scr 12 [some (.ref p)] (.ref p :: st) h cn sn := bc_lda1 rfl rfl
theorem st_X8_init_12 : bc d M_X8_init scr 12 [a0] st h cn sn = bc d M_X8_init scr 13 [a0] (.int 4 :: st) h cn sn := bc_L rfl rfl
theorem st_X8_init_15 : bc d M_X8_init scr 15 [a0] st h cn sn = bM (px_put 8 1 (kt_ft 8 1) 15 st h) (fun p s g => bc d M_X8_init scr p [a0] s g cn sn) := bc_M (en := (.putfield 15, 3, 8, 1, 0, .null)) rfl rfl rfl rfl rfl rfl px_I_pf
theorem st_X8_init_18 : bc d M_X8_init scr 18 [some (.ref p)] st h cn sn = bc d M_X8_init scr 19 [some (.ref p)] (.ref p :: st) h cn sn := bc_lda1 rfl rfl
theorem st_X8_init_19 : bc d M_X8_init scr 19 [a0] st h cn sn = bc d M_X8_init scr 21 [a0] (.int 16 :: st) h cn sn := bc_L rfl rfl
theorem st_X8_init_23 : bc d M_X8_init scr 23 [a0] st h cn sn = bM (px_put 8 2 (kt_ft 8 2) 23 st h) (fun p s g => bc d M_X8_init scr p [a0] s g cn sn) := bc_M (en := (.putfield 18, 3, 8, 2, 0, .null)) rfl rfl rfl rfl rfl rfl px_I_pf
theorem st_X8_init_26 : bc d M_X8_init scr 26 [a0] [] h cn sn = some (.inl none, h, cn, sn) := bc_E rfl rfl rfl rfl rfl rfl rfl
theorem st_X8_init_1 : bc d M_X8_init scr 1 [a0] st h cn sn = bP (px_init d st h) (fun s g => bc d M_X8_init scr 4 [a0] s g cn sn) := bc_P (en := (.invokespecial 3, 3, 1000, 0, 0, .null)) rfl rfl rfl rfl rfl rfl px_I_1000
theorem st_X8_init_6 (hn : (!decide (x < 0) && Nat.ble x.toNatClampNeg 1000000) = true) : bc d M_X8_init scr 6 [a0] (.int x :: st) h cn sn = bc d M_X8_init scr 8 [a0] (.ref h.length :: st) (h ++ [px_arr 0 x.toNatClampNeg]) (cn + 1) (sn + x.toNatClampNeg) := bc_N (en := (.newarray .int, 2, 0, 0, 0, .null)) (q := (2, st, px_arr 0 x.toNatClampNeg, x.toNatClampNeg)) rfl rfl rfl rfl rfl (by show (bif (!decide (x < 0) && Nat.ble x.toNatClampNeg 1000000) then _ else none) = _; rw [hn]; rfl)
theorem st_X8_init_13 (hn : (!decide (x < 0) && Nat.ble x.toNatClampNeg 1000000) = true) : bc d M_X8_init scr 13 [a0] (.int x :: st) h cn sn = bc d M_X8_init scr 15 [a0] (.ref h.length :: st) (h ++ [px_arr 0 x.toNatClampNeg]) (cn + 1) (sn + x.toNatClampNeg) := bc_N (en := (.newarray .int, 2, 0, 0, 0, .null)) (q := (2, st, px_arr 0 x.toNatClampNeg, x.toNatClampNeg)) rfl rfl rfl rfl rfl (by show (bif (!decide (x < 0) && Nat.ble x.toNatClampNeg 1000000) then _ else none) = _; rw [hn]; rfl)
theorem st_X8_init_21 (hn : (!decide (x < 0) && Nat.ble x.toNatClampNeg 1000000) = true) : bc d M_X8_init scr 21 [a0] (.int x :: st) h cn sn = bc d M_X8_init scr 23 [a0] (.ref h.length :: st) (h ++ [px_arr 0 x.toNatClampNeg]) (cn + 1) (sn + x.toNatClampNeg) := bc_N (en := (.newarray .int, 2, 0, 0, 0, .null)) (q := (2, st, px_arr 0 x.toNatClampNeg, x.toNatClampNeg)) rfl rfl rfl rfl rfl (by show (bif (!decide (x < 0) && Nat.ble x.toNatClampNeg 1000000) then _ else none) = _; rw [hn]; rfl)
theorem st_X9_init_0 : bc d M_X9_init scr 0 [some (.ref p)] st h cn sn = bc d M_X9_init scr 1 [some (.ref p)] (.ref p :: st) h cn sn := bc_lda1 rfl rfl
theorem st_X9_init_4 : bc d M_X9_init scr 4 [some (.ref p)] st h cn sn = bc d M_X9_init scr 5 [some (.ref p)] (.ref p :: st) h cn sn := bc_lda1 rfl rfl
theorem st_X9_init_8 : bc d M_X9_init scr 8 [a0] (.int x :: st) h cn sn = bc d M_X9_init scr 9 [a0] (.int x :: .int x :: st) h cn sn := bc_L rfl rfl
theorem st_X9_init_8r : bc d M_X9_init scr 8 [a0] (.ref p :: st) h cn sn = bc d M_X9_init scr 9 [a0] (.ref p :: .ref p :: st) h cn sn := bc_L rfl rfl
theorem st_X9_init_12 : bc d M_X9_init scr 12 [a0] st h cn sn = bM (px_put 9 0 (kt_ft 9 0) 12 st h) (fun p s g => bc d M_X9_init scr p [a0] s g cn sn) := bc_M (en := (.putfield 12, 3, 9, 0, 0, .null)) rfl rfl rfl rfl rfl rfl px_I_pf
theorem st_X9_init_15 : bc d M_X9_init scr 15 [some (.ref p)] st h cn sn = bc d M_X9_init scr 16 [some (.ref p)] (.ref p :: st) h cn sn := bc_lda1 rfl rfl
theorem st_X9_init_19 : bc d M_X9_init scr 19 [a0] (.int x :: st) h cn sn = bc d M_X9_init scr 20 [a0] (.int x :: .int x :: st) h cn sn := bc_L rfl rfl
theorem st_X9_init_19r : bc d M_X9_init scr 19 [a0] (.ref p :: st) h cn sn = bc d M_X9_init scr 20 [a0] (.ref p :: .ref p :: st) h cn sn := bc_L rfl rfl
theorem st_X9_init_23 : bc d M_X9_init scr 23 [a0] st h cn sn = bM (px_put 9 1 (kt_ft 9 1) 23 st h) (fun p s g => bc d M_X9_init scr p [a0] s g cn sn) := bc_M (en := (.putfield 19, 3, 9, 1, 0, .null)) rfl rfl rfl rfl rfl rfl px_I_pf
theorem st_X9_init_26 : bc d M_X9_init scr 26 [some (.ref p)] st h cn sn = bc d M_X9_init scr 27 [some (.ref p)] (.ref p :: st) h cn sn := bc_lda1 rfl rfl
theorem st_X9_init_27 : bc d M_X9_init scr 27 [a0] st h cn sn = bc d M_X9_init scr 29 [a0] (.int 54 :: st) h cn sn := bc_L rfl rfl
theorem st_X9_init_31 : bc d M_X9_init scr 31 [a0] st h cn sn = bM (px_put 9 2 (kt_ft 9 2) 31 st h) (fun p s g => bc d M_X9_init scr p [a0] s g cn sn) := bc_M (en := (.putfield 23, 3, 9, 2, 0, .null)) rfl rfl rfl rfl rfl rfl px_I_pf
theorem st_X9_init_34 : bc d M_X9_init scr 34 [some (.ref p)] st h cn sn = bc d M_X9_init scr 35 [some (.ref p)] (.ref p :: st) h cn sn := bc_lda1 rfl rfl
theorem st_X9_init_35 : bc d M_X9_init scr 35 [a0] st h cn sn = bc d M_X9_init scr 37 [a0] (.int 54 :: st) h cn sn := bc_L rfl rfl
theorem st_X9_init_39 : bc d M_X9_init scr 39 [a0] st h cn sn = bM (px_put 9 3 (kt_ft 9 3) 39 st h) (fun p s g => bc d M_X9_init scr p [a0] s g cn sn) := bc_M (en := (.putfield 27, 3, 9, 3, 0, .null)) rfl rfl rfl rfl rfl rfl px_I_pf
theorem st_X9_init_42 : bc d M_X9_init scr 42 [some (.ref p)] st h cn sn = bc d M_X9_init scr 43 [some (.ref p)] (.ref p :: st) h cn sn := bc_lda1 rfl rfl
theorem st_X9_init_43 : bc d M_X9_init scr 43 [a0] st h cn sn = bc d M_X9_init scr 44 [a0] (.int 3 :: st) h cn sn := bc_L rfl rfl
theorem st_X9_init_46 : bc d M_X9_init scr 46 [a0] st h cn sn = bM (px_put 9 4 (kt_ft 9 4) 46 st h) (fun p s g => bc d M_X9_init scr p [a0] s g cn sn) := bc_M (en := (.putfield 30, 3, 9, 4, 0, .null)) rfl rfl rfl rfl rfl rfl px_I_pf
theorem st_X9_init_49 : bc d M_X9_init scr 49 [some (.ref p)] st h cn sn = bc d M_X9_init scr 50 [some (.ref p)] (.ref p :: st) h cn sn := bc_lda1 rfl rfl
theorem st_X9_init_53 : bc d M_X9_init scr 53 [a0] (.int x :: st) h cn sn = bc d M_X9_init scr 54 [a0] (.int x :: .int x :: st) h cn sn := bc_L rfl rfl
theorem st_X9_init_53r : bc d M_X9_init scr 53 [a0] (.ref p :: st) h cn sn = bc d M_X9_init scr 54 [a0] (.ref p :: .ref p :: st) h cn sn := bc_L rfl rfl
theorem st_X9_init_57 : bc d M_X9_init scr 57 [a0] st h cn sn = bM (px_put 9 5 (kt_ft 9 5) 57 st h) (fun p s g => bc d M_X9_init scr p [a0] s g cn sn) := bc_M (en := (.putfield 36, 3, 9, 5, 0, .null)) rfl rfl rfl rfl rfl rfl px_I_pf
theorem st_X9_init_60 : bc d M_X9_init scr 60 [some (.ref p)] st h cn sn = bc d M_X9_init scr 61 [some (.ref p)] (.ref p :: st) h cn sn := bc_lda1 rfl rfl
theorem st_X9_init_64 : bc d M_X9_init scr 64 [a0] (.int x :: st) h cn sn = bc d M_X9_init scr 65 [a0] (.int x :: .int x :: st) h cn sn := bc_L rfl rfl
theorem st_X9_init_64r : bc d M_X9_init scr 64 [a0] (.ref p :: st) h cn sn = bc d M_X9_init scr 65 [a0] (.ref p :: .ref p :: st) h cn sn := bc_L rfl rfl
theorem st_X9_init_68 : bc d M_X9_init scr 68 [a0] st h cn sn = bM (px_put 9 6 (kt_ft 9 6) 68 st h) (fun p s g => bc d M_X9_init scr p [a0] s g cn sn) := bc_M (en := (.putfield 43, 3, 9, 6, 0, .null)) rfl rfl rfl rfl rfl rfl px_I_pf
theorem st_X9_init_71 : bc d M_X9_init scr 71 [some (.ref p)] st h cn sn = bc d M_X9_init scr 72 [some (.ref p)] (.ref p :: st) h cn sn := bc_lda1 rfl rfl
theorem st_X9_init_75 : bc d M_X9_init scr 75 [a0] (.int x :: st) h cn sn = bc d M_X9_init scr 76 [a0] (.int x :: .int x :: st) h cn sn := bc_L rfl rfl
theorem st_X9_init_75r : bc d M_X9_init scr 75 [a0] (.ref p :: st) h cn sn = bc d M_X9_init scr 76 [a0] (.ref p :: .ref p :: st) h cn sn := bc_L rfl rfl
theorem st_X9_init_79 : bc d M_X9_init scr 79 [a0] st h cn sn = bM (px_put 9 7 (kt_ft 9 7) 79 st h) (fun p s g => bc d M_X9_init scr p [a0] s g cn sn) := bc_M (en := (.putfield 50, 3, 9, 7, 0, .null)) rfl rfl rfl rfl rfl rfl px_I_pf
theorem st_X9_init_82 : bc d M_X9_init scr 82 [some (.ref p)] st h cn sn = bc d M_X9_init scr 83 [some (.ref p)] (.ref p :: st) h cn sn := bc_lda1 rfl rfl
theorem st_X9_init_86 : bc d M_X9_init scr 86 [a0] (.int x :: st) h cn sn = bc d M_X9_init scr 87 [a0] (.int x :: .int x :: st) h cn sn := bc_L rfl rfl
theorem st_X9_init_86r : bc d M_X9_init scr 86 [a0] (.ref p :: st) h cn sn = bc d M_X9_init scr 87 [a0] (.ref p :: .ref p :: st) h cn sn := bc_L rfl rfl
theorem st_X9_init_90 : bc d M_X9_init scr 90 [a0] st h cn sn = bM (px_put 9 8 (kt_ft 9 8) 90 st h) (fun p s g => bc d M_X9_init scr p [a0] s g cn sn) := bc_M (en := (.putfield 57, 3, 9, 8, 0, .null)) rfl rfl rfl rfl rfl rfl px_I_pf
theorem st_X9_init_93 : bc d M_X9_init scr 93 [some (.ref p)] st h cn sn = bc d M_X9_init scr 94 [some (.ref p)] (.ref p :: st) h cn sn := bc_lda1 rfl rfl
theorem st_X9_init_97 : bc d M_X9_init scr 97 [a0] (.int x :: st) h cn sn = bc d M_X9_init scr 98 [a0] (.int x :: .int x :: st) h cn sn := bc_L rfl rfl
theorem st_X9_init_97r : bc d M_X9_init scr 97 [a0] (.ref p :: st) h cn sn = bc d M_X9_init scr 98 [a0] (.ref p :: .ref p :: st) h cn sn := bc_L rfl rfl
theorem st_X9_init_101 : bc d M_X9_init scr 101 [a0] st h cn sn = bM (px_put 9 9 (kt_ft 9 9) 101 st h) (fun p s g => bc d M_X9_init scr p [a0] s g cn sn) := bc_M (en := (.putfield 64, 3, 9, 9, 0, .null)) rfl rfl rfl rfl rfl rfl px_I_pf
theorem st_X9_init_104 : bc d M_X9_init scr 104 [a0] [] h cn sn = some (.inl none, h, cn, sn) := bc_E rfl rfl rfl rfl rfl rfl rfl
theorem st_X9_init_1 : bc d M_X9_init scr 1 [a0] st h cn sn = bP (px_init d st h) (fun s g => bc d M_X9_init scr 4 [a0] s g cn sn) := bc_P (en := (.invokespecial 3, 3, 1000, 0, 0, .null)) rfl rfl rfl rfl rfl rfl px_I_1000
theorem st_X9_init_5 : bc d M_X9_init scr 5 [a0] st h cn sn = bc d M_X9_init scr 8 [a0] (.ref h.length :: st) (h ++ [.inr (6, px_dfl (kt_ft 6) 11)]) (cn + 1) (sn + 11) := bc_N (en := (.new 9, 3, 6, 11, 0, .null)) rfl rfl rfl rfl rfl rfl
theorem st_X9_init_9 (hs : px_sum st ≤ 8) : bc (d + 1) M_X9_init scr 9 [a0] (.ref p :: st) h cn sn = bC (bc d M_X6_init none 0 [some (.ref p)] [] h 0 0) (fun v h' c k => bc (d + 1) M_X9_init scr 12 [a0] (v.toList ++ st) h' (cn + c) (sn + k)) (fun _ _ _ _ => none) := bc_IS (en := (.invokespecial 11, 3, 41, 0, 0, .null)) rfl rfl rfl rfl rfl rfl rfl (px_I_spc mt_41 rfl hs rfl) rfl rfl
theorem st_X9_init_16 : bc d M_X9_init scr 16 [a0] st h cn sn = bc d M_X9_init scr 19 [a0] (.ref h.length :: st) (h ++ [.inr (4, px_dfl (kt_ft 4) 15)]) (cn + 1) (sn + 15) := bc_N (en := (.new 16, 3, 4, 15, 0, .null)) rfl rfl rfl rfl rfl rfl
theorem st_X9_init_20 (hs : px_sum st ≤ 8) : bc (d + 1) M_X9_init scr 20 [a0] (.ref p :: st) h cn sn = bC (bc d M_X4_init none 0 [some (.ref p)] [] h 0 0) (fun v h' c k => bc (d + 1) M_X9_init scr 23 [a0] (v.toList ++ st) h' (cn + c) (sn + k)) (fun _ _ _ _ => none) := bc_IS (en := (.invokespecial 18, 3, 18, 0, 0, .null)) rfl rfl rfl rfl rfl rfl rfl (px_I_spc mt_18 rfl hs rfl) rfl rfl
theorem st_X9_init_29 (hn : (!decide (x < 0) && Nat.ble x.toNatClampNeg 1000000) = true) : bc d M_X9_init scr 29 [a0] (.int x :: st) h cn sn = bc d M_X9_init scr 31 [a0] (.ref h.length :: st) (h ++ [px_arr 0 x.toNatClampNeg]) (cn + 1) (sn + x.toNatClampNeg) := bc_N (en := (.newarray .int, 2, 0, 0, 0, .null)) (q := (2, st, px_arr 0 x.toNatClampNeg, x.toNatClampNeg)) rfl rfl rfl rfl rfl (by show (bif (!decide (x < 0) && Nat.ble x.toNatClampNeg 1000000) then _ else none) = _; rw [hn]; rfl)
theorem st_X9_init_37 (hn : (!decide (x < 0) && Nat.ble x.toNatClampNeg 1000000) = true) : bc d M_X9_init scr 37 [a0] (.int x :: st) h cn sn = bc d M_X9_init scr 39 [a0] (.ref h.length :: st) (h ++ [px_arr 0 x.toNatClampNeg]) (cn + 1) (sn + x.toNatClampNeg) := bc_N (en := (.newarray .int, 2, 0, 0, 0, .null)) (q := (2, st, px_arr 0 x.toNatClampNeg, x.toNatClampNeg)) rfl rfl rfl rfl rfl (by show (bif (!decide (x < 0) && Nat.ble x.toNatClampNeg 1000000) then _ else none) = _; rw [hn]; rfl)
theorem st_X9_init_44 (hn : (!decide (x < 0) && Nat.ble x.toNatClampNeg 1000000) = true) : bc d M_X9_init scr 44 [a0] (.int x :: st) h cn sn = bc d M_X9_init scr 46 [a0] (.ref h.length :: st) (h ++ [px_arr 0 x.toNatClampNeg]) (cn + 1) (sn + x.toNatClampNeg) := bc_N (en := (.newarray .int, 2, 0, 0, 0, .null)) (q := (2, st, px_arr 0 x.toNatClampNeg, x.toNatClampNeg)) rfl rfl rfl rfl rfl (by show (bif (!decide (x < 0) && Nat.ble x.toNatClampNeg 1000000) then _ else none) = _; rw [hn]; rfl)
theorem st_X9_init_50 : bc d M_X9_init scr 50 [a0] st h cn sn = bc d M_X9_init scr 53 [a0] (.ref h.length :: st) (h ++ [.inr (0, px_dfl (kt_ft 0) 3)]) (cn + 1) (sn + 3) := bc_N (en := (.new 33, 3, 0, 3, 0, .null)) rfl rfl rfl rfl rfl rfl
theorem st_X9_init_54 (hs : px_sum st ≤ 8) : bc (d + 1) M_X9_init scr 54 [a0] (.ref p :: st) h cn sn = bC (bc d M_X0_init none 0 [some (.ref p)] [] h 0 0) (fun v h' c k => bc (d + 1) M_X9_init scr 57 [a0] (v.toList ++ st) h' (cn + c) (sn + k)) (fun _ _ _ _ => none) := bc_IS (en := (.invokespecial 35, 3, 0, 0, 0, .null)) rfl rfl rfl rfl rfl rfl rfl (px_I_spc mt_0 rfl hs rfl) rfl rfl
theorem st_X9_init_61 : bc d M_X9_init scr 61 [a0] st h cn sn = bc d M_X9_init scr 64 [a0] (.ref h.length :: st) (h ++ [.inr (2, px_dfl (kt_ft 2) 3)]) (cn + 1) (sn + 3) := bc_N (en := (.new 40, 3, 2, 3, 0, .null)) rfl rfl rfl rfl rfl rfl
theorem st_X9_init_65 (hs : px_sum st ≤ 8) : bc (d + 1) M_X9_init scr 65 [a0] (.ref p :: st) h cn sn = bC (bc d M_X2_init none 0 [some (.ref p)] [] h 0 0) (fun v h' c k => bc (d + 1) M_X9_init scr 68 [a0] (v.toList ++ st) h' (cn + c) (sn + k)) (fun _ _ _ _ => none) := bc_IS (en := (.invokespecial 42, 3, 11, 0, 0, .null)) rfl rfl rfl rfl rfl rfl rfl (px_I_spc mt_11 rfl hs rfl) rfl rfl
theorem st_X9_init_72 : bc d M_X9_init scr 72 [a0] st h cn sn = bc d M_X9_init scr 75 [a0] (.ref h.length :: st) (h ++ [.inr (1, px_dfl (kt_ft 1) 9)]) (cn + 1) (sn + 9) := bc_N (en := (.new 47, 3, 1, 9, 0, .null)) rfl rfl rfl rfl rfl rfl
theorem st_X9_init_76 (hs : px_sum st ≤ 8) : bc (d + 1) M_X9_init scr 76 [a0] (.ref p :: st) h cn sn = bC (bc d M_X1_init none 0 [some (.ref p)] [] h 0 0) (fun v h' c k => bc (d + 1) M_X9_init scr 79 [a0] (v.toList ++ st) h' (cn + c) (sn + k)) (fun _ _ _ _ => none) := bc_IS (en := (.invokespecial 49, 3, 5, 0, 0, .null)) rfl rfl rfl rfl rfl rfl rfl (px_I_spc mt_5 rfl hs rfl) rfl rfl
theorem st_X9_init_83 : bc d M_X9_init scr 83 [a0] st h cn sn = bc d M_X9_init scr 86 [a0] (.ref h.length :: st) (h ++ [.inr (5, px_dfl (kt_ft 5) 5)]) (cn + 1) (sn + 5) := bc_N (en := (.new 54, 3, 5, 5, 0, .null)) rfl rfl rfl rfl rfl rfl
theorem st_X9_init_87 (hs : px_sum st ≤ 8) : bc (d + 1) M_X9_init scr 87 [a0] (.ref p :: st) h cn sn = bC (bc d M_X5_init none 0 [some (.ref p)] [] h 0 0) (fun v h' c k => bc (d + 1) M_X9_init scr 90 [a0] (v.toList ++ st) h' (cn + c) (sn + k)) (fun _ _ _ _ => none) := bc_IS (en := (.invokespecial 56, 3, 34, 0, 0, .null)) rfl rfl rfl rfl rfl rfl rfl (px_I_spc mt_34 rfl hs rfl) rfl rfl
theorem st_X9_init_94 : bc d M_X9_init scr 94 [a0] st h cn sn = bc d M_X9_init scr 97 [a0] (.ref h.length :: st) (h ++ [.inr (8, px_dfl (kt_ft 8) 3)]) (cn + 1) (sn + 3) := bc_N (en := (.new 61, 3, 8, 3, 0, .null)) rfl rfl rfl rfl rfl rfl
theorem st_X9_init_98 (hs : px_sum st ≤ 8) : bc (d + 1) M_X9_init scr 98 [a0] (.ref p :: st) h cn sn = bC (bc d M_X8_init none 0 [some (.ref p)] [] h 0 0) (fun v h' c k => bc (d + 1) M_X9_init scr 101 [a0] (v.toList ++ st) h' (cn + c) (sn + k)) (fun _ _ _ _ => none) := bc_IS (en := (.invokespecial 63, 3, 72, 0, 0, .null)) rfl rfl rfl rfl rfl rfl rfl (px_I_spc mt_72 rfl hs rfl) rfl rfl
theorem st_X9_image_8 : bc d M_X9_image scr 8 [a0] st h cn sn = bc d M_X9_image scr 11 [a0] (.ref h.length :: st) (h ++ [.inr (3, px_dfl (kt_ft 3) 4)]) (cn + 1) (sn + 4) := bc_N (en := (.new 304, 3, 3, 4, 0, .null)) rfl rfl rfl rfl rfl rfl
theorem st_X9_image_12 (hs : px_sum st ≤ 8) : bc (d + 1) M_X9_image scr 12 [a0] (.ref p :: st) h cn sn = bC (bc d M_X3_init none 0 [some (.ref p)] [] h 0 0) (fun v h' c k => bc (d + 1) M_X9_image scr 15 [a0] (v.toList ++ st) h' (cn + c) (sn + k)) (fun _ _ _ _ => none) := bc_IS (en := (.invokespecial 306, 3, 15, 0, 0, .null)) rfl rfl rfl rfl rfl rfl rfl (px_I_spc mt_15 rfl hs rfl) rfl rfl
set_option maxRecDepth 20000 in
theorem st_X10_init_0 : bc d M_X10_init scr 0 [some (.ref p)] st h cn sn = bc d M_X10_init scr 1 [some (.ref p)] (.ref p :: st) h cn sn := bc_lda1 rfl rfl
set_option maxRecDepth 20000 in
theorem st_X10_init_4 : bc d M_X10_init scr 4 [some (.ref p)] st h cn sn = bc d M_X10_init scr 5 [some (.ref p)] (.ref p :: st) h cn sn := bc_lda1 rfl rfl
set_option maxRecDepth 20000 in
theorem st_X10_init_5 : bc d M_X10_init scr 5 [a0] st h cn sn = bc d M_X10_init scr 6 [a0] (.int 4 :: st) h cn sn := bc_L rfl rfl
set_option maxRecDepth 20000 in
theorem st_X10_init_9 : bc d M_X10_init scr 9 [a0] (.int x :: st) h cn sn = bc d M_X10_init scr 10 [a0] (.int x :: .int x :: st) h cn sn := bc_L rfl rfl
set_option maxRecDepth 20000 in
theorem st_X10_init_9r : bc d M_X10_init scr 9 [a0] (.ref p :: st) h cn sn = bc d M_X10_init scr 10 [a0] (.ref p :: .ref p :: st) h cn sn := bc_L rfl rfl
set_option maxRecDepth 20000 in
theorem st_X10_init_10 : bc d M_X10_init scr 10 [a0] st h cn sn = bc d M_X10_init scr 11 [a0] (.int 0 :: st) h cn sn := bc_L rfl rfl
set_option maxRecDepth 20000 in
theorem st_X10_init_11 : bc d M_X10_init scr 11 [a0] st h cn sn = bc d M_X10_init scr 13 [a0] (.float (UInt32.ofNat 36) :: st) h cn sn := bc_ldc rfl rfl rfl
set_option maxRecDepth 20000 in
theorem st_X10_init_13 : bc d M_X10_init scr 13 [a0] st h cn sn = bM (px_rst kt_X.1.length 13 st h) (fun p s g => bc d M_X10_init scr p [a0] s g cn sn) := bc_M (en := (.aastore, 1, 0, 0, 0, .null)) rfl rfl rfl rfl rfl rfl px_I_as
set_option maxRecDepth 20000 in
theorem st_X10_init_14 : bc d M_X10_init scr 14 [a0] (.int x :: st) h cn sn = bc d M_X10_init scr 15 [a0] (.int x :: .int x :: st) h cn sn := bc_L rfl rfl
set_option maxRecDepth 20000 in
theorem st_X10_init_14r : bc d M_X10_init scr 14 [a0] (.ref p :: st) h cn sn = bc d M_X10_init scr 15 [a0] (.ref p :: .ref p :: st) h cn sn := bc_L rfl rfl
set_option maxRecDepth 20000 in
theorem st_X10_init_15 : bc d M_X10_init scr 15 [a0] st h cn sn = bc d M_X10_init scr 16 [a0] (.int 1 :: st) h cn sn := bc_L rfl rfl
set_option maxRecDepth 20000 in
theorem st_X10_init_16 : bc d M_X10_init scr 16 [a0] st h cn sn = bc d M_X10_init scr 18 [a0] (.float (UInt32.ofNat 37) :: st) h cn sn := bc_ldc rfl rfl rfl
set_option maxRecDepth 20000 in
theorem st_X10_init_18 : bc d M_X10_init scr 18 [a0] st h cn sn = bM (px_rst kt_X.1.length 18 st h) (fun p s g => bc d M_X10_init scr p [a0] s g cn sn) := bc_M (en := (.aastore, 1, 0, 0, 0, .null)) rfl rfl rfl rfl rfl rfl px_I_as
set_option maxRecDepth 20000 in
theorem st_X10_init_19 : bc d M_X10_init scr 19 [a0] (.int x :: st) h cn sn = bc d M_X10_init scr 20 [a0] (.int x :: .int x :: st) h cn sn := bc_L rfl rfl
set_option maxRecDepth 20000 in
theorem st_X10_init_19r : bc d M_X10_init scr 19 [a0] (.ref p :: st) h cn sn = bc d M_X10_init scr 20 [a0] (.ref p :: .ref p :: st) h cn sn := bc_L rfl rfl
set_option maxRecDepth 20000 in
theorem st_X10_init_20 : bc d M_X10_init scr 20 [a0] st h cn sn = bc d M_X10_init scr 21 [a0] (.int 2 :: st) h cn sn := bc_L rfl rfl
set_option maxRecDepth 20000 in
theorem st_X10_init_21 : bc d M_X10_init scr 21 [a0] st h cn sn = bc d M_X10_init scr 23 [a0] (.float (UInt32.ofNat 38) :: st) h cn sn := bc_ldc rfl rfl rfl
set_option maxRecDepth 20000 in
theorem st_X10_init_23 : bc d M_X10_init scr 23 [a0] st h cn sn = bM (px_rst kt_X.1.length 23 st h) (fun p s g => bc d M_X10_init scr p [a0] s g cn sn) := bc_M (en := (.aastore, 1, 0, 0, 0, .null)) rfl rfl rfl rfl rfl rfl px_I_as
set_option maxRecDepth 20000 in
theorem st_X10_init_24 : bc d M_X10_init scr 24 [a0] (.int x :: st) h cn sn = bc d M_X10_init scr 25 [a0] (.int x :: .int x :: st) h cn sn := bc_L rfl rfl
set_option maxRecDepth 20000 in
theorem st_X10_init_24r : bc d M_X10_init scr 24 [a0] (.ref p :: st) h cn sn = bc d M_X10_init scr 25 [a0] (.ref p :: .ref p :: st) h cn sn := bc_L rfl rfl
set_option maxRecDepth 20000 in
theorem st_X10_init_25 : bc d M_X10_init scr 25 [a0] st h cn sn = bc d M_X10_init scr 26 [a0] (.int 3 :: st) h cn sn := bc_L rfl rfl
set_option maxRecDepth 20000 in
theorem st_X10_init_26 : bc d M_X10_init scr 26 [a0] st h cn sn = bc d M_X10_init scr 28 [a0] (.float (UInt32.ofNat 39) :: st) h cn sn := bc_ldc rfl rfl rfl
set_option maxRecDepth 20000 in
theorem st_X10_init_28 : bc d M_X10_init scr 28 [a0] st h cn sn = bM (px_rst kt_X.1.length 28 st h) (fun p s g => bc d M_X10_init scr p [a0] s g cn sn) := bc_M (en := (.aastore, 1, 0, 0, 0, .null)) rfl rfl rfl rfl rfl rfl px_I_as
set_option maxRecDepth 20000 in
theorem st_X10_init_29 : bc d M_X10_init scr 29 [a0] st h cn sn = bM (px_put 10 0 (kt_ft 10 0) 29 st h) (fun p s g => bc d M_X10_init scr p [a0] s g cn sn) := bc_M (en := (.putfield 19, 3, 10, 0, 0, .null)) rfl rfl rfl rfl rfl rfl px_I_pf
set_option maxRecDepth 20000 in
theorem st_X10_init_32 : bc d M_X10_init scr 32 [some (.ref p)] st h cn sn = bc d M_X10_init scr 33 [some (.ref p)] (.ref p :: st) h cn sn := bc_lda1 rfl rfl
set_option maxRecDepth 20000 in
theorem st_X10_init_33 : bc d M_X10_init scr 33 [a0] st h cn sn = bc d M_X10_init scr 35 [a0] (.int 7 :: st) h cn sn := bc_L rfl rfl
set_option maxRecDepth 20000 in
theorem st_X10_init_38 : bc d M_X10_init scr 38 [a0] (.int x :: st) h cn sn = bc d M_X10_init scr 39 [a0] (.int x :: .int x :: st) h cn sn := bc_L rfl rfl
set_option maxRecDepth 20000 in
theorem st_X10_init_38r : bc d M_X10_init scr 38 [a0] (.ref p :: st) h cn sn = bc d M_X10_init scr 39 [a0] (.ref p :: .ref p :: st) h cn sn := bc_L rfl rfl
set_option maxRecDepth 20000 in
theorem st_X10_init_39 : bc d M_X10_init scr 39 [a0] st h cn sn = bc d M_X10_init scr 40 [a0] (.int 0 :: st) h cn sn := bc_L rfl rfl
set_option maxRecDepth 20000 in
theorem st_X10_init_40 : bc d M_X10_init scr 40 [a0] st h cn sn = bc d M_X10_init scr 42 [a0] (.float (UInt32.ofNat 40) :: st) h cn sn := bc_ldc rfl rfl rfl
set_option maxRecDepth 20000 in
theorem st_X10_init_42 : bc d M_X10_init scr 42 [a0] st h cn sn = bM (px_rst kt_X.1.length 42 st h) (fun p s g => bc d M_X10_init scr p [a0] s g cn sn) := bc_M (en := (.aastore, 1, 0, 0, 0, .null)) rfl rfl rfl rfl rfl rfl px_I_as
set_option maxRecDepth 20000 in
theorem st_X10_init_43 : bc d M_X10_init scr 43 [a0] (.int x :: st) h cn sn = bc d M_X10_init scr 44 [a0] (.int x :: .int x :: st) h cn sn := bc_L rfl rfl
set_option maxRecDepth 20000 in
theorem st_X10_init_43r : bc d M_X10_init scr 43 [a0] (.ref p :: st) h cn sn = bc d M_X10_init scr 44 [a0] (.ref p :: .ref p :: st) h cn sn := bc_L rfl rfl
set_option maxRecDepth 20000 in
theorem st_X10_init_44 : bc d M_X10_init scr 44 [a0] st h cn sn = bc d M_X10_init scr 45 [a0] (.int 1 :: st) h cn sn := bc_L rfl rfl
set_option maxRecDepth 20000 in
theorem st_X10_init_45 : bc d M_X10_init scr 45 [a0] st h cn sn = bc d M_X10_init scr 47 [a0] (.float (UInt32.ofNat 41) :: st) h cn sn := bc_ldc rfl rfl rfl
set_option maxRecDepth 20000 in
theorem st_X10_init_47 : bc d M_X10_init scr 47 [a0] st h cn sn = bM (px_rst kt_X.1.length 47 st h) (fun p s g => bc d M_X10_init scr p [a0] s g cn sn) := bc_M (en := (.aastore, 1, 0, 0, 0, .null)) rfl rfl rfl rfl rfl rfl px_I_as
set_option maxRecDepth 20000 in
theorem st_X10_init_48 : bc d M_X10_init scr 48 [a0] (.int x :: st) h cn sn = bc d M_X10_init scr 49 [a0] (.int x :: .int x :: st) h cn sn := bc_L rfl rfl
set_option maxRecDepth 20000 in
theorem st_X10_init_48r : bc d M_X10_init scr 48 [a0] (.ref p :: st) h cn sn = bc d M_X10_init scr 49 [a0] (.ref p :: .ref p :: st) h cn sn := bc_L rfl rfl
set_option maxRecDepth 20000 in
theorem st_X10_init_49 : bc d M_X10_init scr 49 [a0] st h cn sn = bc d M_X10_init scr 50 [a0] (.int 2 :: st) h cn sn := bc_L rfl rfl
set_option maxRecDepth 20000 in
theorem st_X10_init_50 : bc d M_X10_init scr 50 [a0] st h cn sn = bc d M_X10_init scr 52 [a0] (.float (UInt32.ofNat 42) :: st) h cn sn := bc_ldc rfl rfl rfl
set_option maxRecDepth 20000 in
theorem st_X10_init_52 : bc d M_X10_init scr 52 [a0] st h cn sn = bM (px_rst kt_X.1.length 52 st h) (fun p s g => bc d M_X10_init scr p [a0] s g cn sn) := bc_M (en := (.aastore, 1, 0, 0, 0, .null)) rfl rfl rfl rfl rfl rfl px_I_as
set_option maxRecDepth 20000 in
theorem st_X10_init_53 : bc d M_X10_init scr 53 [a0] (.int x :: st) h cn sn = bc d M_X10_init scr 54 [a0] (.int x :: .int x :: st) h cn sn := bc_L rfl rfl
set_option maxRecDepth 20000 in
theorem st_X10_init_53r : bc d M_X10_init scr 53 [a0] (.ref p :: st) h cn sn = bc d M_X10_init scr 54 [a0] (.ref p :: .ref p :: st) h cn sn := bc_L rfl rfl
set_option maxRecDepth 20000 in
theorem st_X10_init_54 : bc d M_X10_init scr 54 [a0] st h cn sn = bc d M_X10_init scr 55 [a0] (.int 3 :: st) h cn sn := bc_L rfl rfl
set_option maxRecDepth 20000 in
theorem st_X10_init_55 : bc d M_X10_init scr 55 [a0] st h cn sn = bc d M_X10_init scr 57 [a0] (.float (UInt32.ofNat 43) :: st) h cn sn := bc_ldc rfl rfl rfl
set_option maxRecDepth 20000 in
theorem st_X10_init_57 : bc d M_X10_init scr 57 [a0] st h cn sn = bM (px_rst kt_X.1.length 57 st h) (fun p s g => bc d M_X10_init scr p [a0] s g cn sn) := bc_M (en := (.aastore, 1, 0, 0, 0, .null)) rfl rfl rfl rfl rfl rfl px_I_as
set_option maxRecDepth 20000 in
theorem st_X10_init_58 : bc d M_X10_init scr 58 [a0] (.int x :: st) h cn sn = bc d M_X10_init scr 59 [a0] (.int x :: .int x :: st) h cn sn := bc_L rfl rfl
set_option maxRecDepth 20000 in
theorem st_X10_init_58r : bc d M_X10_init scr 58 [a0] (.ref p :: st) h cn sn = bc d M_X10_init scr 59 [a0] (.ref p :: .ref p :: st) h cn sn := bc_L rfl rfl
set_option maxRecDepth 20000 in
theorem st_X10_init_59 : bc d M_X10_init scr 59 [a0] st h cn sn = bc d M_X10_init scr 60 [a0] (.int 4 :: st) h cn sn := bc_L rfl rfl
set_option maxRecDepth 20000 in
theorem st_X10_init_60 : bc d M_X10_init scr 60 [a0] st h cn sn = bc d M_X10_init scr 62 [a0] (.float (UInt32.ofNat 44) :: st) h cn sn := bc_ldc rfl rfl rfl
set_option maxRecDepth 20000 in
theorem st_X10_init_62 : bc d M_X10_init scr 62 [a0] st h cn sn = bM (px_rst kt_X.1.length 62 st h) (fun p s g => bc d M_X10_init scr p [a0] s g cn sn) := bc_M (en := (.aastore, 1, 0, 0, 0, .null)) rfl rfl rfl rfl rfl rfl px_I_as
set_option maxRecDepth 20000 in
theorem st_X10_init_63 : bc d M_X10_init scr 63 [a0] (.int x :: st) h cn sn = bc d M_X10_init scr 64 [a0] (.int x :: .int x :: st) h cn sn := bc_L rfl rfl
set_option maxRecDepth 20000 in
theorem st_X10_init_63r : bc d M_X10_init scr 63 [a0] (.ref p :: st) h cn sn = bc d M_X10_init scr 64 [a0] (.ref p :: .ref p :: st) h cn sn := bc_L rfl rfl
set_option maxRecDepth 20000 in
theorem st_X10_init_64 : bc d M_X10_init scr 64 [a0] st h cn sn = bc d M_X10_init scr 65 [a0] (.int 5 :: st) h cn sn := bc_L rfl rfl
set_option maxRecDepth 20000 in
theorem st_X10_init_65 : bc d M_X10_init scr 65 [a0] st h cn sn = bc d M_X10_init scr 67 [a0] (.float (UInt32.ofNat 45) :: st) h cn sn := bc_ldc rfl rfl rfl
set_option maxRecDepth 20000 in
theorem st_X10_init_67 : bc d M_X10_init scr 67 [a0] st h cn sn = bM (px_rst kt_X.1.length 67 st h) (fun p s g => bc d M_X10_init scr p [a0] s g cn sn) := bc_M (en := (.aastore, 1, 0, 0, 0, .null)) rfl rfl rfl rfl rfl rfl px_I_as
set_option maxRecDepth 20000 in
theorem st_X10_init_68 : bc d M_X10_init scr 68 [a0] (.int x :: st) h cn sn = bc d M_X10_init scr 69 [a0] (.int x :: .int x :: st) h cn sn := bc_L rfl rfl
set_option maxRecDepth 20000 in
theorem st_X10_init_68r : bc d M_X10_init scr 68 [a0] (.ref p :: st) h cn sn = bc d M_X10_init scr 69 [a0] (.ref p :: .ref p :: st) h cn sn := bc_L rfl rfl
set_option maxRecDepth 20000 in
theorem st_X10_init_69 : bc d M_X10_init scr 69 [a0] st h cn sn = bc d M_X10_init scr 71 [a0] (.int 6 :: st) h cn sn := bc_L rfl rfl
set_option maxRecDepth 20000 in
theorem st_X10_init_71 : bc d M_X10_init scr 71 [a0] st h cn sn = bc d M_X10_init scr 73 [a0] (.float (UInt32.ofNat 46) :: st) h cn sn := bc_ldc rfl rfl rfl
set_option maxRecDepth 20000 in
theorem st_X10_init_73 : bc d M_X10_init scr 73 [a0] st h cn sn = bM (px_rst kt_X.1.length 73 st h) (fun p s g => bc d M_X10_init scr p [a0] s g cn sn) := bc_M (en := (.aastore, 1, 0, 0, 0, .null)) rfl rfl rfl rfl rfl rfl px_I_as
set_option maxRecDepth 20000 in
theorem st_X10_init_74 : bc d M_X10_init scr 74 [a0] st h cn sn = bM (px_put 10 1 (kt_ft 10 1) 74 st h) (fun p s g => bc d M_X10_init scr p [a0] s g cn sn) := bc_M (en := (.putfield 37, 3, 10, 1, 0, .null)) rfl rfl rfl rfl rfl rfl px_I_pf
set_option maxRecDepth 20000 in
theorem st_X10_init_77 : bc d M_X10_init scr 77 [some (.ref p)] st h cn sn = bc d M_X10_init scr 78 [some (.ref p)] (.ref p :: st) h cn sn := bc_lda1 rfl rfl
set_option maxRecDepth 20000 in
theorem st_X10_init_78 : bc d M_X10_init scr 78 [a0] st h cn sn = bc d M_X10_init scr 80 [a0] (.int 8 :: st) h cn sn := bc_L rfl rfl
set_option maxRecDepth 20000 in
theorem st_X10_init_82 : bc d M_X10_init scr 82 [a0] st h cn sn = bM (px_put 10 3 (kt_ft 10 3) 82 st h) (fun p s g => bc d M_X10_init scr p [a0] s g cn sn) := bc_M (en := (.putfield 40, 3, 10, 3, 0, .null)) rfl rfl rfl rfl rfl rfl px_I_pf
set_option maxRecDepth 20000 in
theorem st_X10_init_85 : bc d M_X10_init scr 85 [some (.ref p)] st h cn sn = bc d M_X10_init scr 86 [some (.ref p)] (.ref p :: st) h cn sn := bc_lda1 rfl rfl
set_option maxRecDepth 20000 in
theorem st_X10_init_86 : bc d M_X10_init scr 86 [a0] st h cn sn = bc d M_X10_init scr 88 [a0] (.int 16 :: st) h cn sn := bc_L rfl rfl
set_option maxRecDepth 20000 in
theorem st_X10_init_90 : bc d M_X10_init scr 90 [a0] st h cn sn = bM (px_put 10 4 (kt_ft 10 4) 90 st h) (fun p s g => bc d M_X10_init scr p [a0] s g cn sn) := bc_M (en := (.putfield 44, 3, 10, 4, 0, .null)) rfl rfl rfl rfl rfl rfl px_I_pf
set_option maxRecDepth 20000 in
theorem st_X10_init_93 : bc d M_X10_init scr 93 [some (.ref p)] st h cn sn = bc d M_X10_init scr 94 [some (.ref p)] (.ref p :: st) h cn sn := bc_lda1 rfl rfl
set_option maxRecDepth 20000 in
theorem st_X10_init_94 : bc d M_X10_init scr 94 [a0] st h cn sn = bc d M_X10_init scr 96 [a0] (.int 16 :: st) h cn sn := bc_L rfl rfl
set_option maxRecDepth 20000 in
theorem st_X10_init_98 : bc d M_X10_init scr 98 [a0] st h cn sn = bM (px_put 10 5 (kt_ft 10 5) 98 st h) (fun p s g => bc d M_X10_init scr p [a0] s g cn sn) := bc_M (en := (.putfield 47, 3, 10, 5, 0, .null)) rfl rfl rfl rfl rfl rfl px_I_pf
set_option maxRecDepth 20000 in
theorem st_X10_init_101 : bc d M_X10_init scr 101 [some (.ref p)] st h cn sn = bc d M_X10_init scr 102 [some (.ref p)] (.ref p :: st) h cn sn := bc_lda1 rfl rfl
set_option maxRecDepth 20000 in
theorem st_X10_init_102 : bc d M_X10_init scr 102 [a0] st h cn sn = bc d M_X10_init scr 104 [a0] (.int 16 :: st) h cn sn := bc_L rfl rfl
set_option maxRecDepth 20000 in
theorem st_X10_init_106 : bc d M_X10_init scr 106 [a0] st h cn sn = bM (px_put 10 6 (kt_ft 10 6) 106 st h) (fun p s g => bc d M_X10_init scr p [a0] s g cn sn) := bc_M (en := (.putfield 50, 3, 10, 6, 0, .null)) rfl rfl rfl rfl rfl rfl px_I_pf
set_option maxRecDepth 20000 in
theorem st_X10_init_109 : bc d M_X10_init scr 109 [some (.ref p)] st h cn sn = bc d M_X10_init scr 110 [some (.ref p)] (.ref p :: st) h cn sn := bc_lda1 rfl rfl
set_option maxRecDepth 20000 in
theorem st_X10_init_110 : bc d M_X10_init scr 110 [a0] st h cn sn = bc d M_X10_init scr 112 [a0] (.int 16 :: st) h cn sn := bc_L rfl rfl
set_option maxRecDepth 20000 in
theorem st_X10_init_114 : bc d M_X10_init scr 114 [a0] st h cn sn = bM (px_put 10 7 (kt_ft 10 7) 114 st h) (fun p s g => bc d M_X10_init scr p [a0] s g cn sn) := bc_M (en := (.putfield 53, 3, 10, 7, 0, .null)) rfl rfl rfl rfl rfl rfl px_I_pf
set_option maxRecDepth 20000 in
theorem st_X10_init_117 : bc d M_X10_init scr 117 [some (.ref p)] st h cn sn = bc d M_X10_init scr 118 [some (.ref p)] (.ref p :: st) h cn sn := bc_lda1 rfl rfl
set_option maxRecDepth 20000 in
theorem st_X10_init_118 : bc d M_X10_init scr 118 [a0] st h cn sn = bc d M_X10_init scr 120 [a0] (.int 16 :: st) h cn sn := bc_L rfl rfl
set_option maxRecDepth 20000 in
theorem st_X10_init_122 : bc d M_X10_init scr 122 [a0] st h cn sn = bM (px_put 10 8 (kt_ft 10 8) 122 st h) (fun p s g => bc d M_X10_init scr p [a0] s g cn sn) := bc_M (en := (.putfield 56, 3, 10, 8, 0, .null)) rfl rfl rfl rfl rfl rfl px_I_pf
set_option maxRecDepth 20000 in
theorem st_X10_init_125 : bc d M_X10_init scr 125 [some (.ref p)] st h cn sn = bc d M_X10_init scr 126 [some (.ref p)] (.ref p :: st) h cn sn := bc_lda1 rfl rfl
set_option maxRecDepth 20000 in
theorem st_X10_init_126 : bc d M_X10_init scr 126 [a0] st h cn sn = bc d M_X10_init scr 128 [a0] (.int 8 :: st) h cn sn := bc_L rfl rfl
set_option maxRecDepth 20000 in
theorem st_X10_init_130 : bc d M_X10_init scr 130 [a0] st h cn sn = bM (px_put 10 9 (kt_ft 10 9) 130 st h) (fun p s g => bc d M_X10_init scr p [a0] s g cn sn) := bc_M (en := (.putfield 59, 3, 10, 9, 0, .null)) rfl rfl rfl rfl rfl rfl px_I_pf
set_option maxRecDepth 20000 in
theorem st_X10_init_133 : bc d M_X10_init scr 133 [some (.ref p)] st h cn sn = bc d M_X10_init scr 134 [some (.ref p)] (.ref p :: st) h cn sn := bc_lda1 rfl rfl
set_option maxRecDepth 20000 in
theorem st_X10_init_134 : bc d M_X10_init scr 134 [a0] st h cn sn = bc d M_X10_init scr 136 [a0] (.int 10 :: st) h cn sn := bc_L rfl rfl
set_option maxRecDepth 20000 in
theorem st_X10_init_138 : bc d M_X10_init scr 138 [a0] st h cn sn = bM (px_put 10 10 (kt_ft 10 10) 138 st h) (fun p s g => bc d M_X10_init scr p [a0] s g cn sn) := bc_M (en := (.putfield 62, 3, 10, 10, 0, .null)) rfl rfl rfl rfl rfl rfl px_I_pf
set_option maxRecDepth 20000 in
theorem st_X10_init_141 : bc d M_X10_init scr 141 [some (.ref p)] st h cn sn = bc d M_X10_init scr 142 [some (.ref p)] (.ref p :: st) h cn sn := bc_lda1 rfl rfl
set_option maxRecDepth 20000 in
theorem st_X10_init_142 : bc d M_X10_init scr 142 [a0] st h cn sn = bc d M_X10_init scr 144 [a0] (.int 30 :: st) h cn sn := bc_L rfl rfl
set_option maxRecDepth 20000 in
theorem st_X10_init_146 : bc d M_X10_init scr 146 [a0] st h cn sn = bM (px_put 10 11 (kt_ft 10 11) 146 st h) (fun p s g => bc d M_X10_init scr p [a0] s g cn sn) := bc_M (en := (.putfield 65, 3, 10, 11, 0, .null)) rfl rfl rfl rfl rfl rfl px_I_pf
set_option maxRecDepth 20000 in
theorem st_X10_init_149 : bc d M_X10_init scr 149 [some (.ref p)] st h cn sn = bc d M_X10_init scr 150 [some (.ref p)] (.ref p :: st) h cn sn := bc_lda1 rfl rfl
set_option maxRecDepth 20000 in
theorem st_X10_init_150 : bc d M_X10_init scr 150 [a0] st h cn sn = bc d M_X10_init scr 153 [a0] (.int 1200 :: st) h cn sn := bc_L rfl rfl
set_option maxRecDepth 20000 in
theorem st_X10_init_155 : bc d M_X10_init scr 155 [a0] st h cn sn = bM (px_put 10 12 (kt_ft 10 12) 155 st h) (fun p s g => bc d M_X10_init scr p [a0] s g cn sn) := bc_M (en := (.putfield 68, 3, 10, 12, 0, .null)) rfl rfl rfl rfl rfl rfl px_I_pf
set_option maxRecDepth 20000 in
theorem st_X10_init_158 : bc d M_X10_init scr 158 [some (.ref p)] st h cn sn = bc d M_X10_init scr 159 [some (.ref p)] (.ref p :: st) h cn sn := bc_lda1 rfl rfl
set_option maxRecDepth 20000 in
theorem st_X10_init_159 : bc d M_X10_init scr 159 [a0] st h cn sn = bc d M_X10_init scr 160 [a0] (.int 3 :: st) h cn sn := bc_L rfl rfl
set_option maxRecDepth 20000 in
theorem st_X10_init_162 : bc d M_X10_init scr 162 [a0] st h cn sn = bM (px_put 10 13 (kt_ft 10 13) 162 st h) (fun p s g => bc d M_X10_init scr p [a0] s g cn sn) := bc_M (en := (.putfield 71, 3, 10, 13, 0, .null)) rfl rfl rfl rfl rfl rfl px_I_pf
set_option maxRecDepth 20000 in
theorem st_X10_init_165 : bc d M_X10_init scr 165 [some (.ref p)] st h cn sn = bc d M_X10_init scr 166 [some (.ref p)] (.ref p :: st) h cn sn := bc_lda1 rfl rfl
set_option maxRecDepth 20000 in
theorem st_X10_init_166 : bc d M_X10_init scr 166 [a0] st h cn sn = bc d M_X10_init scr 169 [a0] (.int 600 :: st) h cn sn := bc_L rfl rfl
set_option maxRecDepth 20000 in
theorem st_X10_init_171 : bc d M_X10_init scr 171 [a0] st h cn sn = bM (px_put 10 14 (kt_ft 10 14) 171 st h) (fun p s g => bc d M_X10_init scr p [a0] s g cn sn) := bc_M (en := (.putfield 74, 3, 10, 14, 0, .null)) rfl rfl rfl rfl rfl rfl px_I_pf
set_option maxRecDepth 20000 in
theorem st_X10_init_174 : bc d M_X10_init scr 174 [some (.ref p)] st h cn sn = bc d M_X10_init scr 175 [some (.ref p)] (.ref p :: st) h cn sn := bc_lda1 rfl rfl
set_option maxRecDepth 20000 in
theorem st_X10_init_175 : bc d M_X10_init scr 175 [a0] st h cn sn = bc d M_X10_init scr 176 [a0] (.int (-1) :: st) h cn sn := bc_L rfl rfl
set_option maxRecDepth 20000 in
theorem st_X10_init_176 : bc d M_X10_init scr 176 [a0] st h cn sn = bM (px_put 10 24 (kt_ft 10 24) 176 st h) (fun p s g => bc d M_X10_init scr p [a0] s g cn sn) := bc_M (en := (.putfield 77, 3, 10, 24, 0, .null)) rfl rfl rfl rfl rfl rfl px_I_pf
set_option maxRecDepth 20000 in
theorem st_X10_init_179 : bc d M_X10_init scr 179 [some (.ref p)] st h cn sn = bc d M_X10_init scr 180 [some (.ref p)] (.ref p :: st) h cn sn := bc_lda1 rfl rfl
set_option maxRecDepth 20000 in
theorem st_X10_init_180 : bc d M_X10_init scr 180 [a0] st h cn sn = bc d M_X10_init scr 182 [a0] (.int 8 :: st) h cn sn := bc_L rfl rfl
set_option maxRecDepth 20000 in
theorem st_X10_init_184 : bc d M_X10_init scr 184 [a0] st h cn sn = bM (px_put 10 25 (kt_ft 10 25) 184 st h) (fun p s g => bc d M_X10_init scr p [a0] s g cn sn) := bc_M (en := (.putfield 81, 3, 10, 25, 0, .null)) rfl rfl rfl rfl rfl rfl px_I_pf
set_option maxRecDepth 20000 in
theorem st_X10_init_187 : bc d M_X10_init scr 187 [some (.ref p)] st h cn sn = bc d M_X10_init scr 188 [some (.ref p)] (.ref p :: st) h cn sn := bc_lda1 rfl rfl
set_option maxRecDepth 20000 in
theorem st_X10_init_188 : bc d M_X10_init scr 188 [a0] st h cn sn = bc d M_X10_init scr 190 [a0] (.int 8 :: st) h cn sn := bc_L rfl rfl
set_option maxRecDepth 20000 in
theorem st_X10_init_192 : bc d M_X10_init scr 192 [a0] st h cn sn = bM (px_put 10 26 (kt_ft 10 26) 192 st h) (fun p s g => bc d M_X10_init scr p [a0] s g cn sn) := bc_M (en := (.putfield 84, 3, 10, 26, 0, .null)) rfl rfl rfl rfl rfl rfl px_I_pf
set_option maxRecDepth 20000 in
theorem st_X10_init_195 : bc d M_X10_init scr 195 [some (.ref p)] st h cn sn = bc d M_X10_init scr 196 [some (.ref p)] (.ref p :: st) h cn sn := bc_lda1 rfl rfl
set_option maxRecDepth 20000 in
theorem st_X10_init_196 : bc d M_X10_init scr 196 [a0] st h cn sn = bc d M_X10_init scr 198 [a0] (.int 8 :: st) h cn sn := bc_L rfl rfl
set_option maxRecDepth 20000 in
theorem st_X10_init_200 : bc d M_X10_init scr 200 [a0] st h cn sn = bM (px_put 10 27 (kt_ft 10 27) 200 st h) (fun p s g => bc d M_X10_init scr p [a0] s g cn sn) := bc_M (en := (.putfield 86, 3, 10, 27, 0, .null)) rfl rfl rfl rfl rfl rfl px_I_pf
set_option maxRecDepth 20000 in
theorem st_X10_init_203 : bc d M_X10_init scr 203 [some (.ref p)] st h cn sn = bc d M_X10_init scr 204 [some (.ref p)] (.ref p :: st) h cn sn := bc_lda1 rfl rfl
set_option maxRecDepth 20000 in
theorem st_X10_init_204 : bc d M_X10_init scr 204 [a0] st h cn sn = bc d M_X10_init scr 206 [a0] (.int 8 :: st) h cn sn := bc_L rfl rfl
set_option maxRecDepth 20000 in
theorem st_X10_init_208 : bc d M_X10_init scr 208 [a0] st h cn sn = bM (px_put 10 28 (kt_ft 10 28) 208 st h) (fun p s g => bc d M_X10_init scr p [a0] s g cn sn) := bc_M (en := (.putfield 88, 3, 10, 28, 0, .null)) rfl rfl rfl rfl rfl rfl px_I_pf
set_option maxRecDepth 20000 in
theorem st_X10_init_211 : bc d M_X10_init scr 211 [some (.ref p)] st h cn sn = bc d M_X10_init scr 212 [some (.ref p)] (.ref p :: st) h cn sn := bc_lda1 rfl rfl
set_option maxRecDepth 20000 in
theorem st_X10_init_212 : bc d M_X10_init scr 212 [a0] st h cn sn = bc d M_X10_init scr 214 [a0] (.int 8 :: st) h cn sn := bc_L rfl rfl
set_option maxRecDepth 20000 in
theorem st_X10_init_216 : bc d M_X10_init scr 216 [a0] st h cn sn = bM (px_put 10 29 (kt_ft 10 29) 216 st h) (fun p s g => bc d M_X10_init scr p [a0] s g cn sn) := bc_M (en := (.putfield 90, 3, 10, 29, 0, .null)) rfl rfl rfl rfl rfl rfl px_I_pf
set_option maxRecDepth 20000 in
theorem st_X10_init_219 : bc d M_X10_init scr 219 [some (.ref p)] st h cn sn = bc d M_X10_init scr 220 [some (.ref p)] (.ref p :: st) h cn sn := bc_lda1 rfl rfl
set_option maxRecDepth 20000 in
theorem st_X10_init_220 : bc d M_X10_init scr 220 [a0] st h cn sn = bc d M_X10_init scr 222 [a0] (.int 8 :: st) h cn sn := bc_L rfl rfl
set_option maxRecDepth 20000 in
theorem st_X10_init_224 : bc d M_X10_init scr 224 [a0] st h cn sn = bM (px_put 10 30 (kt_ft 10 30) 224 st h) (fun p s g => bc d M_X10_init scr p [a0] s g cn sn) := bc_M (en := (.putfield 92, 3, 10, 30, 0, .null)) rfl rfl rfl rfl rfl rfl px_I_pf
set_option maxRecDepth 20000 in
theorem st_X10_init_227 : bc d M_X10_init scr 227 [some (.ref p)] st h cn sn = bc d M_X10_init scr 228 [some (.ref p)] (.ref p :: st) h cn sn := bc_lda1 rfl rfl
set_option maxRecDepth 20000 in
theorem st_X10_init_228 : bc d M_X10_init scr 228 [a0] st h cn sn = bc d M_X10_init scr 229 [a0] (.int 5 :: st) h cn sn := bc_L rfl rfl
set_option maxRecDepth 20000 in
theorem st_X10_init_231 : bc d M_X10_init scr 231 [a0] st h cn sn = bM (px_put 10 31 (kt_ft 10 31) 231 st h) (fun p s g => bc d M_X10_init scr p [a0] s g cn sn) := bc_M (en := (.putfield 94, 3, 10, 31, 0, .null)) rfl rfl rfl rfl rfl rfl px_I_pf
set_option maxRecDepth 20000 in
theorem st_X10_init_234 : bc d M_X10_init scr 234 [some (.ref p)] st h cn sn = bc d M_X10_init scr 235 [some (.ref p)] (.ref p :: st) h cn sn := bc_lda1 rfl rfl
set_option maxRecDepth 20000 in
theorem st_X10_init_235 : bc d M_X10_init scr 235 [a0] st h cn sn = bc d M_X10_init scr 238 [a0] (.int 2160 :: st) h cn sn := bc_L rfl rfl
set_option maxRecDepth 20000 in
theorem st_X10_init_240 : bc d M_X10_init scr 240 [a0] st h cn sn = bM (px_put 10 32 (kt_ft 10 32) 240 st h) (fun p s g => bc d M_X10_init scr p [a0] s g cn sn) := bc_M (en := (.putfield 97, 3, 10, 32, 0, .null)) rfl rfl rfl rfl rfl rfl px_I_pf
set_option maxRecDepth 20000 in
theorem st_X10_init_243 : bc d M_X10_init scr 243 [some (.ref p)] st h cn sn = bc d M_X10_init scr 244 [some (.ref p)] (.ref p :: st) h cn sn := bc_lda1 rfl rfl
set_option maxRecDepth 20000 in
theorem st_X10_init_244 : bc d M_X10_init scr 244 [a0] st h cn sn = bc d M_X10_init scr 246 [a0] (.int 7 :: st) h cn sn := bc_L rfl rfl
set_option maxRecDepth 20000 in
theorem st_X10_init_248 : bc d M_X10_init scr 248 [a0] st h cn sn = bM (px_put 10 36 (kt_ft 10 36) 248 st h) (fun p s g => bc d M_X10_init scr p [a0] s g cn sn) := bc_M (en := (.putfield 100, 3, 10, 36, 0, .null)) rfl rfl rfl rfl rfl rfl px_I_pf
set_option maxRecDepth 20000 in
theorem st_X10_init_251 : bc d M_X10_init scr 251 [some (.ref p)] st h cn sn = bc d M_X10_init scr 252 [some (.ref p)] (.ref p :: st) h cn sn := bc_lda1 rfl rfl
set_option maxRecDepth 20000 in
theorem st_X10_init_252 : bc d M_X10_init scr 252 [a0] st h cn sn = bc d M_X10_init scr 254 [a0] (.int 64 :: st) h cn sn := bc_L rfl rfl
set_option maxRecDepth 20000 in
theorem st_X10_init_256 : bc d M_X10_init scr 256 [a0] st h cn sn = bM (px_put 10 37 (kt_ft 10 37) 256 st h) (fun p s g => bc d M_X10_init scr p [a0] s g cn sn) := bc_M (en := (.putfield 103, 3, 10, 37, 0, .null)) rfl rfl rfl rfl rfl rfl px_I_pf
set_option maxRecDepth 20000 in
theorem st_X10_init_259 : bc d M_X10_init scr 259 [some (.ref p)] st h cn sn = bc d M_X10_init scr 260 [some (.ref p)] (.ref p :: st) h cn sn := bc_lda1 rfl rfl
set_option maxRecDepth 20000 in
theorem st_X10_init_260 : bc d M_X10_init scr 260 [a0] st h cn sn = bc d M_X10_init scr 262 [a0] (.int 54 :: st) h cn sn := bc_L rfl rfl
set_option maxRecDepth 20000 in
theorem st_X10_init_264 : bc d M_X10_init scr 264 [a0] st h cn sn = bM (px_put 10 38 (kt_ft 10 38) 264 st h) (fun p s g => bc d M_X10_init scr p [a0] s g cn sn) := bc_M (en := (.putfield 106, 3, 10, 38, 0, .null)) rfl rfl rfl rfl rfl rfl px_I_pf
set_option maxRecDepth 20000 in
theorem st_X10_init_267 : bc d M_X10_init scr 267 [some (.ref p)] st h cn sn = bc d M_X10_init scr 268 [some (.ref p)] (.ref p :: st) h cn sn := bc_lda1 rfl rfl
set_option maxRecDepth 20000 in
theorem st_X10_init_268 : bc d M_X10_init scr 268 [a0] st h cn sn = bc d M_X10_init scr 269 [a0] (.int 4 :: st) h cn sn := bc_L rfl rfl
set_option maxRecDepth 20000 in
theorem st_X10_init_271 : bc d M_X10_init scr 271 [a0] st h cn sn = bM (px_put 10 39 (kt_ft 10 39) 271 st h) (fun p s g => bc d M_X10_init scr p [a0] s g cn sn) := bc_M (en := (.putfield 109, 3, 10, 39, 0, .null)) rfl rfl rfl rfl rfl rfl px_I_pf
set_option maxRecDepth 20000 in
theorem st_X10_init_274 : bc d M_X10_init scr 274 [some (.ref p)] st h cn sn = bc d M_X10_init scr 275 [some (.ref p)] (.ref p :: st) h cn sn := bc_lda1 rfl rfl
set_option maxRecDepth 20000 in
theorem st_X10_init_275 : bc d M_X10_init scr 275 [a0] st h cn sn = bc d M_X10_init scr 276 [a0] (.int 4 :: st) h cn sn := bc_L rfl rfl
set_option maxRecDepth 20000 in
theorem st_X10_init_278 : bc d M_X10_init scr 278 [a0] st h cn sn = bM (px_put 10 40 (kt_ft 10 40) 278 st h) (fun p s g => bc d M_X10_init scr p [a0] s g cn sn) := bc_M (en := (.putfield 112, 3, 10, 40, 0, .null)) rfl rfl rfl rfl rfl rfl px_I_pf
set_option maxRecDepth 20000 in
theorem st_X10_init_281 : bc d M_X10_init scr 281 [some (.ref p)] st h cn sn = bc d M_X10_init scr 282 [some (.ref p)] (.ref p :: st) h cn sn := bc_lda1 rfl rfl
set_option maxRecDepth 20000 in
theorem st_X10_init_282 : bc d M_X10_init scr 282 [a0] st h cn sn = bc d M_X10_init scr 284 [a0] (.int 54 :: st) h cn sn := bc_L rfl rfl
set_option maxRecDepth 20000 in
theorem st_X10_init_286 : bc d M_X10_init scr 286 [a0] st h cn sn = bM (px_put 10 41 (kt_ft 10 41) 286 st h) (fun p s g => bc d M_X10_init scr p [a0] s g cn sn) := bc_M (en := (.putfield 115, 3, 10, 41, 0, .null)) rfl rfl rfl rfl rfl rfl px_I_pf
set_option maxRecDepth 20000 in
theorem st_X10_init_289 : bc d M_X10_init scr 289 [some (.ref p)] st h cn sn = bc d M_X10_init scr 290 [some (.ref p)] (.ref p :: st) h cn sn := bc_lda1 rfl rfl
set_option maxRecDepth 20000 in
theorem st_X10_init_290 : bc d M_X10_init scr 290 [a0] st h cn sn = bc d M_X10_init scr 292 [a0] (.int 8 :: st) h cn sn := bc_L rfl rfl
set_option maxRecDepth 20000 in
theorem st_X10_init_294 : bc d M_X10_init scr 294 [a0] st h cn sn = bM (px_put 10 43 (kt_ft 10 43) 294 st h) (fun p s g => bc d M_X10_init scr p [a0] s g cn sn) := bc_M (en := (.putfield 118, 3, 10, 43, 0, .null)) rfl rfl rfl rfl rfl rfl px_I_pf
set_option maxRecDepth 20000 in
theorem st_X10_init_297 : bc d M_X10_init scr 297 [some (.ref p)] st h cn sn = bc d M_X10_init scr 298 [some (.ref p)] (.ref p :: st) h cn sn := bc_lda1 rfl rfl
set_option maxRecDepth 20000 in
theorem st_X10_init_298 : bc d M_X10_init scr 298 [a0] st h cn sn = bc d M_X10_init scr 300 [a0] (.int 8 :: st) h cn sn := bc_L rfl rfl
set_option maxRecDepth 20000 in
theorem st_X10_init_302 : bc d M_X10_init scr 302 [a0] st h cn sn = bM (px_put 10 44 (kt_ft 10 44) 302 st h) (fun p s g => bc d M_X10_init scr p [a0] s g cn sn) := bc_M (en := (.putfield 121, 3, 10, 44, 0, .null)) rfl rfl rfl rfl rfl rfl px_I_pf
set_option maxRecDepth 20000 in
theorem st_X10_init_305 : bc d M_X10_init scr 305 [some (.ref p)] st h cn sn = bc d M_X10_init scr 306 [some (.ref p)] (.ref p :: st) h cn sn := bc_lda1 rfl rfl
set_option maxRecDepth 20000 in
theorem st_X10_init_306 : bc d M_X10_init scr 306 [a0] st h cn sn = bc d M_X10_init scr 308 [a0] (.int 54 :: st) h cn sn := bc_L rfl rfl
set_option maxRecDepth 20000 in
theorem st_X10_init_310 : bc d M_X10_init scr 310 [a0] st h cn sn = bM (px_put 10 45 (kt_ft 10 45) 310 st h) (fun p s g => bc d M_X10_init scr p [a0] s g cn sn) := bc_M (en := (.putfield 124, 3, 10, 45, 0, .null)) rfl rfl rfl rfl rfl rfl px_I_pf
set_option maxRecDepth 20000 in
theorem st_X10_init_313 : bc d M_X10_init scr 313 [some (.ref p)] st h cn sn = bc d M_X10_init scr 314 [some (.ref p)] (.ref p :: st) h cn sn := bc_lda1 rfl rfl
set_option maxRecDepth 20000 in
theorem st_X10_init_314 : bc d M_X10_init scr 314 [a0] st h cn sn = bc d M_X10_init scr 316 [a0] (.int 80 :: st) h cn sn := bc_L rfl rfl
set_option maxRecDepth 20000 in
theorem st_X10_init_318 : bc d M_X10_init scr 318 [a0] st h cn sn = bM (px_put 10 46 (kt_ft 10 46) 318 st h) (fun p s g => bc d M_X10_init scr p [a0] s g cn sn) := bc_M (en := (.putfield 127, 3, 10, 46, 0, .null)) rfl rfl rfl rfl rfl rfl px_I_pf
set_option maxRecDepth 20000 in
theorem st_X10_init_321 : bc d M_X10_init scr 321 [some (.ref p)] st h cn sn = bc d M_X10_init scr 322 [some (.ref p)] (.ref p :: st) h cn sn := bc_lda1 rfl rfl
set_option maxRecDepth 20000 in
theorem st_X10_init_322 : bc d M_X10_init scr 322 [a0] st h cn sn = bc d M_X10_init scr 325 [a0] (.int 4800 :: st) h cn sn := bc_L rfl rfl
set_option maxRecDepth 20000 in
theorem st_X10_init_327 : bc d M_X10_init scr 327 [a0] st h cn sn = bM (px_put 10 48 (kt_ft 10 48) 327 st h) (fun p s g => bc d M_X10_init scr p [a0] s g cn sn) := bc_M (en := (.putfield 130, 3, 10, 48, 0, .null)) rfl rfl rfl rfl rfl rfl px_I_pf
set_option maxRecDepth 20000 in
theorem st_X10_init_330 : bc d M_X10_init scr 330 [some (.ref p)] st h cn sn = bc d M_X10_init scr 331 [some (.ref p)] (.ref p :: st) h cn sn := bc_lda1 rfl rfl
set_option maxRecDepth 20000 in
theorem st_X10_init_331 : bc d M_X10_init scr 331 [a0] st h cn sn = bc d M_X10_init scr 333 [a0] (.int 54 :: st) h cn sn := bc_L rfl rfl
set_option maxRecDepth 20000 in
theorem st_X10_init_335 : bc d M_X10_init scr 335 [a0] st h cn sn = bM (px_put 10 53 (kt_ft 10 53) 335 st h) (fun p s g => bc d M_X10_init scr p [a0] s g cn sn) := bc_M (en := (.putfield 134, 3, 10, 53, 0, .null)) rfl rfl rfl rfl rfl rfl px_I_pf
set_option maxRecDepth 20000 in
theorem st_X10_init_338 : bc d M_X10_init scr 338 [some (.ref p)] st h cn sn = bc d M_X10_init scr 339 [some (.ref p)] (.ref p :: st) h cn sn := bc_lda1 rfl rfl
set_option maxRecDepth 20000 in
theorem st_X10_init_339 : bc d M_X10_init scr 339 [a0] st h cn sn = bc d M_X10_init scr 342 [a0] (.int 2160 :: st) h cn sn := bc_L rfl rfl
set_option maxRecDepth 20000 in
theorem st_X10_init_344 : bc d M_X10_init scr 344 [a0] st h cn sn = bM (px_put 10 54 (kt_ft 10 54) 344 st h) (fun p s g => bc d M_X10_init scr p [a0] s g cn sn) := bc_M (en := (.putfield 137, 3, 10, 54, 0, .null)) rfl rfl rfl rfl rfl rfl px_I_pf
set_option maxRecDepth 20000 in
theorem st_X10_init_347 : bc d M_X10_init scr 347 [some (.ref p)] st h cn sn = bc d M_X10_init scr 348 [some (.ref p)] (.ref p :: st) h cn sn := bc_lda1 rfl rfl
set_option maxRecDepth 20000 in
theorem st_X10_init_348 : bc d M_X10_init scr 348 [a0] st h cn sn = bc d M_X10_init scr 350 [a0] (.int 8 :: st) h cn sn := bc_L rfl rfl
set_option maxRecDepth 20000 in
theorem st_X10_init_352 : bc d M_X10_init scr 352 [a0] st h cn sn = bM (px_put 10 55 (kt_ft 10 55) 352 st h) (fun p s g => bc d M_X10_init scr p [a0] s g cn sn) := bc_M (en := (.putfield 140, 3, 10, 55, 0, .null)) rfl rfl rfl rfl rfl rfl px_I_pf
set_option maxRecDepth 20000 in
theorem st_X10_init_355 : bc d M_X10_init scr 355 [some (.ref p)] st h cn sn = bc d M_X10_init scr 356 [some (.ref p)] (.ref p :: st) h cn sn := bc_lda1 rfl rfl
set_option maxRecDepth 20000 in
theorem st_X10_init_356 : bc d M_X10_init scr 356 [a0] st h cn sn = bc d M_X10_init scr 358 [a0] (.int 8 :: st) h cn sn := bc_L rfl rfl
set_option maxRecDepth 20000 in
theorem st_X10_init_360 : bc d M_X10_init scr 360 [a0] st h cn sn = bM (px_put 10 56 (kt_ft 10 56) 360 st h) (fun p s g => bc d M_X10_init scr p [a0] s g cn sn) := bc_M (en := (.putfield 143, 3, 10, 56, 0, .null)) rfl rfl rfl rfl rfl rfl px_I_pf
set_option maxRecDepth 20000 in
theorem st_X10_init_363 : bc d M_X10_init scr 363 [some (.ref p)] st h cn sn = bc d M_X10_init scr 364 [some (.ref p)] (.ref p :: st) h cn sn := bc_lda1 rfl rfl
set_option maxRecDepth 20000 in
theorem st_X10_init_364 : bc d M_X10_init scr 364 [a0] st h cn sn = bc d M_X10_init scr 365 [a0] (.int 3 :: st) h cn sn := bc_L rfl rfl
set_option maxRecDepth 20000 in
theorem st_X10_init_367 : bc d M_X10_init scr 367 [a0] st h cn sn = bM (px_put 10 57 (kt_ft 10 57) 367 st h) (fun p s g => bc d M_X10_init scr p [a0] s g cn sn) := bc_M (en := (.putfield 146, 3, 10, 57, 0, .null)) rfl rfl rfl rfl rfl rfl px_I_pf
set_option maxRecDepth 20000 in
theorem st_X10_init_370 : bc d M_X10_init scr 370 [a0] [] h cn sn = some (.inl none, h, cn, sn) := bc_E rfl rfl rfl rfl rfl rfl rfl
set_option maxRecDepth 20000 in
theorem st_X10_init_1 : bc d M_X10_init scr 1 [a0] st h cn sn = bP (px_init d st h) (fun s g => bc d M_X10_init scr 4 [a0] s g cn sn) := bc_P (en := (.invokespecial 3, 3, 1000, 0, 0, .null)) rfl rfl rfl rfl rfl rfl px_I_1000
set_option maxRecDepth 20000 in
theorem st_X10_init_6 (hn : (!decide (x < 0) && Nat.ble x.toNatClampNeg 1000000) = true) : bc d M_X10_init scr 6 [a0] (.int x :: st) h cn sn = bc d M_X10_init scr 9 [a0] (.ref h.length :: st) (h ++ [px_arr 3 x.toNatClampNeg]) (cn + 1) (sn + x.toNatClampNeg) := bc_N (en := (.anewarray 9, 3, 3, 0, 0, .null)) (q := (3, st, px_arr 3 x.toNatClampNeg, x.toNatClampNeg)) rfl rfl rfl rfl rfl (by show (bif (!decide (x < 0) && Nat.ble x.toNatClampNeg 1000000) then _ else none) = _; rw [hn]; rfl)
set_option maxRecDepth 20000 in
theorem st_X10_init_35 (hn : (!decide (x < 0) && Nat.ble x.toNatClampNeg 1000000) = true) : bc d M_X10_init scr 35 [a0] (.int x :: st) h cn sn = bc d M_X10_init scr 38 [a0] (.ref h.length :: st) (h ++ [px_arr 3 x.toNatClampNeg]) (cn + 1) (sn + x.toNatClampNeg) := bc_N (en := (.anewarray 9, 3, 3, 0, 0, .null)) (q := (3, st, px_arr 3 x.toNatClampNeg, x.toNatClampNeg)) rfl rfl rfl rfl rfl (by show (bif (!decide (x < 0) && Nat.ble x.toNatClampNeg 1000000) then _ else none) = _; rw [hn]; rfl)
set_option maxRecDepth 20000 in
theorem st_X10_init_80 (hn : (!decide (x < 0) && Nat.ble x.toNatClampNeg 1000000) = true) : bc d M_X10_init scr 80 [a0] (.int x :: st) h cn sn = bc d M_X10_init scr 82 [a0] (.ref h.length :: st) (h ++ [px_arr 0 x.toNatClampNeg]) (cn + 1) (sn + x.toNatClampNeg) := bc_N (en := (.newarray .int, 2, 0, 0, 0, .null)) (q := (2, st, px_arr 0 x.toNatClampNeg, x.toNatClampNeg)) rfl rfl rfl rfl rfl (by show (bif (!decide (x < 0) && Nat.ble x.toNatClampNeg 1000000) then _ else none) = _; rw [hn]; rfl)
set_option maxRecDepth 20000 in
theorem st_X10_init_88 (hn : (!decide (x < 0) && Nat.ble x.toNatClampNeg 1000000) = true) : bc d M_X10_init scr 88 [a0] (.int x :: st) h cn sn = bc d M_X10_init scr 90 [a0] (.ref h.length :: st) (h ++ [px_arr 0 x.toNatClampNeg]) (cn + 1) (sn + x.toNatClampNeg) := bc_N (en := (.newarray .int, 2, 0, 0, 0, .null)) (q := (2, st, px_arr 0 x.toNatClampNeg, x.toNatClampNeg)) rfl rfl rfl rfl rfl (by show (bif (!decide (x < 0) && Nat.ble x.toNatClampNeg 1000000) then _ else none) = _; rw [hn]; rfl)
set_option maxRecDepth 20000 in
theorem st_X10_init_96 (hn : (!decide (x < 0) && Nat.ble x.toNatClampNeg 1000000) = true) : bc d M_X10_init scr 96 [a0] (.int x :: st) h cn sn = bc d M_X10_init scr 98 [a0] (.ref h.length :: st) (h ++ [px_arr 0 x.toNatClampNeg]) (cn + 1) (sn + x.toNatClampNeg) := bc_N (en := (.newarray .int, 2, 0, 0, 0, .null)) (q := (2, st, px_arr 0 x.toNatClampNeg, x.toNatClampNeg)) rfl rfl rfl rfl rfl (by show (bif (!decide (x < 0) && Nat.ble x.toNatClampNeg 1000000) then _ else none) = _; rw [hn]; rfl)
set_option maxRecDepth 20000 in
theorem st_X10_init_104 (hn : (!decide (x < 0) && Nat.ble x.toNatClampNeg 1000000) = true) : bc d M_X10_init scr 104 [a0] (.int x :: st) h cn sn = bc d M_X10_init scr 106 [a0] (.ref h.length :: st) (h ++ [px_arr 0 x.toNatClampNeg]) (cn + 1) (sn + x.toNatClampNeg) := bc_N (en := (.newarray .int, 2, 0, 0, 0, .null)) (q := (2, st, px_arr 0 x.toNatClampNeg, x.toNatClampNeg)) rfl rfl rfl rfl rfl (by show (bif (!decide (x < 0) && Nat.ble x.toNatClampNeg 1000000) then _ else none) = _; rw [hn]; rfl)
set_option maxRecDepth 20000 in
theorem st_X10_init_112 (hn : (!decide (x < 0) && Nat.ble x.toNatClampNeg 1000000) = true) : bc d M_X10_init scr 112 [a0] (.int x :: st) h cn sn = bc d M_X10_init scr 114 [a0] (.ref h.length :: st) (h ++ [px_arr 0 x.toNatClampNeg]) (cn + 1) (sn + x.toNatClampNeg) := bc_N (en := (.newarray .int, 2, 0, 0, 0, .null)) (q := (2, st, px_arr 0 x.toNatClampNeg, x.toNatClampNeg)) rfl rfl rfl rfl rfl (by show (bif (!decide (x < 0) && Nat.ble x.toNatClampNeg 1000000) then _ else none) = _; rw [hn]; rfl)
set_option maxRecDepth 20000 in
theorem st_X10_init_120 (hn : (!decide (x < 0) && Nat.ble x.toNatClampNeg 1000000) = true) : bc d M_X10_init scr 120 [a0] (.int x :: st) h cn sn = bc d M_X10_init scr 122 [a0] (.ref h.length :: st) (h ++ [px_arr 0 x.toNatClampNeg]) (cn + 1) (sn + x.toNatClampNeg) := bc_N (en := (.newarray .int, 2, 0, 0, 0, .null)) (q := (2, st, px_arr 0 x.toNatClampNeg, x.toNatClampNeg)) rfl rfl rfl rfl rfl (by show (bif (!decide (x < 0) && Nat.ble x.toNatClampNeg 1000000) then _ else none) = _; rw [hn]; rfl)
set_option maxRecDepth 20000 in
theorem st_X10_init_128 (hn : (!decide (x < 0) && Nat.ble x.toNatClampNeg 1000000) = true) : bc d M_X10_init scr 128 [a0] (.int x :: st) h cn sn = bc d M_X10_init scr 130 [a0] (.ref h.length :: st) (h ++ [px_arr 0 x.toNatClampNeg]) (cn + 1) (sn + x.toNatClampNeg) := bc_N (en := (.newarray .int, 2, 0, 0, 0, .null)) (q := (2, st, px_arr 0 x.toNatClampNeg, x.toNatClampNeg)) rfl rfl rfl rfl rfl (by show (bif (!decide (x < 0) && Nat.ble x.toNatClampNeg 1000000) then _ else none) = _; rw [hn]; rfl)
set_option maxRecDepth 20000 in
theorem st_X10_init_136 (hn : (!decide (x < 0) && Nat.ble x.toNatClampNeg 1000000) = true) : bc d M_X10_init scr 136 [a0] (.int x :: st) h cn sn = bc d M_X10_init scr 138 [a0] (.ref h.length :: st) (h ++ [px_arr 0 x.toNatClampNeg]) (cn + 1) (sn + x.toNatClampNeg) := bc_N (en := (.newarray .int, 2, 0, 0, 0, .null)) (q := (2, st, px_arr 0 x.toNatClampNeg, x.toNatClampNeg)) rfl rfl rfl rfl rfl (by show (bif (!decide (x < 0) && Nat.ble x.toNatClampNeg 1000000) then _ else none) = _; rw [hn]; rfl)
set_option maxRecDepth 20000 in
theorem st_X10_init_144 (hn : (!decide (x < 0) && Nat.ble x.toNatClampNeg 1000000) = true) : bc d M_X10_init scr 144 [a0] (.int x :: st) h cn sn = bc d M_X10_init scr 146 [a0] (.ref h.length :: st) (h ++ [px_arr 0 x.toNatClampNeg]) (cn + 1) (sn + x.toNatClampNeg) := bc_N (en := (.newarray .int, 2, 0, 0, 0, .null)) (q := (2, st, px_arr 0 x.toNatClampNeg, x.toNatClampNeg)) rfl rfl rfl rfl rfl (by show (bif (!decide (x < 0) && Nat.ble x.toNatClampNeg 1000000) then _ else none) = _; rw [hn]; rfl)
set_option maxRecDepth 20000 in
theorem st_X10_init_153 (hn : (!decide (x < 0) && Nat.ble x.toNatClampNeg 1000000) = true) : bc d M_X10_init scr 153 [a0] (.int x :: st) h cn sn = bc d M_X10_init scr 155 [a0] (.ref h.length :: st) (h ++ [px_arr 0 x.toNatClampNeg]) (cn + 1) (sn + x.toNatClampNeg) := bc_N (en := (.newarray .int, 2, 0, 0, 0, .null)) (q := (2, st, px_arr 0 x.toNatClampNeg, x.toNatClampNeg)) rfl rfl rfl rfl rfl (by show (bif (!decide (x < 0) && Nat.ble x.toNatClampNeg 1000000) then _ else none) = _; rw [hn]; rfl)
set_option maxRecDepth 20000 in
theorem st_X10_init_160 (hn : (!decide (x < 0) && Nat.ble x.toNatClampNeg 1000000) = true) : bc d M_X10_init scr 160 [a0] (.int x :: st) h cn sn = bc d M_X10_init scr 162 [a0] (.ref h.length :: st) (h ++ [px_arr 0 x.toNatClampNeg]) (cn + 1) (sn + x.toNatClampNeg) := bc_N (en := (.newarray .int, 2, 0, 0, 0, .null)) (q := (2, st, px_arr 0 x.toNatClampNeg, x.toNatClampNeg)) rfl rfl rfl rfl rfl (by show (bif (!decide (x < 0) && Nat.ble x.toNatClampNeg 1000000) then _ else none) = _; rw [hn]; rfl)
set_option maxRecDepth 20000 in
theorem st_X10_init_169 (hn : (!decide (x < 0) && Nat.ble x.toNatClampNeg 1000000) = true) : bc d M_X10_init scr 169 [a0] (.int x :: st) h cn sn = bc d M_X10_init scr 171 [a0] (.ref h.length :: st) (h ++ [px_arr 0 x.toNatClampNeg]) (cn + 1) (sn + x.toNatClampNeg) := bc_N (en := (.newarray .int, 2, 0, 0, 0, .null)) (q := (2, st, px_arr 0 x.toNatClampNeg, x.toNatClampNeg)) rfl rfl rfl rfl rfl (by show (bif (!decide (x < 0) && Nat.ble x.toNatClampNeg 1000000) then _ else none) = _; rw [hn]; rfl)
set_option maxRecDepth 20000 in
theorem st_X10_init_182 (hn : (!decide (x < 0) && Nat.ble x.toNatClampNeg 1000000) = true) : bc d M_X10_init scr 182 [a0] (.int x :: st) h cn sn = bc d M_X10_init scr 184 [a0] (.ref h.length :: st) (h ++ [px_arr 0 x.toNatClampNeg]) (cn + 1) (sn + x.toNatClampNeg) := bc_N (en := (.newarray .int, 2, 0, 0, 0, .null)) (q := (2, st, px_arr 0 x.toNatClampNeg, x.toNatClampNeg)) rfl rfl rfl rfl rfl (by show (bif (!decide (x < 0) && Nat.ble x.toNatClampNeg 1000000) then _ else none) = _; rw [hn]; rfl)
set_option maxRecDepth 20000 in
theorem st_X10_init_190 (hn : (!decide (x < 0) && Nat.ble x.toNatClampNeg 1000000) = true) : bc d M_X10_init scr 190 [a0] (.int x :: st) h cn sn = bc d M_X10_init scr 192 [a0] (.ref h.length :: st) (h ++ [px_arr 0 x.toNatClampNeg]) (cn + 1) (sn + x.toNatClampNeg) := bc_N (en := (.newarray .int, 2, 0, 0, 0, .null)) (q := (2, st, px_arr 0 x.toNatClampNeg, x.toNatClampNeg)) rfl rfl rfl rfl rfl (by show (bif (!decide (x < 0) && Nat.ble x.toNatClampNeg 1000000) then _ else none) = _; rw [hn]; rfl)
set_option maxRecDepth 20000 in
theorem st_X10_init_198 (hn : (!decide (x < 0) && Nat.ble x.toNatClampNeg 1000000) = true) : bc d M_X10_init scr 198 [a0] (.int x :: st) h cn sn = bc d M_X10_init scr 200 [a0] (.ref h.length :: st) (h ++ [px_arr 0 x.toNatClampNeg]) (cn + 1) (sn + x.toNatClampNeg) := bc_N (en := (.newarray .int, 2, 0, 0, 0, .null)) (q := (2, st, px_arr 0 x.toNatClampNeg, x.toNatClampNeg)) rfl rfl rfl rfl rfl (by show (bif (!decide (x < 0) && Nat.ble x.toNatClampNeg 1000000) then _ else none) = _; rw [hn]; rfl)
set_option maxRecDepth 20000 in
theorem st_X10_init_206 (hn : (!decide (x < 0) && Nat.ble x.toNatClampNeg 1000000) = true) : bc d M_X10_init scr 206 [a0] (.int x :: st) h cn sn = bc d M_X10_init scr 208 [a0] (.ref h.length :: st) (h ++ [px_arr 0 x.toNatClampNeg]) (cn + 1) (sn + x.toNatClampNeg) := bc_N (en := (.newarray .int, 2, 0, 0, 0, .null)) (q := (2, st, px_arr 0 x.toNatClampNeg, x.toNatClampNeg)) rfl rfl rfl rfl rfl (by show (bif (!decide (x < 0) && Nat.ble x.toNatClampNeg 1000000) then _ else none) = _; rw [hn]; rfl)
set_option maxRecDepth 20000 in
theorem st_X10_init_214 (hn : (!decide (x < 0) && Nat.ble x.toNatClampNeg 1000000) = true) : bc d M_X10_init scr 214 [a0] (.int x :: st) h cn sn = bc d M_X10_init scr 216 [a0] (.ref h.length :: st) (h ++ [px_arr 0 x.toNatClampNeg]) (cn + 1) (sn + x.toNatClampNeg) := bc_N (en := (.newarray .int, 2, 0, 0, 0, .null)) (q := (2, st, px_arr 0 x.toNatClampNeg, x.toNatClampNeg)) rfl rfl rfl rfl rfl (by show (bif (!decide (x < 0) && Nat.ble x.toNatClampNeg 1000000) then _ else none) = _; rw [hn]; rfl)
set_option maxRecDepth 20000 in
theorem st_X10_init_222 (hn : (!decide (x < 0) && Nat.ble x.toNatClampNeg 1000000) = true) : bc d M_X10_init scr 222 [a0] (.int x :: st) h cn sn = bc d M_X10_init scr 224 [a0] (.ref h.length :: st) (h ++ [px_arr 0 x.toNatClampNeg]) (cn + 1) (sn + x.toNatClampNeg) := bc_N (en := (.newarray .int, 2, 0, 0, 0, .null)) (q := (2, st, px_arr 0 x.toNatClampNeg, x.toNatClampNeg)) rfl rfl rfl rfl rfl (by show (bif (!decide (x < 0) && Nat.ble x.toNatClampNeg 1000000) then _ else none) = _; rw [hn]; rfl)
set_option maxRecDepth 20000 in
theorem st_X10_init_229 (hn : (!decide (x < 0) && Nat.ble x.toNatClampNeg 1000000) = true) : bc d M_X10_init scr 229 [a0] (.int x :: st) h cn sn = bc d M_X10_init scr 231 [a0] (.ref h.length :: st) (h ++ [px_arr 0 x.toNatClampNeg]) (cn + 1) (sn + x.toNatClampNeg) := bc_N (en := (.newarray .int, 2, 0, 0, 0, .null)) (q := (2, st, px_arr 0 x.toNatClampNeg, x.toNatClampNeg)) rfl rfl rfl rfl rfl (by show (bif (!decide (x < 0) && Nat.ble x.toNatClampNeg 1000000) then _ else none) = _; rw [hn]; rfl)
set_option maxRecDepth 20000 in
theorem st_X10_init_238 (hn : (!decide (x < 0) && Nat.ble x.toNatClampNeg 1000000) = true) : bc d M_X10_init scr 238 [a0] (.int x :: st) h cn sn = bc d M_X10_init scr 240 [a0] (.ref h.length :: st) (h ++ [px_arr 0 x.toNatClampNeg]) (cn + 1) (sn + x.toNatClampNeg) := bc_N (en := (.newarray .int, 2, 0, 0, 0, .null)) (q := (2, st, px_arr 0 x.toNatClampNeg, x.toNatClampNeg)) rfl rfl rfl rfl rfl (by show (bif (!decide (x < 0) && Nat.ble x.toNatClampNeg 1000000) then _ else none) = _; rw [hn]; rfl)
set_option maxRecDepth 20000 in
theorem st_X10_init_246 (hn : (!decide (x < 0) && Nat.ble x.toNatClampNeg 1000000) = true) : bc d M_X10_init scr 246 [a0] (.int x :: st) h cn sn = bc d M_X10_init scr 248 [a0] (.ref h.length :: st) (h ++ [px_arr 0 x.toNatClampNeg]) (cn + 1) (sn + x.toNatClampNeg) := bc_N (en := (.newarray .int, 2, 0, 0, 0, .null)) (q := (2, st, px_arr 0 x.toNatClampNeg, x.toNatClampNeg)) rfl rfl rfl rfl rfl (by show (bif (!decide (x < 0) && Nat.ble x.toNatClampNeg 1000000) then _ else none) = _; rw [hn]; rfl)
set_option maxRecDepth 20000 in
theorem st_X10_init_254 (hn : (!decide (x < 0) && Nat.ble x.toNatClampNeg 1000000) = true) : bc d M_X10_init scr 254 [a0] (.int x :: st) h cn sn = bc d M_X10_init scr 256 [a0] (.ref h.length :: st) (h ++ [px_arr 0 x.toNatClampNeg]) (cn + 1) (sn + x.toNatClampNeg) := bc_N (en := (.newarray .int, 2, 0, 0, 0, .null)) (q := (2, st, px_arr 0 x.toNatClampNeg, x.toNatClampNeg)) rfl rfl rfl rfl rfl (by show (bif (!decide (x < 0) && Nat.ble x.toNatClampNeg 1000000) then _ else none) = _; rw [hn]; rfl)
set_option maxRecDepth 20000 in
theorem st_X10_init_262 (hn : (!decide (x < 0) && Nat.ble x.toNatClampNeg 1000000) = true) : bc d M_X10_init scr 262 [a0] (.int x :: st) h cn sn = bc d M_X10_init scr 264 [a0] (.ref h.length :: st) (h ++ [px_arr 0 x.toNatClampNeg]) (cn + 1) (sn + x.toNatClampNeg) := bc_N (en := (.newarray .int, 2, 0, 0, 0, .null)) (q := (2, st, px_arr 0 x.toNatClampNeg, x.toNatClampNeg)) rfl rfl rfl rfl rfl (by show (bif (!decide (x < 0) && Nat.ble x.toNatClampNeg 1000000) then _ else none) = _; rw [hn]; rfl)
set_option maxRecDepth 20000 in
theorem st_X10_init_269 (hn : (!decide (x < 0) && Nat.ble x.toNatClampNeg 1000000) = true) : bc d M_X10_init scr 269 [a0] (.int x :: st) h cn sn = bc d M_X10_init scr 271 [a0] (.ref h.length :: st) (h ++ [px_arr 0 x.toNatClampNeg]) (cn + 1) (sn + x.toNatClampNeg) := bc_N (en := (.newarray .int, 2, 0, 0, 0, .null)) (q := (2, st, px_arr 0 x.toNatClampNeg, x.toNatClampNeg)) rfl rfl rfl rfl rfl (by show (bif (!decide (x < 0) && Nat.ble x.toNatClampNeg 1000000) then _ else none) = _; rw [hn]; rfl)
set_option maxRecDepth 20000 in
theorem st_X10_init_276 (hn : (!decide (x < 0) && Nat.ble x.toNatClampNeg 1000000) = true) : bc d M_X10_init scr 276 [a0] (.int x :: st) h cn sn = bc d M_X10_init scr 278 [a0] (.ref h.length :: st) (h ++ [px_arr 0 x.toNatClampNeg]) (cn + 1) (sn + x.toNatClampNeg) := bc_N (en := (.newarray .int, 2, 0, 0, 0, .null)) (q := (2, st, px_arr 0 x.toNatClampNeg, x.toNatClampNeg)) rfl rfl rfl rfl rfl (by show (bif (!decide (x < 0) && Nat.ble x.toNatClampNeg 1000000) then _ else none) = _; rw [hn]; rfl)
set_option maxRecDepth 20000 in
theorem st_X10_init_284 (hn : (!decide (x < 0) && Nat.ble x.toNatClampNeg 1000000) = true) : bc d M_X10_init scr 284 [a0] (.int x :: st) h cn sn = bc d M_X10_init scr 286 [a0] (.ref h.length :: st) (h ++ [px_arr 0 x.toNatClampNeg]) (cn + 1) (sn + x.toNatClampNeg) := bc_N (en := (.newarray .int, 2, 0, 0, 0, .null)) (q := (2, st, px_arr 0 x.toNatClampNeg, x.toNatClampNeg)) rfl rfl rfl rfl rfl (by show (bif (!decide (x < 0) && Nat.ble x.toNatClampNeg 1000000) then _ else none) = _; rw [hn]; rfl)
set_option maxRecDepth 20000 in
theorem st_X10_init_292 (hn : (!decide (x < 0) && Nat.ble x.toNatClampNeg 1000000) = true) : bc d M_X10_init scr 292 [a0] (.int x :: st) h cn sn = bc d M_X10_init scr 294 [a0] (.ref h.length :: st) (h ++ [px_arr 0 x.toNatClampNeg]) (cn + 1) (sn + x.toNatClampNeg) := bc_N (en := (.newarray .int, 2, 0, 0, 0, .null)) (q := (2, st, px_arr 0 x.toNatClampNeg, x.toNatClampNeg)) rfl rfl rfl rfl rfl (by show (bif (!decide (x < 0) && Nat.ble x.toNatClampNeg 1000000) then _ else none) = _; rw [hn]; rfl)
set_option maxRecDepth 20000 in
theorem st_X10_init_300 (hn : (!decide (x < 0) && Nat.ble x.toNatClampNeg 1000000) = true) : bc d M_X10_init scr 300 [a0] (.int x :: st) h cn sn = bc d M_X10_init scr 302 [a0] (.ref h.length :: st) (h ++ [px_arr 0 x.toNatClampNeg]) (cn + 1) (sn + x.toNatClampNeg) := bc_N (en := (.newarray .int, 2, 0, 0, 0, .null)) (q := (2, st, px_arr 0 x.toNatClampNeg, x.toNatClampNeg)) rfl rfl rfl rfl rfl (by show (bif (!decide (x < 0) && Nat.ble x.toNatClampNeg 1000000) then _ else none) = _; rw [hn]; rfl)
set_option maxRecDepth 20000 in
theorem st_X10_init_308 (hn : (!decide (x < 0) && Nat.ble x.toNatClampNeg 1000000) = true) : bc d M_X10_init scr 308 [a0] (.int x :: st) h cn sn = bc d M_X10_init scr 310 [a0] (.ref h.length :: st) (h ++ [px_arr 0 x.toNatClampNeg]) (cn + 1) (sn + x.toNatClampNeg) := bc_N (en := (.newarray .int, 2, 0, 0, 0, .null)) (q := (2, st, px_arr 0 x.toNatClampNeg, x.toNatClampNeg)) rfl rfl rfl rfl rfl (by show (bif (!decide (x < 0) && Nat.ble x.toNatClampNeg 1000000) then _ else none) = _; rw [hn]; rfl)
set_option maxRecDepth 20000 in
theorem st_X10_init_316 (hn : (!decide (x < 0) && Nat.ble x.toNatClampNeg 1000000) = true) : bc d M_X10_init scr 316 [a0] (.int x :: st) h cn sn = bc d M_X10_init scr 318 [a0] (.ref h.length :: st) (h ++ [px_arr 0 x.toNatClampNeg]) (cn + 1) (sn + x.toNatClampNeg) := bc_N (en := (.newarray .int, 2, 0, 0, 0, .null)) (q := (2, st, px_arr 0 x.toNatClampNeg, x.toNatClampNeg)) rfl rfl rfl rfl rfl (by show (bif (!decide (x < 0) && Nat.ble x.toNatClampNeg 1000000) then _ else none) = _; rw [hn]; rfl)
set_option maxRecDepth 20000 in
theorem st_X10_init_325 (hn : (!decide (x < 0) && Nat.ble x.toNatClampNeg 1000000) = true) : bc d M_X10_init scr 325 [a0] (.int x :: st) h cn sn = bc d M_X10_init scr 327 [a0] (.ref h.length :: st) (h ++ [px_arr 1 x.toNatClampNeg]) (cn + 1) (sn + x.toNatClampNeg) := bc_N (en := (.newarray .long, 2, 1, 0, 0, .null)) (q := (2, st, px_arr 1 x.toNatClampNeg, x.toNatClampNeg)) rfl rfl rfl rfl rfl (by show (bif (!decide (x < 0) && Nat.ble x.toNatClampNeg 1000000) then _ else none) = _; rw [hn]; rfl)
set_option maxRecDepth 20000 in
theorem st_X10_init_333 (hn : (!decide (x < 0) && Nat.ble x.toNatClampNeg 1000000) = true) : bc d M_X10_init scr 333 [a0] (.int x :: st) h cn sn = bc d M_X10_init scr 335 [a0] (.ref h.length :: st) (h ++ [px_arr 0 x.toNatClampNeg]) (cn + 1) (sn + x.toNatClampNeg) := bc_N (en := (.newarray .int, 2, 0, 0, 0, .null)) (q := (2, st, px_arr 0 x.toNatClampNeg, x.toNatClampNeg)) rfl rfl rfl rfl rfl (by show (bif (!decide (x < 0) && Nat.ble x.toNatClampNeg 1000000) then _ else none) = _; rw [hn]; rfl)
set_option maxRecDepth 20000 in
theorem st_X10_init_342 (hn : (!decide (x < 0) && Nat.ble x.toNatClampNeg 1000000) = true) : bc d M_X10_init scr 342 [a0] (.int x :: st) h cn sn = bc d M_X10_init scr 344 [a0] (.ref h.length :: st) (h ++ [px_arr 0 x.toNatClampNeg]) (cn + 1) (sn + x.toNatClampNeg) := bc_N (en := (.newarray .int, 2, 0, 0, 0, .null)) (q := (2, st, px_arr 0 x.toNatClampNeg, x.toNatClampNeg)) rfl rfl rfl rfl rfl (by show (bif (!decide (x < 0) && Nat.ble x.toNatClampNeg 1000000) then _ else none) = _; rw [hn]; rfl)
set_option maxRecDepth 20000 in
theorem st_X10_init_350 (hn : (!decide (x < 0) && Nat.ble x.toNatClampNeg 1000000) = true) : bc d M_X10_init scr 350 [a0] (.int x :: st) h cn sn = bc d M_X10_init scr 352 [a0] (.ref h.length :: st) (h ++ [px_arr 0 x.toNatClampNeg]) (cn + 1) (sn + x.toNatClampNeg) := bc_N (en := (.newarray .int, 2, 0, 0, 0, .null)) (q := (2, st, px_arr 0 x.toNatClampNeg, x.toNatClampNeg)) rfl rfl rfl rfl rfl (by show (bif (!decide (x < 0) && Nat.ble x.toNatClampNeg 1000000) then _ else none) = _; rw [hn]; rfl)
set_option maxRecDepth 20000 in
theorem st_X10_init_358 (hn : (!decide (x < 0) && Nat.ble x.toNatClampNeg 1000000) = true) : bc d M_X10_init scr 358 [a0] (.int x :: st) h cn sn = bc d M_X10_init scr 360 [a0] (.ref h.length :: st) (h ++ [px_arr 0 x.toNatClampNeg]) (cn + 1) (sn + x.toNatClampNeg) := bc_N (en := (.newarray .int, 2, 0, 0, 0, .null)) (q := (2, st, px_arr 0 x.toNatClampNeg, x.toNatClampNeg)) rfl rfl rfl rfl rfl (by show (bif (!decide (x < 0) && Nat.ble x.toNatClampNeg 1000000) then _ else none) = _; rw [hn]; rfl)
set_option maxRecDepth 20000 in
theorem st_X10_init_365 (hn : (!decide (x < 0) && Nat.ble x.toNatClampNeg 1000000) = true) : bc d M_X10_init scr 365 [a0] (.int x :: st) h cn sn = bc d M_X10_init scr 367 [a0] (.ref h.length :: st) (h ++ [px_arr 0 x.toNatClampNeg]) (cn + 1) (sn + x.toNatClampNeg) := bc_N (en := (.newarray .int, 2, 0, 0, 0, .null)) (q := (2, st, px_arr 0 x.toNatClampNeg, x.toNatClampNeg)) rfl rfl rfl rfl rfl (by show (bif (!decide (x < 0) && Nat.ble x.toNatClampNeg 1000000) then _ else none) = _; rw [hn]; rfl)
set_option maxRecDepth 20000 in
theorem st_L_law_0 : bc d M_L_law scr 0 [a0, a1, a2, a3, a4, a5, a6] st h cn sn = bc d M_L_law scr 3 [a0, a1, a2, a3, a4, a5, a6] (.ref h.length :: st) (h ++ [.inr (9, px_dfl (kt_ft 9) 12)]) (cn + 1) (sn + 12) := bc_N (en := (.new 8, 3, 9, 12, 0, .null)) rfl rfl rfl rfl rfl rfl
set_option maxRecDepth 20000 in
theorem st_L_law_4 (hs : px_sum st ≤ 8) : bc (d + 1) M_L_law scr 4 [a0, a1, a2, a3, a4, a5, a6] (.ref p :: st) h cn sn = bC (bc d M_X9_init none 0 [some (.ref p)] [] h 0 0) (fun v h' c k => bc (d + 1) M_L_law scr 7 [a0, a1, a2, a3, a4, a5, a6] (v.toList ++ st) h' (cn + c) (sn + k)) (fun _ _ _ _ => none) := bc_IS (en := (.invokespecial 90, 3, 78, 0, 0, .null)) rfl rfl rfl rfl rfl rfl rfl (px_I_spc mt_78 rfl hs rfl) rfl rfl
set_option maxRecDepth 20000 in
theorem st_L_law_8 : bc d M_L_law scr 8 [a0, a1, a2, a3, a4, a5, a6] st h cn sn = bc d M_L_law scr 11 [a0, a1, a2, a3, a4, a5, a6] (.ref h.length :: st) (h ++ [.inr (10, px_dfl (kt_ft 10) 58)]) (cn + 1) (sn + 58) := bc_N (en := (.new 91, 3, 10, 58, 0, .null)) rfl rfl rfl rfl rfl rfl
set_option maxRecDepth 20000 in
theorem st_L_law_12 (hs : px_sum st ≤ 8) : bc (d + 1) M_L_law scr 12 [a0, a1, a2, a3, a4, a5, a6] (.ref p :: st) h cn sn = bC (bc d M_X10_init none 0 [some (.ref p)] [] h 0 0) (fun v h' c k => bc (d + 1) M_L_law scr 15 [a0, a1, a2, a3, a4, a5, a6] (v.toList ++ st) h' (cn + c) (sn + k)) (fun _ _ _ _ => none) := bc_IS (en := (.invokespecial 93, 3, 132, 0, 0, .null)) rfl rfl rfl rfl rfl rfl rfl (px_I_spc mt_132 rfl hs rfl) rfl rfl
set_option maxRecDepth 20000 in
theorem st_L_law_17 (hn : (!decide (x < 0) && Nat.ble x.toNatClampNeg 1000000) = true) : bc d M_L_law scr 17 [a0, a1, a2, a3, a4, a5, a6] (.int x :: st) h cn sn = bc d M_L_law scr 19 [a0, a1, a2, a3, a4, a5, a6] (.ref h.length :: st) (h ++ [px_arr 1 x.toNatClampNeg]) (cn + 1) (sn + x.toNatClampNeg) := bc_N (en := (.newarray .long, 2, 1, 0, 0, .null)) (q := (2, st, px_arr 1 x.toNatClampNeg, x.toNatClampNeg)) rfl rfl rfl rfl rfl (by show (bif (!decide (x < 0) && Nat.ble x.toNatClampNeg 1000000) then _ else none) = _; rw [hn]; rfl)
end INIT
