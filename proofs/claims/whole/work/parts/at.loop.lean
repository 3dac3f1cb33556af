/-! ===== printed by wip/whole/q6.py: the law's loop ===== -/

set_option maxRecDepth 20000 in
theorem sw_L_law_0 {d : Nat} {scr : Option (Nat × (Nat → Int32))} {st : List Value} {h : px_H} {cn sn : Nat} {a0 a1 a2 a3 a4 a5 a6 : Option Value} : bc d M_L_law scr 40 [a0, a1, a2, a3, a4, a5, a6] (.int 0 :: st) h cn sn = bc d M_L_law scr 188 [a0, a1, a2, a3, a4, a5, a6] st h cn sn := bc_L rfl rfl
set_option maxRecDepth 20000 in
theorem sw_L_law_1 {d : Nat} {scr : Option (Nat × (Nat → Int32))} {st : List Value} {h : px_H} {cn sn : Nat} {a0 a1 a2 a3 a4 a5 a6 : Option Value} : bc d M_L_law scr 40 [a0, a1, a2, a3, a4, a5, a6] (.int 1 :: st) h cn sn = bc d M_L_law scr 261 [a0, a1, a2, a3, a4, a5, a6] st h cn sn := bc_L rfl rfl
set_option maxRecDepth 20000 in
theorem sw_L_law_2 {d : Nat} {scr : Option (Nat × (Nat → Int32))} {st : List Value} {h : px_H} {cn sn : Nat} {a0 a1 a2 a3 a4 a5 a6 : Option Value} : bc d M_L_law scr 40 [a0, a1, a2, a3, a4, a5, a6] (.int 2 :: st) h cn sn = bc d M_L_law scr 317 [a0, a1, a2, a3, a4, a5, a6] st h cn sn := bc_L rfl rfl
set_option maxRecDepth 20000 in
theorem sw_L_law_3 {d : Nat} {scr : Option (Nat × (Nat → Int32))} {st : List Value} {h : px_H} {cn sn : Nat} {a0 a1 a2 a3 a4 a5 a6 : Option Value} : bc d M_L_law scr 40 [a0, a1, a2, a3, a4, a5, a6] (.int 3 :: st) h cn sn = bc d M_L_law scr 330 [a0, a1, a2, a3, a4, a5, a6] st h cn sn := bc_L rfl rfl
set_option maxRecDepth 20000 in
theorem sw_L_law_4 {d : Nat} {scr : Option (Nat × (Nat → Int32))} {st : List Value} {h : px_H} {cn sn : Nat} {a0 a1 a2 a3 a4 a5 a6 : Option Value} : bc d M_L_law scr 40 [a0, a1, a2, a3, a4, a5, a6] (.int 4 :: st) h cn sn = bc d M_L_law scr 386 [a0, a1, a2, a3, a4, a5, a6] st h cn sn := bc_L rfl rfl
set_option maxRecDepth 20000 in
theorem sw_L_law_5 {d : Nat} {scr : Option (Nat × (Nat → Int32))} {st : List Value} {h : px_H} {cn sn : Nat} {a0 a1 a2 a3 a4 a5 a6 : Option Value} : bc d M_L_law scr 40 [a0, a1, a2, a3, a4, a5, a6] (.int 5 :: st) h cn sn = bc d M_L_law scr 454 [a0, a1, a2, a3, a4, a5, a6] st h cn sn := bc_L rfl rfl
set_option maxRecDepth 20000 in
theorem sw_L_law_6 {d : Nat} {scr : Option (Nat × (Nat → Int32))} {st : List Value} {h : px_H} {cn sn : Nat} {a0 a1 a2 a3 a4 a5 a6 : Option Value} : bc d M_L_law scr 40 [a0, a1, a2, a3, a4, a5, a6] (.int 6 :: st) h cn sn = bc d M_L_law scr 522 [a0, a1, a2, a3, a4, a5, a6] st h cn sn := bc_L rfl rfl
set_option maxRecDepth 20000 in
theorem sw_L_law_7 {d : Nat} {scr : Option (Nat × (Nat → Int32))} {st : List Value} {h : px_H} {cn sn : Nat} {a0 a1 a2 a3 a4 a5 a6 : Option Value} : bc d M_L_law scr 40 [a0, a1, a2, a3, a4, a5, a6] (.int 7 :: st) h cn sn = bc d M_L_law scr 590 [a0, a1, a2, a3, a4, a5, a6] st h cn sn := bc_L rfl rfl
set_option maxRecDepth 20000 in
theorem sw_L_law_8 {d : Nat} {scr : Option (Nat × (Nat → Int32))} {st : List Value} {h : px_H} {cn sn : Nat} {a0 a1 a2 a3 a4 a5 a6 : Option Value} : bc d M_L_law scr 40 [a0, a1, a2, a3, a4, a5, a6] (.int 8 :: st) h cn sn = bc d M_L_law scr 615 [a0, a1, a2, a3, a4, a5, a6] st h cn sn := bc_L rfl rfl
set_option maxRecDepth 20000 in
theorem sw_L_law_9 {d : Nat} {scr : Option (Nat × (Nat → Int32))} {st : List Value} {h : px_H} {cn sn : Nat} {a0 a1 a2 a3 a4 a5 a6 : Option Value} : bc d M_L_law scr 40 [a0, a1, a2, a3, a4, a5, a6] (.int 9 :: st) h cn sn = bc d M_L_law scr 690 [a0, a1, a2, a3, a4, a5, a6] st h cn sn := bc_L rfl rfl
set_option maxRecDepth 20000 in
theorem sw_L_law_10 {d : Nat} {scr : Option (Nat × (Nat → Int32))} {st : List Value} {h : px_H} {cn sn : Nat} {a0 a1 a2 a3 a4 a5 a6 : Option Value} : bc d M_L_law scr 40 [a0, a1, a2, a3, a4, a5, a6] (.int 10 :: st) h cn sn = bc d M_L_law scr 746 [a0, a1, a2, a3, a4, a5, a6] st h cn sn := bc_L rfl rfl
set_option maxRecDepth 20000 in
theorem sw_L_law_11 {d : Nat} {scr : Option (Nat × (Nat → Int32))} {st : List Value} {h : px_H} {cn sn : Nat} {a0 a1 a2 a3 a4 a5 a6 : Option Value} : bc d M_L_law scr 40 [a0, a1, a2, a3, a4, a5, a6] (.int 11 :: st) h cn sn = bc d M_L_law scr 814 [a0, a1, a2, a3, a4, a5, a6] st h cn sn := bc_L rfl rfl
set_option maxRecDepth 20000 in
theorem sw_L_law_12 {d : Nat} {scr : Option (Nat × (Nat → Int32))} {st : List Value} {h : px_H} {cn sn : Nat} {a0 a1 a2 a3 a4 a5 a6 : Option Value} : bc d M_L_law scr 40 [a0, a1, a2, a3, a4, a5, a6] (.int 12 :: st) h cn sn = bc d M_L_law scr 870 [a0, a1, a2, a3, a4, a5, a6] st h cn sn := bc_L rfl rfl
set_option maxRecDepth 20000 in
theorem sw_L_law_13 {d : Nat} {scr : Option (Nat × (Nat → Int32))} {st : List Value} {h : px_H} {cn sn : Nat} {a0 a1 a2 a3 a4 a5 a6 : Option Value} : bc d M_L_law scr 40 [a0, a1, a2, a3, a4, a5, a6] (.int 13 :: st) h cn sn = bc d M_L_law scr 883 [a0, a1, a2, a3, a4, a5, a6] st h cn sn := bc_L rfl rfl
set_option maxRecDepth 20000 in
theorem sw_L_law_14 {d : Nat} {scr : Option (Nat × (Nat → Int32))} {st : List Value} {h : px_H} {cn sn : Nat} {a0 a1 a2 a3 a4 a5 a6 : Option Value} : bc d M_L_law scr 40 [a0, a1, a2, a3, a4, a5, a6] (.int 14 :: st) h cn sn = bc d M_L_law scr 951 [a0, a1, a2, a3, a4, a5, a6] st h cn sn := bc_L rfl rfl
set_option maxRecDepth 20000 in
theorem sw_L_law_15 {d : Nat} {scr : Option (Nat × (Nat → Int32))} {st : List Value} {h : px_H} {cn sn : Nat} {a0 a1 a2 a3 a4 a5 a6 : Option Value} : bc d M_L_law scr 40 [a0, a1, a2, a3, a4, a5, a6] (.int 15 :: st) h cn sn = bc d M_L_law scr 1007 [a0, a1, a2, a3, a4, a5, a6] st h cn sn := bc_L rfl rfl
set_option maxRecDepth 20000 in
theorem sw_L_law_16 {d : Nat} {scr : Option (Nat × (Nat → Int32))} {st : List Value} {h : px_H} {cn sn : Nat} {a0 a1 a2 a3 a4 a5 a6 : Option Value} : bc d M_L_law scr 40 [a0, a1, a2, a3, a4, a5, a6] (.int 16 :: st) h cn sn = bc d M_L_law scr 1063 [a0, a1, a2, a3, a4, a5, a6] st h cn sn := bc_L rfl rfl
set_option maxRecDepth 20000 in
theorem sw_L_law_17 {d : Nat} {scr : Option (Nat × (Nat → Int32))} {st : List Value} {h : px_H} {cn sn : Nat} {a0 a1 a2 a3 a4 a5 a6 : Option Value} : bc d M_L_law scr 40 [a0, a1, a2, a3, a4, a5, a6] (.int 17 :: st) h cn sn = bc d M_L_law scr 1119 [a0, a1, a2, a3, a4, a5, a6] st h cn sn := bc_L rfl rfl
set_option maxRecDepth 20000 in
theorem sw_L_law_18 {d : Nat} {scr : Option (Nat × (Nat → Int32))} {st : List Value} {h : px_H} {cn sn : Nat} {a0 a1 a2 a3 a4 a5 a6 : Option Value} : bc d M_L_law scr 40 [a0, a1, a2, a3, a4, a5, a6] (.int 18 :: st) h cn sn = bc d M_L_law scr 1132 [a0, a1, a2, a3, a4, a5, a6] st h cn sn := bc_L rfl rfl
set_option maxRecDepth 20000 in
theorem sw_L_law_19 {d : Nat} {scr : Option (Nat × (Nat → Int32))} {st : List Value} {h : px_H} {cn sn : Nat} {a0 a1 a2 a3 a4 a5 a6 : Option Value} : bc d M_L_law scr 40 [a0, a1, a2, a3, a4, a5, a6] (.int 19 :: st) h cn sn = bc d M_L_law scr 1188 [a0, a1, a2, a3, a4, a5, a6] st h cn sn := bc_L rfl rfl
set_option maxRecDepth 20000 in
theorem sw_L_law_20 {d : Nat} {scr : Option (Nat × (Nat → Int32))} {st : List Value} {h : px_H} {cn sn : Nat} {a0 a1 a2 a3 a4 a5 a6 : Option Value} : bc d M_L_law scr 40 [a0, a1, a2, a3, a4, a5, a6] (.int 20 :: st) h cn sn = bc d M_L_law scr 1244 [a0, a1, a2, a3, a4, a5, a6] st h cn sn := bc_L rfl rfl
set_option maxRecDepth 20000 in
theorem sw_L_law_21 {d : Nat} {scr : Option (Nat × (Nat → Int32))} {st : List Value} {h : px_H} {cn sn : Nat} {a0 a1 a2 a3 a4 a5 a6 : Option Value} : bc d M_L_law scr 40 [a0, a1, a2, a3, a4, a5, a6] (.int 21 :: st) h cn sn = bc d M_L_law scr 1312 [a0, a1, a2, a3, a4, a5, a6] st h cn sn := bc_L rfl rfl
set_option maxRecDepth 20000 in
theorem sw_L_law_22 {d : Nat} {scr : Option (Nat × (Nat → Int32))} {st : List Value} {h : px_H} {cn sn : Nat} {a0 a1 a2 a3 a4 a5 a6 : Option Value} : bc d M_L_law scr 40 [a0, a1, a2, a3, a4, a5, a6] (.int 22 :: st) h cn sn = bc d M_L_law scr 1380 [a0, a1, a2, a3, a4, a5, a6] st h cn sn := bc_L rfl rfl
set_option maxRecDepth 20000 in
theorem sw_L_law_23 {d : Nat} {scr : Option (Nat × (Nat → Int32))} {st : List Value} {h : px_H} {cn sn : Nat} {a0 a1 a2 a3 a4 a5 a6 : Option Value} : bc d M_L_law scr 40 [a0, a1, a2, a3, a4, a5, a6] (.int 23 :: st) h cn sn = bc d M_L_law scr 1436 [a0, a1, a2, a3, a4, a5, a6] st h cn sn := bc_L rfl rfl
set_option maxRecDepth 20000 in
theorem sw_L_law_24 {d : Nat} {scr : Option (Nat × (Nat → Int32))} {st : List Value} {h : px_H} {cn sn : Nat} {a0 a1 a2 a3 a4 a5 a6 : Option Value} : bc d M_L_law scr 40 [a0, a1, a2, a3, a4, a5, a6] (.int 24 :: st) h cn sn = bc d M_L_law scr 1504 [a0, a1, a2, a3, a4, a5, a6] st h cn sn := bc_L rfl rfl
set_option maxRecDepth 20000 in
theorem sw_L_law_25 {d : Nat} {scr : Option (Nat × (Nat → Int32))} {st : List Value} {h : px_H} {cn sn : Nat} {a0 a1 a2 a3 a4 a5 a6 : Option Value} : bc d M_L_law scr 40 [a0, a1, a2, a3, a4, a5, a6] (.int 25 :: st) h cn sn = bc d M_L_law scr 1596 [a0, a1, a2, a3, a4, a5, a6] st h cn sn := bc_L rfl rfl
set_option maxRecDepth 20000 in
theorem sw_L_law_26 {d : Nat} {scr : Option (Nat × (Nat → Int32))} {st : List Value} {h : px_H} {cn sn : Nat} {a0 a1 a2 a3 a4 a5 a6 : Option Value} : bc d M_L_law scr 40 [a0, a1, a2, a3, a4, a5, a6] (.int 26 :: st) h cn sn = bc d M_L_law scr 1633 [a0, a1, a2, a3, a4, a5, a6] st h cn sn := bc_L rfl rfl
set_option maxRecDepth 20000 in
theorem sw_L_law_27 {d : Nat} {scr : Option (Nat × (Nat → Int32))} {st : List Value} {h : px_H} {cn sn : Nat} {a0 a1 a2 a3 a4 a5 a6 : Option Value} : bc d M_L_law scr 40 [a0, a1, a2, a3, a4, a5, a6] (.int 27 :: st) h cn sn = bc d M_L_law scr 1689 [a0, a1, a2, a3, a4, a5, a6] st h cn sn := bc_L rfl rfl
set_option maxRecDepth 20000 in
theorem sw_L_law_28 {d : Nat} {scr : Option (Nat × (Nat → Int32))} {st : List Value} {h : px_H} {cn sn : Nat} {a0 a1 a2 a3 a4 a5 a6 : Option Value} : bc d M_L_law scr 40 [a0, a1, a2, a3, a4, a5, a6] (.int 28 :: st) h cn sn = bc d M_L_law scr 1745 [a0, a1, a2, a3, a4, a5, a6] st h cn sn := bc_L rfl rfl
set_option maxRecDepth 20000 in
theorem sw_L_law_29 {d : Nat} {scr : Option (Nat × (Nat → Int32))} {st : List Value} {h : px_H} {cn sn : Nat} {a0 a1 a2 a3 a4 a5 a6 : Option Value} : bc d M_L_law scr 40 [a0, a1, a2, a3, a4, a5, a6] (.int 29 :: st) h cn sn = bc d M_L_law scr 1756 [a0, a1, a2, a3, a4, a5, a6] st h cn sn := bc_L rfl rfl
set_option maxRecDepth 20000 in
theorem sw_L_law_30 {d : Nat} {scr : Option (Nat × (Nat → Int32))} {st : List Value} {h : px_H} {cn sn : Nat} {a0 a1 a2 a3 a4 a5 a6 : Option Value} : bc d M_L_law scr 40 [a0, a1, a2, a3, a4, a5, a6] (.int 30 :: st) h cn sn = bc d M_L_law scr 1836 [a0, a1, a2, a3, a4, a5, a6] st h cn sn := bc_L rfl rfl
set_option maxRecDepth 20000 in
theorem sw_L_law_31 {d : Nat} {scr : Option (Nat × (Nat → Int32))} {st : List Value} {h : px_H} {cn sn : Nat} {a0 a1 a2 a3 a4 a5 a6 : Option Value} : bc d M_L_law scr 40 [a0, a1, a2, a3, a4, a5, a6] (.int 31 :: st) h cn sn = bc d M_L_law scr 1916 [a0, a1, a2, a3, a4, a5, a6] st h cn sn := bc_L rfl rfl
set_option maxRecDepth 20000 in
theorem sw_L_law_32 {d : Nat} {scr : Option (Nat × (Nat → Int32))} {st : List Value} {h : px_H} {cn sn : Nat} {a0 a1 a2 a3 a4 a5 a6 : Option Value} : bc d M_L_law scr 40 [a0, a1, a2, a3, a4, a5, a6] (.int 32 :: st) h cn sn = bc d M_L_law scr 1927 [a0, a1, a2, a3, a4, a5, a6] st h cn sn := bc_L rfl rfl
set_option maxRecDepth 20000 in
theorem sw_L_law_d {d : Nat} {scr : Option (Nat × (Nat → Int32))} {st : List Value} {h : px_H} {cn sn : Nat} {x : Int32} {a0 a1 a2 a3 a4 a5 a6 : Option Value} (e0 : ¬ x = 0) (e1 : ¬ x = 1) (e2 : ¬ x = 2) (e3 : ¬ x = 3) (e4 : ¬ x = 4) (e5 : ¬ x = 5) (e6 : ¬ x = 6) (e7 : ¬ x = 7) (e8 : ¬ x = 8) (e9 : ¬ x = 9) (e10 : ¬ x = 10) (e11 : ¬ x = 11) (e12 : ¬ x = 12) (e13 : ¬ x = 13) (e14 : ¬ x = 14) (e15 : ¬ x = 15) (e16 : ¬ x = 16) (e17 : ¬ x = 17) (e18 : ¬ x = 18) (e19 : ¬ x = 19) (e20 : ¬ x = 20) (e21 : ¬ x = 21) (e22 : ¬ x = 22) (e23 : ¬ x = 23) (e24 : ¬ x = 24) (e25 : ¬ x = 25) (e26 : ¬ x = 26) (e27 : ¬ x = 27) (e28 : ¬ x = 28) (e29 : ¬ x = 29) (e30 : ¬ x = 30) (e31 : ¬ x = 31) (e32 : ¬ x = 32) : bc d M_L_law scr 40 [a0, a1, a2, a3, a4, a5, a6] (.int x :: st) h cn sn = bc d M_L_law scr 1940 [a0, a1, a2, a3, a4, a5, a6] st h cn sn := by rw [st_L_law_40, if_neg e0, if_neg e1, if_neg e2, if_neg e3, if_neg e4, if_neg e5, if_neg e6, if_neg e7, if_neg e8, if_neg e9, if_neg e10, if_neg e11, if_neg e12, if_neg e13, if_neg e14, if_neg e15, if_neg e16, if_neg e17, if_neg e18, if_neg e19, if_neg e20, if_neg e21, if_neg e22, if_neg e23, if_neg e24, if_neg e25, if_neg e26, if_neg e27, if_neg e28, if_neg e29, if_neg e30, if_neg e31, if_neg e32]
theorem np_6 {a : Nat} : Int32.ofNat a + 6 = Int32.ofNat (a + 6) := (Int32.ofNat_add a 6).symm
section LOOP
variable {t : List px_E} {g : hG} {Ln i cn sn : Nat} {xs : Nat → Int32} {a5 a6 : Option Value} {x : Int32}
abbrev lawS (i : Nat) (a5 a6 : Option Value) : List (Option Value) := [some (.float 4294967295), some (.ref 0), some (.ref 49), some (.ref 88), some (.int (Int32.ofNat i)), a5, a6]
theorem law_step (H : Rel t g) (hi : i + 6 ≤ Ln) (hL : Ln ≤ 384) : ∃ (t' : List px_E) (g' : hG) (b5 b6 : Option Value) (c s : Nat), Rel t' g' ∧ c ≤ 10 ∧ s ≤ 5000 ∧ bc 100 M_L_law (some (Ln, xs)) 40 (lawS i a5 a6) [.int x] (hp t g) cn sn = bc 100 M_L_law (some (Ln, xs)) 1940 (lawS i b5 b6) [] (hp t' g') (cn + c) (sn + s) := by
  obtain ⟨N, S, D, L, n, q, T, ac, o, H⟩ := H
  by_cases e0 : x = 0
  · rw [e0]
    obtain ⟨v, t1, g1, g2, c1, s1, q1, q2, q5, q6, q7⟩ := rl_feed H (xs (i + 1)) (xs (i + 2)) (xs (i + 3)) (xs (i + 4)) (xs (i + 5))
    exact ⟨t1, g2, _, _, c1, s1, q5, q6, q7, (sw_L_law_0).trans (law_feed hi hL q1 q2)⟩
  by_cases e1 : x = 1
  · rw [e1]
    obtain ⟨k, b, t1, g1, g2, c1, s1, q1, q2, q3, q4, q5, q6, q7⟩ := rl_kitchen H (xs (i + 1))
    exact ⟨t1, g2, _, _, c1, s1, q5, q6, q7, (sw_L_law_1).trans (law_kitchen hi hL q1 q2 q3 q4)⟩
  by_cases e2 : x = 2
  · rw [e2]
    obtain ⟨v, t1, g1, g2, c1, s1, q1, q2, q5, q6, q7⟩ := rl_fault H 
    exact ⟨t1, g2, _, _, c1, s1, q5, q6, q7, (sw_L_law_2).trans (law_fault hi hL q1 q2)⟩
  by_cases e3 : x = 3
  · rw [e3]
    obtain ⟨k, b, t1, g1, g2, c1, s1, q1, q2, q3, q4, q5, q6, q7⟩ := rl_count H (xs (i + 1))
    exact ⟨t1, g2, _, _, c1, s1, q5, q6, q7, (sw_L_law_3).trans (law_count hi hL q1 q2 q3 q4)⟩
  by_cases e4 : x = 4
  · rw [e4]
    obtain ⟨k, b, t1, g1, g2, c1, s1, q1, q2, q3, q4, q5, q6, q7⟩ := rl_kettle H (xs (i + 1)) (xs (i + 2))
    exact ⟨t1, g2, _, _, c1, s1, q5, q6, q7, (sw_L_law_4).trans (law_kettle hi hL q1 q2 q3 q4)⟩
  by_cases e5 : x = 5
  · rw [e5]
    obtain ⟨k, b, t1, g1, g2, c1, s1, q1, q2, q3, q4, q5, q6, q7⟩ := rl_stove H (xs (i + 1)) (xs (i + 2))
    exact ⟨t1, g2, _, _, c1, s1, q5, q6, q7, (sw_L_law_5).trans (law_stove hi hL q1 q2 q3 q4)⟩
  by_cases e6 : x = 6
  · rw [e6]
    obtain ⟨k, b, t1, g1, g2, c1, s1, q1, q2, q3, q4, q5, q6, q7⟩ := rl_dish H (xs (i + 1)) (xs (i + 2))
    exact ⟨t1, g2, _, _, c1, s1, q5, q6, q7, (sw_L_law_6).trans (law_dish hi hL q1 q2 q3 q4)⟩
  by_cases e7 : x = 7
  · rw [e7]
    obtain ⟨v, t1, g1, g2, c1, s1, q1, q2, q5, q6, q7⟩ := rl_minutes H (xs (i + 1))
    exact ⟨t1, g2, _, _, c1, s1, q5, q6, q7, (sw_L_law_7).trans (law_minutes hi hL q1 q2)⟩
  by_cases e8 : x = 8
  · rw [e8]
    obtain ⟨k, b, t1, g1, g2, c1, s1, q1, q2, q3, q4, q5, q6, q7, q8⟩ := rl_put H (xs (i + 1)) (xs (i + 2))
    exact ⟨t1, g2, _, _, c1, s1, q5, q6, q7, (sw_L_law_8).trans (law_put hi hL q8 q1 q2 q3 q4)⟩
  by_cases e9 : x = 9
  · rw [e9]
    obtain ⟨k, b, t1, g1, g2, c1, s1, q1, q2, q3, q4, q5, q6, q7⟩ := rl_lift H (xs (i + 1))
    exact ⟨t1, g2, _, _, c1, s1, q5, q6, q7, (sw_L_law_9).trans (law_lift hi hL q1 q2 q3 q4)⟩
  by_cases e10 : x = 10
  · rw [e10]
    obtain ⟨k, b, t1, g1, g2, c1, s1, q1, q2, q3, q4, q5, q6, q7⟩ := rl_pour H (xs (i + 1)) (xs (i + 2))
    exact ⟨t1, g2, _, _, c1, s1, q5, q6, q7, (sw_L_law_10).trans (law_pour hi hL q1 q2 q3 q4)⟩
  by_cases e11 : x = 11
  · rw [e11]
    obtain ⟨k, b, t1, g1, g2, c1, s1, q1, q2, q3, q4, q5, q6, q7⟩ := rl_scrape H (xs (i + 1))
    exact ⟨t1, g2, _, _, c1, s1, q5, q6, q7, (sw_L_law_11).trans (law_scrape hi hL q1 q2 q3 q4)⟩
  by_cases e12 : x = 12
  · rw [e12]
    obtain ⟨v, t1, g1, g2, c1, s1, q1, q2, q5, q6, q7⟩ := rl_undo H 
    exact ⟨t1, g2, _, _, c1, s1, q5, q6, q7, (sw_L_law_12).trans (law_undo hi hL q1 q2)⟩
  by_cases e13 : x = 13
  · rw [e13]
    obtain ⟨k, b, t1, g1, g2, c1, s1, q1, q2, q3, q4, q5, q6, q7⟩ := rl_then H (xs (i + 1)) (xs (i + 2))
    exact ⟨t1, g2, _, _, c1, s1, q5, q6, q7, (sw_L_law_13).trans (law_then hi hL q1 q2 q3 q4)⟩
  by_cases e14 : x = 14
  · rw [e14]
    obtain ⟨k, b, t1, g1, g2, c1, s1, q1, q2, q3, q4, q5, q6, q7⟩ := rl_sung H (xs (i + 1))
    exact ⟨t1, g2, _, _, c1, s1, q5, q6, q7, (sw_L_law_14).trans (law_sung hi hL q1 q2 q3 q4)⟩
  by_cases e15 : x = 15
  · rw [e15]
    obtain ⟨k, b, t1, g1, g2, c1, s1, q1, q2, q3, q4, q5, q6, q7⟩ := rl_done H (xs (i + 1))
    exact ⟨t1, g2, _, _, c1, s1, q5, q6, q7, (sw_L_law_15).trans (law_done hi hL q1 q2 q3 q4)⟩
  by_cases e16 : x = 16
  · rw [e16]
    obtain ⟨k, b, t1, g1, g2, c1, s1, q1, q2, q3, q4, q5, q6, q7⟩ := rl_fugue H (xs (i + 1))
    exact ⟨t1, g2, _, _, c1, s1, q5, q6, q7, (sw_L_law_16).trans (law_fugue hi hL q1 q2 q3 q4)⟩
  by_cases e17 : x = 17
  · rw [e17]
    obtain ⟨v, t1, g1, g2, c1, s1, q1, q2, q5, q6, q7⟩ := rl_quiet H 
    exact ⟨t1, g2, _, _, c1, s1, q5, q6, q7, (sw_L_law_17).trans (law_quiet hi hL q1 q2)⟩
  by_cases e18 : x = 18
  · rw [e18]
    obtain ⟨k, b, t1, g1, g2, c1, s1, q1, q2, q3, q4, q5, q6, q7⟩ := rl_loudest H (xs (i + 1))
    exact ⟨t1, g2, _, _, c1, s1, q5, q6, q7, (sw_L_law_18).trans (law_loudest hi hL q1 q2 q3 q4)⟩
  by_cases e19 : x = 19
  · rw [e19]
    obtain ⟨k, b, t1, g1, g2, c1, s1, q1, q2, q3, q4, q5, q6, q7⟩ := rl_dry H (xs (i + 1))
    exact ⟨t1, g2, _, _, c1, s1, q5, q6, q7, (sw_L_law_19).trans (law_dry hi hL q1 q2 q3 q4)⟩
  by_cases e20 : x = 20
  · rw [e20]
    obtain ⟨k, b, t1, g1, g2, c1, s1, q1, q2, q3, q4, q5, q6, q7⟩ := rl_soonest H (xs (i + 1)) (xs (i + 2))
    exact ⟨t1, g2, _, _, c1, s1, q5, q6, q7, (sw_L_law_20).trans (law_soonest hi hL q1 q2 q3 q4)⟩
  by_cases e21 : x = 21
  · rw [e21]
    obtain ⟨k, b, t1, g1, g2, c1, s1, q1, q2, q3, q4, q5, q6, q7⟩ := rl_tuned H (xs (i + 1)) (xs (i + 2))
    exact ⟨t1, g2, _, _, c1, s1, q5, q6, q7, (sw_L_law_21).trans (law_tuned hi hL q1 q2 q3 q4)⟩
  by_cases e22 : x = 22
  · rw [e22]
    obtain ⟨k, b, t1, g1, g2, c1, s1, q1, q2, q3, q4, q5, q6, q7⟩ := rl_chord H (xs (i + 1))
    exact ⟨t1, g2, _, _, c1, s1, q5, q6, q7, (sw_L_law_22).trans (law_chord hi hL q1 q2 q3 q4)⟩
  by_cases e23 : x = 23
  · rw [e23]
    obtain ⟨k, b, t1, g1, g2, c1, s1, q1, q2, q3, q4, q5, q6, q7⟩ := rl_burner H (xs (i + 1)) (xs (i + 2))
    exact ⟨t1, g2, _, _, c1, s1, q5, q6, q7, (sw_L_law_23).trans (law_burner hi hL q1 q2 q3 q4)⟩
  by_cases e24 : x = 24
  · rw [e24]
    obtain ⟨k, b, t1, g1, g2, c1, s1, q1, q2, q3, q4, q5, q6, q7⟩ := rl_together H (xs (i + 1)) (xs (i + 2)) (xs (i + 3)) (xs (i + 4))
    exact ⟨t1, g2, _, _, c1, s1, q5, q6, q7, (sw_L_law_24).trans (law_together hi hL q1 q2 q3 q4)⟩
  by_cases e25 : x = 25
  · rw [e25]
    obtain ⟨v, t1, g1, g2, c1, s1, q1, q2, q5, q6, q7⟩ := rl_hear H (xs (i + 1)) (xs (i + 2))
    exact ⟨t1, g2, _, _, c1, s1, q5, q6, q7, (sw_L_law_25).trans (law_hear hi hL q1 q2)⟩
  by_cases e26 : x = 26
  · rw [e26]
    obtain ⟨k, b, t1, g1, g2, c1, s1, q1, q2, q3, q4, q5, q6, q7⟩ := rl_chalk H (xs (i + 1))
    exact ⟨t1, g2, _, _, c1, s1, q5, q6, q7, (sw_L_law_26).trans (law_chalk hi hL q1 q2 q3 q4)⟩
  by_cases e27 : x = 27
  · rw [e27]
    obtain ⟨k, b, t1, g1, g2, c1, s1, q1, q2, q3, q4, q5, q6, q7⟩ := rl_listen H (xs (i + 1))
    exact ⟨t1, g2, _, _, c1, s1, q5, q6, q7, (sw_L_law_27).trans (law_listen hi hL q1 q2 q3 q4)⟩
  by_cases e28 : x = 28
  · rw [e28]
    obtain ⟨t1, g1, g2, c1, s1, q1, q2, q5, q6, q7⟩ := rl_forget H 
    exact ⟨t1, g2, _, _, c1, s1, q5, q6, q7, (sw_L_law_28).trans (law_forget hi hL q1 q2)⟩
  by_cases e29 : x = 29
  · rw [e29]
    obtain ⟨k, b, t1, g1, g2, c1, s1, q1, q2, q3, q4, q5, q6, q7⟩ := rl_game H (xs (i + 1)) (xs (i + 2)) (xs (i + 3))
    exact ⟨t1, g2, _, _, c1, s1, q5, q6, q7, (sw_L_law_29).trans (law_game hi hL q1 q2 q3 q4)⟩
  by_cases e30 : x = 30
  · rw [e30]
    obtain ⟨k, b, t1, g1, g2, c1, s1, q1, q2, q3, q4, q5, q6, q7⟩ := rl_evening H (xs (i + 1)) (xs (i + 2)) (xs (i + 3))
    exact ⟨t1, g2, _, _, c1, s1, q5, q6, q7, (sw_L_law_30).trans (law_evening hi hL q1 q2 q3 q4)⟩
  by_cases e31 : x = 31
  · rw [e31]
    obtain ⟨t1, g1, g2, c1, s1, q1, q2, q5, q6, q7⟩ := rl_image H 
    exact ⟨t1, g2, _, _, c1, s1, q5, q6, q7, (sw_L_law_31).trans (law_image hi hL q1 q2)⟩
  by_cases e32 : x = 32
  · rw [e32]
    obtain ⟨v, t1, g1, g2, c1, s1, q1, q2, q5, q6, q7⟩ := rl_restore H 
    exact ⟨t1, g2, _, _, c1, s1, q5, q6, q7, (sw_L_law_32).trans (law_restore hi hL q1 q2)⟩
  exact ⟨t, g, a5, a6, 0, 0, ⟨N, S, D, L, n, q, T, ac, o, H⟩, by omega, by omega, sw_L_law_d e0 e1 e2 e3 e4 e5 e6 e7 e8 e9 e10 e11 e12 e13 e14 e15 e16 e17 e18 e19 e20 e21 e22 e23 e24 e25 e26 e27 e28 e29 e30 e31 e32⟩
theorem law_loop (hL : Ln ≤ 384) : ∀ (m i : Nat) (t : List px_E) (g : hG) (a5 a6 : Option Value) (cn sn : Nat), i ≤ 384 → Ln < i + 6 * m + 6 → Rel t g →
    ∃ (h' : px_H) (C S : Nat), bc 100 M_L_law (some (Ln, xs)) 23 (lawS i a5 a6) [] (hp t g) cn sn = some (.inl (some (.int 1)), h', C, S) ∧ C ≤ cn + 10 * m ∧ S ≤ sn + 5000 * m := by
  intro m
  have h6 : (Int32.ofNat Ln - 6).toInt = (Ln : Int) - 6 := by
    rw [ii_sub] <;> rw [ii_ofNat (by omega), show (6 : Int32).toInt = 6 by decide] <;> omega
  have out : ∀ (i : Nat) (t : List px_E) (g : hG) (a5 a6 : Option Value) (cn sn : Nat), i ≤ 390 → Ln < i + 6 → bc 100 M_L_law (some (Ln, xs)) 23 (lawS i a5 a6) [] (hp t g) cn sn = some (.inl (some (.int 1)), hp t g, cn, sn) := by
    intro i t g a5 a6 cn sn h1 h2
    have hlt : (Int32.ofNat Ln - 6 < Int32.ofNat i) = True := by rw [ii_lt, h6, ii_ofNat (by omega)]; exact eq_true (by omega)
    rw [st_L_law_23]
    simp only [st_L_law_25, st_L_law_25t, st_L_law_26, st_L_law_27, st_L_law_29, st_L_law_30, st_L_law_33, st_L_law_33t, st_L_law_34, st_L_law_36, st_L_law_37, st_L_law_39, st_L_law_1946, st_L_law_1947, st_L_law_1947b, bM_some, sc_len, hlt, if_true, Nat.reduceAdd]
  induction m with
  | zero =>
    intro i t g a5 a6 cn sn h1 h2 H
    exact ⟨_, _, _, out i t g a5 a6 cn sn (by omega) (by omega), by omega, by omega⟩
  | succ m ih =>
    intro i t g a5 a6 cn sn h1 h2 H
    by_cases hi : i + 6 ≤ Ln
    · have hlt : (Int32.ofNat Ln - 6 < Int32.ofNat i) = False := by rw [ii_lt, h6, ii_ofNat (by omega)]; exact eq_false (by omega)
      obtain ⟨t', g', b5, b6, c, s, H', hc, hs, e⟩ := law_step (xs := xs) (a5 := a5) (a6 := a6) (cn := cn) (sn := sn) (x := xs i &&& 63) H hi hL
      obtain ⟨h', C, S, e2, hC, hS⟩ := ih (i + 6) t' g' b5 b6 (cn + c) (sn + s) (by omega) (by omega) H'
      refine ⟨h', C, S, ?_, by omega, by omega⟩
      rw [← e2]
      have e1 : bc 100 M_L_law (some (Ln, xs)) 23 (lawS i a5 a6) [] (hp t g) cn sn = bc 100 M_L_law (some (Ln, xs)) 40 (lawS i a5 a6) [.int (xs i &&& 63)] (hp t g) cn sn := by
        rw [st_L_law_23]
        simp (disch := omega) only [st_L_law_25, st_L_law_25t, st_L_law_26, st_L_law_27, st_L_law_29, st_L_law_30, st_L_law_33, st_L_law_33t, st_L_law_34, st_L_law_36, st_L_law_37, st_L_law_39, bM_some, sc_len, sc_ald, hlt, if_false, Nat.reduceAdd]
      rw [e1, e]
      simp only [lawS, st_L_law_1940, st_L_law_1943, lc_r, np_6]
    · obtain e := out i t g a5 a6 cn sn (by omega) (by omega)
      exact ⟨_, _, _, e, by omega, by omega⟩
theorem law_goal : kt_Goal := by
  refine kt_Goal_of (fun L xs hL => ?_)
  obtain ⟨h', C, S, e, hC, hS⟩ := law_loop (Ln := L) (xs := xs) hL 64 0 [] g0 none none 89 16245 (by omega) (by omega) Rel_0
  refine ⟨h', C, S, ?_, by omega, by omega⟩
  rw [← e, ← zz_end]
  exact law_in (d := 95) (scr := some (L, xs))
theorem i_vc : Claimed_1_1 ∧ Claimed_1_2 := i_vc_of law_goal
end LOOP
