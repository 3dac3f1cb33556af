/-! ===== printed by wip/whole/steps.py: steps of methods as equations ===== -/
section STEPS
variable {d : Nat} {scr : Option (Nat × (Nat → Int32))} {st : List Value} {h : px_H} {cn sn : Nat} {x y z x3 x4 x5 x6 x7 x8 x9 x10 x11 x12 x13 x14 : Int32} {u w u3 u4 : Int64} {p p1 p2 p3 p4 p5 p6 p7 : Nat} {t : UInt32} {a0 a1 a2 a3 a4 a5 a6 a7 a8 a9 a10 a11 a12 a13 a14 a15 a16 a17 : Option Value}
set_option maxRecDepth 20000 in
theorem st_L_law_1620 : bc d M_L_law scr 1620 [a0, a1, a2, a3, some (.int x), a5, a6] st h cn sn = bc d M_L_law scr 1622 [a0, a1, a2, a3, some (.int x), a5, a6] (.int x :: st) h cn sn := bc_ldi2 rfl rfl
set_option maxRecDepth 20000 in
theorem st_L_law_1622 : bc d M_L_law scr 1622 [a0, a1, a2, a3, a4, a5, a6] st h cn sn = bc d M_L_law scr 1623 [a0, a1, a2, a3, a4, a5, a6] (.int 2 :: st) h cn sn := bc_L rfl rfl
set_option maxRecDepth 20000 in
theorem st_L_law_1623 : bc d M_L_law scr 1623 [a0, a1, a2, a3, a4, a5, a6] (.int y :: .int x :: st) h cn sn = bc d M_L_law scr 1624 [a0, a1, a2, a3, a4, a5, a6] (.int (x + y) :: st) h cn sn := bc_L rfl rfl
set_option maxRecDepth 20000 in
theorem st_L_law_1624 : bc d M_L_law scr 1624 [a0, a1, a2, a3, a4, a5, a6] st h cn sn = bM (px_ald scr 1624 st h) (fun p s g => bc d M_L_law scr p [a0, a1, a2, a3, a4, a5, a6] s g cn sn) := bc_M (en := (.iaload, 1, 0, 0, 0, .null)) rfl rfl rfl rfl rfl rfl px_I_il
set_option maxRecDepth 20000 in
theorem st_L_law_1625 (hc : hcl h p = some 10) (hs : px_sum st ≤ 8) : bc (d + 1) M_L_law scr 1625 [a0, a1, a2, a3, a4, a5, a6] (.int y :: .int x :: .ref p :: st) h cn sn = bC (bc d M_X10_hear none 0 [some (.ref p), some (.int x), some (.int y)] [] h 0 0) (fun v h' c k => bc (d + 1) M_L_law scr 1628 [a0, a1, a2, a3, a4, a5, a6] (v.toList ++ st) h' (cn + c) (sn + k)) (fun z h' c k => some (.inr z, h', cn + c, sn + k)) := bc_I rfl rfl rfl rfl rfl rfl rfl (px_I_vir mt_218 rfl hc hs rfl) rfl rfl rfl
set_option maxRecDepth 20000 in
theorem st_L_law_1628 : bc d M_L_law scr 1628 [a0, a1, a2, a3, a4, a5, a6] (.int y :: .int x :: st) h cn sn = if x = y then bc d M_L_law scr 1940 [a0, a1, a2, a3, a4, a5, a6] st h cn sn else bc d M_L_law scr 1631 [a0, a1, a2, a3, a4, a5, a6] st h cn sn := (bc_ic rfl).trans bt_eq
set_option maxRecDepth 20000 in
theorem st_L_law_1631 : bc d M_L_law scr 1631 [a0, a1, a2, a3, a4, a5, a6] st h cn sn = bc d M_L_law scr 1632 [a0, a1, a2, a3, a4, a5, a6] (.int 0 :: st) h cn sn := bc_L rfl rfl
set_option maxRecDepth 20000 in
theorem st_L_law_1632 : bc d M_L_law scr 1632 [a0, a1, a2, a3, a4, a5, a6] [.int 0] h cn sn = some (.inl (some (.int 0)), h, cn, sn) := bc_E rfl rfl rfl rfl rfl rfl rfl
set_option maxRecDepth 20000 in
theorem st_L_law_1632b : bc d M_L_law scr 1632 [a0, a1, a2, a3, a4, a5, a6] [.int 1] h cn sn = some (.inl (some (.int 1)), h, cn, sn) := bc_E rfl rfl rfl rfl rfl rfl rfl
set_option maxRecDepth 20000 in
theorem st_L_law_1633 : bc d M_L_law scr 1633 [a0, some (.ref p), a2, a3, a4, a5, a6] st h cn sn = bc d M_L_law scr 1634 [a0, some (.ref p), a2, a3, a4, a5, a6] (.ref p :: st) h cn sn := bc_lda1 rfl rfl
set_option maxRecDepth 20000 in
theorem st_L_law_1633t : bc d M_L_law scr 1633 [a0, some (.float t), a2, a3, a4, a5, a6] st h cn sn = bc d M_L_law scr 1634 [a0, some (.float t), a2, a3, a4, a5, a6] (.float t :: st) h cn sn := bc_ldt1 rfl rfl
set_option maxRecDepth 20000 in
theorem st_L_law_1634 : bc d M_L_law scr 1634 [some (.ref p), a1, a2, a3, a4, a5, a6] st h cn sn = bc d M_L_law scr 1635 [some (.ref p), a1, a2, a3, a4, a5, a6] (.ref p :: st) h cn sn := bc_lda1 rfl rfl
set_option maxRecDepth 20000 in
theorem st_L_law_1634t : bc d M_L_law scr 1634 [some (.float t), a1, a2, a3, a4, a5, a6] st h cn sn = bc d M_L_law scr 1635 [some (.float t), a1, a2, a3, a4, a5, a6] (.float t :: st) h cn sn := bc_ldt1 rfl rfl
set_option maxRecDepth 20000 in
theorem st_L_law_1635 : bc d M_L_law scr 1635 [a0, a1, a2, a3, some (.int x), a5, a6] st h cn sn = bc d M_L_law scr 1637 [a0, a1, a2, a3, some (.int x), a5, a6] (.int x :: st) h cn sn := bc_ldi2 rfl rfl
set_option maxRecDepth 20000 in
theorem st_L_law_1637 : bc d M_L_law scr 1637 [a0, a1, a2, a3, a4, a5, a6] st h cn sn = bc d M_L_law scr 1638 [a0, a1, a2, a3, a4, a5, a6] (.int 1 :: st) h cn sn := bc_L rfl rfl
set_option maxRecDepth 20000 in
theorem st_L_law_1638 : bc d M_L_law scr 1638 [a0, a1, a2, a3, a4, a5, a6] (.int y :: .int x :: st) h cn sn = bc d M_L_law scr 1639 [a0, a1, a2, a3, a4, a5, a6] (.int (x + y) :: st) h cn sn := bc_L rfl rfl
set_option maxRecDepth 20000 in
theorem st_L_law_1639 : bc d M_L_law scr 1639 [a0, a1, a2, a3, a4, a5, a6] st h cn sn = bM (px_ald scr 1639 st h) (fun p s g => bc d M_L_law scr p [a0, a1, a2, a3, a4, a5, a6] s g cn sn) := bc_M (en := (.iaload, 1, 0, 0, 0, .null)) rfl rfl rfl rfl rfl rfl px_I_il
set_option maxRecDepth 20000 in
theorem st_L_law_1640 : bc d M_L_law scr 1640 [a0, a1, a2, some (.ref p), a4, a5, a6] st h cn sn = bc d M_L_law scr 1641 [a0, a1, a2, some (.ref p), a4, a5, a6] (.ref p :: st) h cn sn := bc_lda1 rfl rfl
set_option maxRecDepth 20000 in
theorem st_L_law_1640t : bc d M_L_law scr 1640 [a0, a1, a2, some (.float t), a4, a5, a6] st h cn sn = bc d M_L_law scr 1641 [a0, a1, a2, some (.float t), a4, a5, a6] (.float t :: st) h cn sn := bc_ldt1 rfl rfl
set_option maxRecDepth 20000 in
theorem st_L_law_1641 (hs : px_sum st ≤ 8) : bc (d + 1) M_L_law scr 1641 [a0, a1, a2, a3, a4, a5, a6] (.ref p2 :: .int x :: .ref p1 :: st) h cn sn = bC (bc d M_L_chalk none 0 [some (.ref p1), some (.int x), some (.ref p2), none] [] h 0 0) (fun v h' c k => bc (d + 1) M_L_law scr 1644 [a0, a1, a2, a3, a4, a5, a6] (v.toList ++ st) h' (cn + c) (sn + k)) (fun z h' c k => some (.inr z, h', cn + c, sn + k)) := bc_I rfl rfl rfl rfl rfl rfl rfl (px_I_sta mt_257 rfl hs rfl) rfl rfl rfl
set_option maxRecDepth 20000 in
theorem st_L_law_1644 : bc d M_L_law scr 1644 [a0, a1, a2, a3, a4, a5, a6] (.int x :: st) h cn sn = bc d M_L_law scr 1646 [a0, a1, a2, a3, lc_c2 a4, some (.int x), a6] st h cn sn := bc_Ls1 (en := (.istore 5, 2, 0, 0, 0, .null)) (vs := [a0, a1, a2, a3, a4, a5, a6]) (i := 5) (v := .int x) rfl rfl rfl
set_option maxRecDepth 20000 in
theorem st_L_law_1646 : bc d M_L_law scr 1646 [a0, a1, some (.ref p), a3, a4, a5, a6] st h cn sn = bc d M_L_law scr 1647 [a0, a1, some (.ref p), a3, a4, a5, a6] (.ref p :: st) h cn sn := bc_lda1 rfl rfl
set_option maxRecDepth 20000 in
theorem st_L_law_1646t : bc d M_L_law scr 1646 [a0, a1, some (.float t), a3, a4, a5, a6] st h cn sn = bc d M_L_law scr 1647 [a0, a1, some (.float t), a3, a4, a5, a6] (.float t :: st) h cn sn := bc_ldt1 rfl rfl
set_option maxRecDepth 20000 in
theorem st_L_law_1647 : bc d M_L_law scr 1647 [some (.ref p), a1, a2, a3, a4, a5, a6] st h cn sn = bc d M_L_law scr 1648 [some (.ref p), a1, a2, a3, a4, a5, a6] (.ref p :: st) h cn sn := bc_lda1 rfl rfl
set_option maxRecDepth 20000 in
theorem st_L_law_1647t : bc d M_L_law scr 1647 [some (.float t), a1, a2, a3, a4, a5, a6] st h cn sn = bc d M_L_law scr 1648 [some (.float t), a1, a2, a3, a4, a5, a6] (.float t :: st) h cn sn := bc_ldt1 rfl rfl
set_option maxRecDepth 20000 in
theorem st_L_law_1648 : bc d M_L_law scr 1648 [a0, a1, a2, a3, some (.int x), a5, a6] st h cn sn = bc d M_L_law scr 1650 [a0, a1, a2, a3, some (.int x), a5, a6] (.int x :: st) h cn sn := bc_ldi2 rfl rfl
set_option maxRecDepth 20000 in
theorem st_L_law_1650 : bc d M_L_law scr 1650 [a0, a1, a2, a3, a4, a5, a6] st h cn sn = bc d M_L_law scr 1651 [a0, a1, a2, a3, a4, a5, a6] (.int 1 :: st) h cn sn := bc_L rfl rfl
set_option maxRecDepth 20000 in
theorem st_L_law_1651 : bc d M_L_law scr 1651 [a0, a1, a2, a3, a4, a5, a6] (.int y :: .int x :: st) h cn sn = bc d M_L_law scr 1652 [a0, a1, a2, a3, a4, a5, a6] (.int (x + y) :: st) h cn sn := bc_L rfl rfl
set_option maxRecDepth 20000 in
theorem st_L_law_1652 : bc d M_L_law scr 1652 [a0, a1, a2, a3, a4, a5, a6] st h cn sn = bM (px_ald scr 1652 st h) (fun p s g => bc d M_L_law scr p [a0, a1, a2, a3, a4, a5, a6] s g cn sn) := bc_M (en := (.iaload, 1, 0, 0, 0, .null)) rfl rfl rfl rfl rfl rfl px_I_il
set_option maxRecDepth 20000 in
theorem st_L_law_1653 (hc : hcl h p = some 10) (hs : px_sum st ≤ 8) : bc (d + 1) M_L_law scr 1653 [a0, a1, a2, a3, a4, a5, a6] (.int x :: .ref p :: st) h cn sn = bC (bc d M_X10_chalk none 0 [some (.ref p), some (.int x)] [] h 0 0) (fun v h' c k => bc (d + 1) M_L_law scr 1656 [a0, a1, a2, a3, a4, a5, a6] (v.toList ++ st) h' (cn + c) (sn + k)) (fun z h' c k => some (.inr z, h', cn + c, sn + k)) := bc_I rfl rfl rfl rfl rfl rfl rfl (px_I_vir mt_221 rfl hc hs rfl) rfl rfl rfl
set_option maxRecDepth 20000 in
theorem st_L_law_1656 : bc d M_L_law scr 1656 [a0, a1, a2, a3, a4, a5, a6] (.int x :: st) h cn sn = bc d M_L_law scr 1658 [a0, a1, a2, a3, a4, lc_c2 a5, some (.int x)] st h cn sn := bc_Ls1 (en := (.istore 6, 2, 0, 0, 0, .null)) (vs := [a0, a1, a2, a3, a4, a5, a6]) (i := 6) (v := .int x) rfl rfl rfl
set_option maxRecDepth 20000 in
theorem st_L_law_1658 : bc d M_L_law scr 1658 [a0, a1, some (.ref p), a3, a4, a5, a6] st h cn sn = bc d M_L_law scr 1659 [a0, a1, some (.ref p), a3, a4, a5, a6] (.ref p :: st) h cn sn := bc_lda1 rfl rfl
set_option maxRecDepth 20000 in
theorem st_L_law_1658t : bc d M_L_law scr 1658 [a0, a1, some (.float t), a3, a4, a5, a6] st h cn sn = bc d M_L_law scr 1659 [a0, a1, some (.float t), a3, a4, a5, a6] (.float t :: st) h cn sn := bc_ldt1 rfl rfl
set_option maxRecDepth 20000 in
theorem st_L_law_1659 (hc : hcl h p = some 10) (hs : px_sum st ≤ 8) : bc (d + 1) M_L_law scr 1659 [a0, a1, a2, a3, a4, a5, a6] (.ref p :: st) h cn sn = bC (bc d M_X10_thrown none 0 [some (.ref p)] [] h 0 0) (fun v h' c k => bc (d + 1) M_L_law scr 1662 [a0, a1, a2, a3, a4, a5, a6] (v.toList ++ st) h' (cn + c) (sn + k)) (fun z h' c k => some (.inr z, h', cn + c, sn + k)) := bc_I rfl rfl rfl rfl rfl rfl rfl (px_I_vir mt_133 rfl hc hs rfl) rfl rfl rfl
set_option maxRecDepth 20000 in
theorem st_L_law_1662 : bc d M_L_law scr 1662 [a0, a1, a2, a3, a4, some (.int x), a6] st h cn sn = bc d M_L_law scr 1664 [a0, a1, a2, a3, a4, some (.int x), a6] (.int x :: st) h cn sn := bc_ldi2 rfl rfl
set_option maxRecDepth 20000 in
theorem st_L_law_1664 : bc d M_L_law scr 1664 [a0, a1, a2, a3, a4, a5, a6] (.int y :: .int x :: st) h cn sn = if x = y then bc d M_L_law scr 1669 [a0, a1, a2, a3, a4, a5, a6] st h cn sn else bc d M_L_law scr 1667 [a0, a1, a2, a3, a4, a5, a6] st h cn sn := (bc_ic rfl).trans bt_eq
set_option maxRecDepth 20000 in
theorem st_L_law_1667 : bc d M_L_law scr 1667 [a0, a1, a2, a3, a4, a5, a6] st h cn sn = bc d M_L_law scr 1668 [a0, a1, a2, a3, a4, a5, a6] (.int 0 :: st) h cn sn := bc_L rfl rfl
set_option maxRecDepth 20000 in
theorem st_L_law_1668 : bc d M_L_law scr 1668 [a0, a1, a2, a3, a4, a5, a6] [.int 0] h cn sn = some (.inl (some (.int 0)), h, cn, sn) := bc_E rfl rfl rfl rfl rfl rfl rfl
set_option maxRecDepth 20000 in
theorem st_L_law_1668b : bc d M_L_law scr 1668 [a0, a1, a2, a3, a4, a5, a6] [.int 1] h cn sn = some (.inl (some (.int 1)), h, cn, sn) := bc_E rfl rfl rfl rfl rfl rfl rfl
set_option maxRecDepth 20000 in
theorem st_L_law_1669 : bc d M_L_law scr 1669 [a0, a1, a2, a3, a4, some (.int x), a6] st h cn sn = bc d M_L_law scr 1671 [a0, a1, a2, a3, a4, some (.int x), a6] (.int x :: st) h cn sn := bc_ldi2 rfl rfl
set_option maxRecDepth 20000 in
theorem st_L_law_1671 : bc d M_L_law scr 1671 [a0, a1, a2, a3, a4, a5, a6] (.int x :: st) h cn sn = if x = 0 then bc d M_L_law scr 1674 [a0, a1, a2, a3, a4, a5, a6] st h cn sn else bc d M_L_law scr 1686 [a0, a1, a2, a3, a4, a5, a6] st h cn sn := (bc_if rfl).trans bt_ne
set_option maxRecDepth 20000 in
theorem st_L_law_1674 : bc d M_L_law scr 1674 [a0, a1, a2, some (.ref p), a4, a5, a6] st h cn sn = bc d M_L_law scr 1675 [a0, a1, a2, some (.ref p), a4, a5, a6] (.ref p :: st) h cn sn := bc_lda1 rfl rfl
set_option maxRecDepth 20000 in
theorem st_L_law_1674t : bc d M_L_law scr 1674 [a0, a1, a2, some (.float t), a4, a5, a6] st h cn sn = bc d M_L_law scr 1675 [a0, a1, a2, some (.float t), a4, a5, a6] (.float t :: st) h cn sn := bc_ldt1 rfl rfl
set_option maxRecDepth 20000 in
theorem st_L_law_1675 : bc d M_L_law scr 1675 [a0, a1, a2, a3, a4, a5, a6] st h cn sn = bc d M_L_law scr 1676 [a0, a1, a2, a3, a4, a5, a6] (.int 0 :: st) h cn sn := bc_L rfl rfl
set_option maxRecDepth 20000 in
theorem st_L_law_1676 : bc d M_L_law scr 1676 [a0, a1, a2, a3, a4, a5, a6] st h cn sn = bM (px_lld 1676 st h) (fun p s g => bc d M_L_law scr p [a0, a1, a2, a3, a4, a5, a6] s g cn sn) := bc_M (en := (.laload, 1, 0, 0, 0, .null)) rfl rfl rfl rfl rfl rfl px_I_ll
set_option maxRecDepth 20000 in
theorem st_L_law_1677 : bc d M_L_law scr 1677 [a0, a1, a2, a3, a4, a5, some (.int x)] st h cn sn = bc d M_L_law scr 1679 [a0, a1, a2, a3, a4, a5, some (.int x)] (.int x :: st) h cn sn := bc_ldi2 rfl rfl
set_option maxRecDepth 20000 in
theorem st_L_law_1679 : bc d M_L_law scr 1679 [a0, a1, a2, a3, a4, a5, a6] (.int x :: st) h cn sn = bc d M_L_law scr 1680 [a0, a1, a2, a3, a4, a5, a6] (.long x.toInt64 :: st) h cn sn := bc_L rfl rfl
set_option maxRecDepth 20000 in
theorem st_L_law_1680 : bc d M_L_law scr 1680 [a0, a1, a2, a3, a4, a5, a6] (.long w :: .long u :: st) h cn sn = bc d M_L_law scr 1681 [a0, a1, a2, a3, a4, a5, a6] (.int (lg_cmp u w) :: st) h cn sn := bc_L rfl rfl
set_option maxRecDepth 20000 in
theorem st_L_law_1681 : bc d M_L_law scr 1681 [a0, a1, a2, a3, a4, a5, a6] (.int x :: st) h cn sn = if x = 0 then bc d M_L_law scr 1686 [a0, a1, a2, a3, a4, a5, a6] st h cn sn else bc d M_L_law scr 1684 [a0, a1, a2, a3, a4, a5, a6] st h cn sn := (bc_if rfl).trans bt_eq
set_option maxRecDepth 20000 in
theorem st_L_law_1684 : bc d M_L_law scr 1684 [a0, a1, a2, a3, a4, a5, a6] st h cn sn = bc d M_L_law scr 1685 [a0, a1, a2, a3, a4, a5, a6] (.int 0 :: st) h cn sn := bc_L rfl rfl
set_option maxRecDepth 20000 in
theorem st_L_law_1685 : bc d M_L_law scr 1685 [a0, a1, a2, a3, a4, a5, a6] [.int 0] h cn sn = some (.inl (some (.int 0)), h, cn, sn) := bc_E rfl rfl rfl rfl rfl rfl rfl
set_option maxRecDepth 20000 in
theorem st_L_law_1685b : bc d M_L_law scr 1685 [a0, a1, a2, a3, a4, a5, a6] [.int 1] h cn sn = some (.inl (some (.int 1)), h, cn, sn) := bc_E rfl rfl rfl rfl rfl rfl rfl
set_option maxRecDepth 20000 in
theorem st_L_law_1686 : bc d M_L_law scr 1686 [a0, a1, a2, a3, a4, a5, a6] st h cn sn = bc d M_L_law scr 1940 [a0, a1, a2, a3, a4, a5, a6] st h cn sn := bc_L rfl rfl
set_option maxRecDepth 20000 in
theorem st_L_law_1689 : bc d M_L_law scr 1689 [a0, some (.ref p), a2, a3, a4, a5, a6] st h cn sn = bc d M_L_law scr 1690 [a0, some (.ref p), a2, a3, a4, a5, a6] (.ref p :: st) h cn sn := bc_lda1 rfl rfl
set_option maxRecDepth 20000 in
theorem st_L_law_1689t : bc d M_L_law scr 1689 [a0, some (.float t), a2, a3, a4, a5, a6] st h cn sn = bc d M_L_law scr 1690 [a0, some (.float t), a2, a3, a4, a5, a6] (.float t :: st) h cn sn := bc_ldt1 rfl rfl
set_option maxRecDepth 20000 in
theorem st_L_law_1690 : bc d M_L_law scr 1690 [some (.ref p), a1, a2, a3, a4, a5, a6] st h cn sn = bc d M_L_law scr 1691 [some (.ref p), a1, a2, a3, a4, a5, a6] (.ref p :: st) h cn sn := bc_lda1 rfl rfl
set_option maxRecDepth 20000 in
theorem st_L_law_1690t : bc d M_L_law scr 1690 [some (.float t), a1, a2, a3, a4, a5, a6] st h cn sn = bc d M_L_law scr 1691 [some (.float t), a1, a2, a3, a4, a5, a6] (.float t :: st) h cn sn := bc_ldt1 rfl rfl
set_option maxRecDepth 20000 in
theorem st_L_law_1691 : bc d M_L_law scr 1691 [a0, a1, a2, a3, some (.int x), a5, a6] st h cn sn = bc d M_L_law scr 1693 [a0, a1, a2, a3, some (.int x), a5, a6] (.int x :: st) h cn sn := bc_ldi2 rfl rfl
set_option maxRecDepth 20000 in
theorem st_L_law_1693 : bc d M_L_law scr 1693 [a0, a1, a2, a3, a4, a5, a6] st h cn sn = bc d M_L_law scr 1694 [a0, a1, a2, a3, a4, a5, a6] (.int 1 :: st) h cn sn := bc_L rfl rfl
set_option maxRecDepth 20000 in
theorem st_L_law_1694 : bc d M_L_law scr 1694 [a0, a1, a2, a3, a4, a5, a6] (.int y :: .int x :: st) h cn sn = bc d M_L_law scr 1695 [a0, a1, a2, a3, a4, a5, a6] (.int (x + y) :: st) h cn sn := bc_L rfl rfl
set_option maxRecDepth 20000 in
theorem st_L_law_1695 : bc d M_L_law scr 1695 [a0, a1, a2, a3, a4, a5, a6] st h cn sn = bM (px_ald scr 1695 st h) (fun p s g => bc d M_L_law scr p [a0, a1, a2, a3, a4, a5, a6] s g cn sn) := bc_M (en := (.iaload, 1, 0, 0, 0, .null)) rfl rfl rfl rfl rfl rfl px_I_il
set_option maxRecDepth 20000 in
theorem st_L_law_1696 : bc d M_L_law scr 1696 [a0, a1, a2, some (.ref p), a4, a5, a6] st h cn sn = bc d M_L_law scr 1697 [a0, a1, a2, some (.ref p), a4, a5, a6] (.ref p :: st) h cn sn := bc_lda1 rfl rfl
set_option maxRecDepth 20000 in
theorem st_L_law_1696t : bc d M_L_law scr 1696 [a0, a1, a2, some (.float t), a4, a5, a6] st h cn sn = bc d M_L_law scr 1697 [a0, a1, a2, some (.float t), a4, a5, a6] (.float t :: st) h cn sn := bc_ldt1 rfl rfl
set_option maxRecDepth 20000 in
theorem st_L_law_1697 (hs : px_sum st ≤ 8) : bc (d + 1) M_L_law scr 1697 [a0, a1, a2, a3, a4, a5, a6] (.ref p2 :: .int x :: .ref p1 :: st) h cn sn = bC (bc d M_L_listen none 0 [some (.ref p1), some (.int x), some (.ref p2), none] [] h 0 0) (fun v h' c k => bc (d + 1) M_L_law scr 1700 [a0, a1, a2, a3, a4, a5, a6] (v.toList ++ st) h' (cn + c) (sn + k)) (fun z h' c k => some (.inr z, h', cn + c, sn + k)) := bc_I rfl rfl rfl rfl rfl rfl rfl (px_I_sta mt_258 rfl hs rfl) rfl rfl rfl
set_option maxRecDepth 20000 in
theorem st_L_law_1700 : bc d M_L_law scr 1700 [a0, a1, a2, a3, a4, a5, a6] (.int x :: st) h cn sn = bc d M_L_law scr 1702 [a0, a1, a2, a3, lc_c2 a4, some (.int x), a6] st h cn sn := bc_Ls1 (en := (.istore 5, 2, 0, 0, 0, .null)) (vs := [a0, a1, a2, a3, a4, a5, a6]) (i := 5) (v := .int x) rfl rfl rfl
set_option maxRecDepth 20000 in
theorem st_L_law_1702 : bc d M_L_law scr 1702 [a0, a1, some (.ref p), a3, a4, a5, a6] st h cn sn = bc d M_L_law scr 1703 [a0, a1, some (.ref p), a3, a4, a5, a6] (.ref p :: st) h cn sn := bc_lda1 rfl rfl
set_option maxRecDepth 20000 in
theorem st_L_law_1702t : bc d M_L_law scr 1702 [a0, a1, some (.float t), a3, a4, a5, a6] st h cn sn = bc d M_L_law scr 1703 [a0, a1, some (.float t), a3, a4, a5, a6] (.float t :: st) h cn sn := bc_ldt1 rfl rfl
set_option maxRecDepth 20000 in
theorem st_L_law_1703 : bc d M_L_law scr 1703 [some (.ref p), a1, a2, a3, a4, a5, a6] st h cn sn = bc d M_L_law scr 1704 [some (.ref p), a1, a2, a3, a4, a5, a6] (.ref p :: st) h cn sn := bc_lda1 rfl rfl
set_option maxRecDepth 20000 in
theorem st_L_law_1703t : bc d M_L_law scr 1703 [some (.float t), a1, a2, a3, a4, a5, a6] st h cn sn = bc d M_L_law scr 1704 [some (.float t), a1, a2, a3, a4, a5, a6] (.float t :: st) h cn sn := bc_ldt1 rfl rfl
set_option maxRecDepth 20000 in
theorem st_L_law_1704 : bc d M_L_law scr 1704 [a0, a1, a2, a3, some (.int x), a5, a6] st h cn sn = bc d M_L_law scr 1706 [a0, a1, a2, a3, some (.int x), a5, a6] (.int x :: st) h cn sn := bc_ldi2 rfl rfl
set_option maxRecDepth 20000 in
theorem st_L_law_1706 : bc d M_L_law scr 1706 [a0, a1, a2, a3, a4, a5, a6] st h cn sn = bc d M_L_law scr 1707 [a0, a1, a2, a3, a4, a5, a6] (.int 1 :: st) h cn sn := bc_L rfl rfl
set_option maxRecDepth 20000 in
theorem st_L_law_1707 : bc d M_L_law scr 1707 [a0, a1, a2, a3, a4, a5, a6] (.int y :: .int x :: st) h cn sn = bc d M_L_law scr 1708 [a0, a1, a2, a3, a4, a5, a6] (.int (x + y) :: st) h cn sn := bc_L rfl rfl
set_option maxRecDepth 20000 in
theorem st_L_law_1708 : bc d M_L_law scr 1708 [a0, a1, a2, a3, a4, a5, a6] st h cn sn = bM (px_ald scr 1708 st h) (fun p s g => bc d M_L_law scr p [a0, a1, a2, a3, a4, a5, a6] s g cn sn) := bc_M (en := (.iaload, 1, 0, 0, 0, .null)) rfl rfl rfl rfl rfl rfl px_I_il
set_option maxRecDepth 20000 in
theorem st_L_law_1709 (hc : hcl h p = some 10) (hs : px_sum st ≤ 8) : bc (d + 1) M_L_law scr 1709 [a0, a1, a2, a3, a4, a5, a6] (.int x :: .ref p :: st) h cn sn = bC (bc d M_X10_listen none 0 [some (.ref p), some (.int x), none, none, none, none] [] h 0 0) (fun v h' c k => bc (d + 1) M_L_law scr 1712 [a0, a1, a2, a3, a4, a5, a6] (v.toList ++ st) h' (cn + c) (sn + k)) (fun z h' c k => some (.inr z, h', cn + c, sn + k)) := bc_I rfl rfl rfl rfl rfl rfl rfl (px_I_vir mt_225 rfl hc hs rfl) rfl rfl rfl
set_option maxRecDepth 20000 in
theorem st_L_law_1712 : bc d M_L_law scr 1712 [a0, a1, a2, a3, a4, a5, a6] (.int x :: st) h cn sn = bc d M_L_law scr 1714 [a0, a1, a2, a3, a4, lc_c2 a5, some (.int x)] st h cn sn := bc_Ls1 (en := (.istore 6, 2, 0, 0, 0, .null)) (vs := [a0, a1, a2, a3, a4, a5, a6]) (i := 6) (v := .int x) rfl rfl rfl
set_option maxRecDepth 20000 in
theorem st_L_law_1714 : bc d M_L_law scr 1714 [a0, a1, some (.ref p), a3, a4, a5, a6] st h cn sn = bc d M_L_law scr 1715 [a0, a1, some (.ref p), a3, a4, a5, a6] (.ref p :: st) h cn sn := bc_lda1 rfl rfl
set_option maxRecDepth 20000 in
theorem st_L_law_1714t : bc d M_L_law scr 1714 [a0, a1, some (.float t), a3, a4, a5, a6] st h cn sn = bc d M_L_law scr 1715 [a0, a1, some (.float t), a3, a4, a5, a6] (.float t :: st) h cn sn := bc_ldt1 rfl rfl
set_option maxRecDepth 20000 in
theorem st_L_law_1715 (hc : hcl h p = some 10) (hs : px_sum st ≤ 8) : bc (d + 1) M_L_law scr 1715 [a0, a1, a2, a3, a4, a5, a6] (.ref p :: st) h cn sn = bC (bc d M_X10_thrown none 0 [some (.ref p)] [] h 0 0) (fun v h' c k => bc (d + 1) M_L_law scr 1718 [a0, a1, a2, a3, a4, a5, a6] (v.toList ++ st) h' (cn + c) (sn + k)) (fun z h' c k => some (.inr z, h', cn + c, sn + k)) := bc_I rfl rfl rfl rfl rfl rfl rfl (px_I_vir mt_133 rfl hc hs rfl) rfl rfl rfl
set_option maxRecDepth 20000 in
theorem st_L_law_1718 : bc d M_L_law scr 1718 [a0, a1, a2, a3, a4, some (.int x), a6] st h cn sn = bc d M_L_law scr 1720 [a0, a1, a2, a3, a4, some (.int x), a6] (.int x :: st) h cn sn := bc_ldi2 rfl rfl
set_option maxRecDepth 20000 in
theorem st_L_law_1720 : bc d M_L_law scr 1720 [a0, a1, a2, a3, a4, a5, a6] (.int y :: .int x :: st) h cn sn = if x = y then bc d M_L_law scr 1725 [a0, a1, a2, a3, a4, a5, a6] st h cn sn else bc d M_L_law scr 1723 [a0, a1, a2, a3, a4, a5, a6] st h cn sn := (bc_ic rfl).trans bt_eq
set_option maxRecDepth 20000 in
theorem st_L_law_1723 : bc d M_L_law scr 1723 [a0, a1, a2, a3, a4, a5, a6] st h cn sn = bc d M_L_law scr 1724 [a0, a1, a2, a3, a4, a5, a6] (.int 0 :: st) h cn sn := bc_L rfl rfl
set_option maxRecDepth 20000 in
theorem st_L_law_1724 : bc d M_L_law scr 1724 [a0, a1, a2, a3, a4, a5, a6] [.int 0] h cn sn = some (.inl (some (.int 0)), h, cn, sn) := bc_E rfl rfl rfl rfl rfl rfl rfl
set_option maxRecDepth 20000 in
theorem st_L_law_1724b : bc d M_L_law scr 1724 [a0, a1, a2, a3, a4, a5, a6] [.int 1] h cn sn = some (.inl (some (.int 1)), h, cn, sn) := bc_E rfl rfl rfl rfl rfl rfl rfl
set_option maxRecDepth 20000 in
theorem st_L_law_1725 : bc d M_L_law scr 1725 [a0, a1, a2, a3, a4, some (.int x), a6] st h cn sn = bc d M_L_law scr 1727 [a0, a1, a2, a3, a4, some (.int x), a6] (.int x :: st) h cn sn := bc_ldi2 rfl rfl
set_option maxRecDepth 20000 in
theorem st_L_law_1727 : bc d M_L_law scr 1727 [a0, a1, a2, a3, a4, a5, a6] (.int x :: st) h cn sn = if x = 0 then bc d M_L_law scr 1730 [a0, a1, a2, a3, a4, a5, a6] st h cn sn else bc d M_L_law scr 1742 [a0, a1, a2, a3, a4, a5, a6] st h cn sn := (bc_if rfl).trans bt_ne
set_option maxRecDepth 20000 in
theorem st_L_law_1730 : bc d M_L_law scr 1730 [a0, a1, a2, some (.ref p), a4, a5, a6] st h cn sn = bc d M_L_law scr 1731 [a0, a1, a2, some (.ref p), a4, a5, a6] (.ref p :: st) h cn sn := bc_lda1 rfl rfl
set_option maxRecDepth 20000 in
theorem st_L_law_1730t : bc d M_L_law scr 1730 [a0, a1, a2, some (.float t), a4, a5, a6] st h cn sn = bc d M_L_law scr 1731 [a0, a1, a2, some (.float t), a4, a5, a6] (.float t :: st) h cn sn := bc_ldt1 rfl rfl
set_option maxRecDepth 20000 in
theorem st_L_law_1731 : bc d M_L_law scr 1731 [a0, a1, a2, a3, a4, a5, a6] st h cn sn = bc d M_L_law scr 1732 [a0, a1, a2, a3, a4, a5, a6] (.int 0 :: st) h cn sn := bc_L rfl rfl
set_option maxRecDepth 20000 in
theorem st_L_law_1732 : bc d M_L_law scr 1732 [a0, a1, a2, a3, a4, a5, a6] st h cn sn = bM (px_lld 1732 st h) (fun p s g => bc d M_L_law scr p [a0, a1, a2, a3, a4, a5, a6] s g cn sn) := bc_M (en := (.laload, 1, 0, 0, 0, .null)) rfl rfl rfl rfl rfl rfl px_I_ll
set_option maxRecDepth 20000 in
theorem st_L_law_1733 : bc d M_L_law scr 1733 [a0, a1, a2, a3, a4, a5, some (.int x)] st h cn sn = bc d M_L_law scr 1735 [a0, a1, a2, a3, a4, a5, some (.int x)] (.int x :: st) h cn sn := bc_ldi2 rfl rfl
set_option maxRecDepth 20000 in
theorem st_L_law_1735 : bc d M_L_law scr 1735 [a0, a1, a2, a3, a4, a5, a6] (.int x :: st) h cn sn = bc d M_L_law scr 1736 [a0, a1, a2, a3, a4, a5, a6] (.long x.toInt64 :: st) h cn sn := bc_L rfl rfl
set_option maxRecDepth 20000 in
theorem st_L_law_1736 : bc d M_L_law scr 1736 [a0, a1, a2, a3, a4, a5, a6] (.long w :: .long u :: st) h cn sn = bc d M_L_law scr 1737 [a0, a1, a2, a3, a4, a5, a6] (.int (lg_cmp u w) :: st) h cn sn := bc_L rfl rfl
set_option maxRecDepth 20000 in
theorem st_L_law_1737 : bc d M_L_law scr 1737 [a0, a1, a2, a3, a4, a5, a6] (.int x :: st) h cn sn = if x = 0 then bc d M_L_law scr 1742 [a0, a1, a2, a3, a4, a5, a6] st h cn sn else bc d M_L_law scr 1740 [a0, a1, a2, a3, a4, a5, a6] st h cn sn := (bc_if rfl).trans bt_eq
set_option maxRecDepth 20000 in
theorem st_L_law_1740 : bc d M_L_law scr 1740 [a0, a1, a2, a3, a4, a5, a6] st h cn sn = bc d M_L_law scr 1741 [a0, a1, a2, a3, a4, a5, a6] (.int 0 :: st) h cn sn := bc_L rfl rfl
set_option maxRecDepth 20000 in
theorem st_L_law_1741 : bc d M_L_law scr 1741 [a0, a1, a2, a3, a4, a5, a6] [.int 0] h cn sn = some (.inl (some (.int 0)), h, cn, sn) := bc_E rfl rfl rfl rfl rfl rfl rfl
set_option maxRecDepth 20000 in
theorem st_L_law_1741b : bc d M_L_law scr 1741 [a0, a1, a2, a3, a4, a5, a6] [.int 1] h cn sn = some (.inl (some (.int 1)), h, cn, sn) := bc_E rfl rfl rfl rfl rfl rfl rfl
set_option maxRecDepth 20000 in
theorem st_L_law_1742 : bc d M_L_law scr 1742 [a0, a1, a2, a3, a4, a5, a6] st h cn sn = bc d M_L_law scr 1940 [a0, a1, a2, a3, a4, a5, a6] st h cn sn := bc_L rfl rfl
set_option maxRecDepth 20000 in
theorem st_L_law_1745 : bc d M_L_law scr 1745 [a0, some (.ref p), a2, a3, a4, a5, a6] st h cn sn = bc d M_L_law scr 1746 [a0, some (.ref p), a2, a3, a4, a5, a6] (.ref p :: st) h cn sn := bc_lda1 rfl rfl
set_option maxRecDepth 20000 in
theorem st_L_law_1745t : bc d M_L_law scr 1745 [a0, some (.float t), a2, a3, a4, a5, a6] st h cn sn = bc d M_L_law scr 1746 [a0, some (.float t), a2, a3, a4, a5, a6] (.float t :: st) h cn sn := bc_ldt1 rfl rfl
set_option maxRecDepth 20000 in
theorem st_L_law_1746 (hc : hcl h p = some 9) (hs : px_sum st ≤ 8) : bc (d + 1) M_L_law scr 1746 [a0, a1, a2, a3, a4, a5, a6] (.ref p :: st) h cn sn = bC (bc d M_X9_forget none 0 [some (.ref p)] [] h 0 0) (fun v h' c k => bc (d + 1) M_L_law scr 1749 [a0, a1, a2, a3, a4, a5, a6] (v.toList ++ st) h' (cn + c) (sn + k)) (fun z h' c k => some (.inr z, h', cn + c, sn + k)) := bc_I rfl rfl rfl rfl rfl rfl rfl (px_I_vir mt_107 rfl hc hs rfl) rfl rfl rfl
set_option maxRecDepth 20000 in
theorem st_L_law_1749 : bc d M_L_law scr 1749 [a0, a1, some (.ref p), a3, a4, a5, a6] st h cn sn = bc d M_L_law scr 1750 [a0, a1, some (.ref p), a3, a4, a5, a6] (.ref p :: st) h cn sn := bc_lda1 rfl rfl
set_option maxRecDepth 20000 in
theorem st_L_law_1749t : bc d M_L_law scr 1749 [a0, a1, some (.float t), a3, a4, a5, a6] st h cn sn = bc d M_L_law scr 1750 [a0, a1, some (.float t), a3, a4, a5, a6] (.float t :: st) h cn sn := bc_ldt1 rfl rfl
set_option maxRecDepth 20000 in
theorem st_L_law_1750 (hc : hcl h p = some 10) (hs : px_sum st ≤ 8) : bc (d + 1) M_L_law scr 1750 [a0, a1, a2, a3, a4, a5, a6] (.ref p :: st) h cn sn = bC (bc d M_X10_forget none 0 [some (.ref p)] [] h 0 0) (fun v h' c k => bc (d + 1) M_L_law scr 1753 [a0, a1, a2, a3, a4, a5, a6] (v.toList ++ st) h' (cn + c) (sn + k)) (fun z h' c k => some (.inr z, h', cn + c, sn + k)) := bc_I rfl rfl rfl rfl rfl rfl rfl (px_I_vir mt_226 rfl hc hs rfl) rfl rfl rfl
set_option maxRecDepth 20000 in
theorem st_L_law_1753 : bc d M_L_law scr 1753 [a0, a1, a2, a3, a4, a5, a6] st h cn sn = bc d M_L_law scr 1940 [a0, a1, a2, a3, a4, a5, a6] st h cn sn := bc_L rfl rfl
set_option maxRecDepth 20000 in
theorem st_L_law_1756 : bc d M_L_law scr 1756 [a0, some (.ref p), a2, a3, a4, a5, a6] st h cn sn = bc d M_L_law scr 1757 [a0, some (.ref p), a2, a3, a4, a5, a6] (.ref p :: st) h cn sn := bc_lda1 rfl rfl
set_option maxRecDepth 20000 in
theorem st_L_law_1756t : bc d M_L_law scr 1756 [a0, some (.float t), a2, a3, a4, a5, a6] st h cn sn = bc d M_L_law scr 1757 [a0, some (.float t), a2, a3, a4, a5, a6] (.float t :: st) h cn sn := bc_ldt1 rfl rfl
set_option maxRecDepth 20000 in
theorem st_L_law_1757 : bc d M_L_law scr 1757 [some (.ref p), a1, a2, a3, a4, a5, a6] st h cn sn = bc d M_L_law scr 1758 [some (.ref p), a1, a2, a3, a4, a5, a6] (.ref p :: st) h cn sn := bc_lda1 rfl rfl
set_option maxRecDepth 20000 in
theorem st_L_law_1757t : bc d M_L_law scr 1757 [some (.float t), a1, a2, a3, a4, a5, a6] st h cn sn = bc d M_L_law scr 1758 [some (.float t), a1, a2, a3, a4, a5, a6] (.float t :: st) h cn sn := bc_ldt1 rfl rfl
set_option maxRecDepth 20000 in
theorem st_L_law_1758 : bc d M_L_law scr 1758 [a0, a1, a2, a3, some (.int x), a5, a6] st h cn sn = bc d M_L_law scr 1760 [a0, a1, a2, a3, some (.int x), a5, a6] (.int x :: st) h cn sn := bc_ldi2 rfl rfl
set_option maxRecDepth 20000 in
theorem st_L_law_1760 : bc d M_L_law scr 1760 [a0, a1, a2, a3, a4, a5, a6] st h cn sn = bc d M_L_law scr 1761 [a0, a1, a2, a3, a4, a5, a6] (.int 1 :: st) h cn sn := bc_L rfl rfl
set_option maxRecDepth 20000 in
theorem st_L_law_1761 : bc d M_L_law scr 1761 [a0, a1, a2, a3, a4, a5, a6] (.int y :: .int x :: st) h cn sn = bc d M_L_law scr 1762 [a0, a1, a2, a3, a4, a5, a6] (.int (x + y) :: st) h cn sn := bc_L rfl rfl
set_option maxRecDepth 20000 in
theorem st_L_law_1762 : bc d M_L_law scr 1762 [a0, a1, a2, a3, a4, a5, a6] st h cn sn = bM (px_ald scr 1762 st h) (fun p s g => bc d M_L_law scr p [a0, a1, a2, a3, a4, a5, a6] s g cn sn) := bc_M (en := (.iaload, 1, 0, 0, 0, .null)) rfl rfl rfl rfl rfl rfl px_I_il
set_option maxRecDepth 20000 in
theorem st_L_law_1763 : bc d M_L_law scr 1763 [some (.ref p), a1, a2, a3, a4, a5, a6] st h cn sn = bc d M_L_law scr 1764 [some (.ref p), a1, a2, a3, a4, a5, a6] (.ref p :: st) h cn sn := bc_lda1 rfl rfl
set_option maxRecDepth 20000 in
theorem st_L_law_1763t : bc d M_L_law scr 1763 [some (.float t), a1, a2, a3, a4, a5, a6] st h cn sn = bc d M_L_law scr 1764 [some (.float t), a1, a2, a3, a4, a5, a6] (.float t :: st) h cn sn := bc_ldt1 rfl rfl
set_option maxRecDepth 20000 in
theorem st_L_law_1764 : bc d M_L_law scr 1764 [a0, a1, a2, a3, some (.int x), a5, a6] st h cn sn = bc d M_L_law scr 1766 [a0, a1, a2, a3, some (.int x), a5, a6] (.int x :: st) h cn sn := bc_ldi2 rfl rfl
set_option maxRecDepth 20000 in
theorem st_L_law_1766 : bc d M_L_law scr 1766 [a0, a1, a2, a3, a4, a5, a6] st h cn sn = bc d M_L_law scr 1767 [a0, a1, a2, a3, a4, a5, a6] (.int 2 :: st) h cn sn := bc_L rfl rfl
set_option maxRecDepth 20000 in
theorem st_L_law_1767 : bc d M_L_law scr 1767 [a0, a1, a2, a3, a4, a5, a6] (.int y :: .int x :: st) h cn sn = bc d M_L_law scr 1768 [a0, a1, a2, a3, a4, a5, a6] (.int (x + y) :: st) h cn sn := bc_L rfl rfl
set_option maxRecDepth 20000 in
theorem st_L_law_1768 : bc d M_L_law scr 1768 [a0, a1, a2, a3, a4, a5, a6] st h cn sn = bM (px_ald scr 1768 st h) (fun p s g => bc d M_L_law scr p [a0, a1, a2, a3, a4, a5, a6] s g cn sn) := bc_M (en := (.iaload, 1, 0, 0, 0, .null)) rfl rfl rfl rfl rfl rfl px_I_il
set_option maxRecDepth 20000 in
theorem st_L_law_1769 : bc d M_L_law scr 1769 [some (.ref p), a1, a2, a3, a4, a5, a6] st h cn sn = bc d M_L_law scr 1770 [some (.ref p), a1, a2, a3, a4, a5, a6] (.ref p :: st) h cn sn := bc_lda1 rfl rfl
set_option maxRecDepth 20000 in
theorem st_L_law_1769t : bc d M_L_law scr 1769 [some (.float t), a1, a2, a3, a4, a5, a6] st h cn sn = bc d M_L_law scr 1770 [some (.float t), a1, a2, a3, a4, a5, a6] (.float t :: st) h cn sn := bc_ldt1 rfl rfl
set_option maxRecDepth 20000 in
theorem st_L_law_1770 : bc d M_L_law scr 1770 [a0, a1, a2, a3, some (.int x), a5, a6] st h cn sn = bc d M_L_law scr 1772 [a0, a1, a2, a3, some (.int x), a5, a6] (.int x :: st) h cn sn := bc_ldi2 rfl rfl
set_option maxRecDepth 20000 in
theorem st_L_law_1772 : bc d M_L_law scr 1772 [a0, a1, a2, a3, a4, a5, a6] st h cn sn = bc d M_L_law scr 1773 [a0, a1, a2, a3, a4, a5, a6] (.int 3 :: st) h cn sn := bc_L rfl rfl
set_option maxRecDepth 20000 in
theorem st_L_law_1773 : bc d M_L_law scr 1773 [a0, a1, a2, a3, a4, a5, a6] (.int y :: .int x :: st) h cn sn = bc d M_L_law scr 1774 [a0, a1, a2, a3, a4, a5, a6] (.int (x + y) :: st) h cn sn := bc_L rfl rfl
set_option maxRecDepth 20000 in
theorem st_L_law_1774 : bc d M_L_law scr 1774 [a0, a1, a2, a3, a4, a5, a6] st h cn sn = bM (px_ald scr 1774 st h) (fun p s g => bc d M_L_law scr p [a0, a1, a2, a3, a4, a5, a6] s g cn sn) := bc_M (en := (.iaload, 1, 0, 0, 0, .null)) rfl rfl rfl rfl rfl rfl px_I_il
set_option maxRecDepth 20000 in
theorem st_L_law_1775 : bc d M_L_law scr 1775 [a0, a1, a2, some (.ref p), a4, a5, a6] st h cn sn = bc d M_L_law scr 1776 [a0, a1, a2, some (.ref p), a4, a5, a6] (.ref p :: st) h cn sn := bc_lda1 rfl rfl
set_option maxRecDepth 20000 in
theorem st_L_law_1775t : bc d M_L_law scr 1775 [a0, a1, a2, some (.float t), a4, a5, a6] st h cn sn = bc d M_L_law scr 1776 [a0, a1, a2, some (.float t), a4, a5, a6] (.float t :: st) h cn sn := bc_ldt1 rfl rfl
set_option maxRecDepth 20000 in
theorem st_L_law_1776 (hs : px_sum st ≤ 8) : bc (d + 1) M_L_law scr 1776 [a0, a1, a2, a3, a4, a5, a6] (.ref p2 :: .int z :: .int y :: .int x :: .ref p1 :: st) h cn sn = bC (bc d M_L_game none 0 [some (.ref p1), some (.int x), some (.int y), some (.int z), some (.ref p2), none] [] h 0 0) (fun v h' c k => bc (d + 1) M_L_law scr 1779 [a0, a1, a2, a3, a4, a5, a6] (v.toList ++ st) h' (cn + c) (sn + k)) (fun z h' c k => some (.inr z, h', cn + c, sn + k)) := bc_I rfl rfl rfl rfl rfl rfl rfl (px_I_sta mt_259 rfl hs rfl) rfl rfl rfl
set_option maxRecDepth 20000 in
theorem st_L_law_1779 : bc d M_L_law scr 1779 [a0, a1, a2, a3, a4, a5, a6] (.int x :: st) h cn sn = bc d M_L_law scr 1781 [a0, a1, a2, a3, lc_c2 a4, some (.int x), a6] st h cn sn := bc_Ls1 (en := (.istore 5, 2, 0, 0, 0, .null)) (vs := [a0, a1, a2, a3, a4, a5, a6]) (i := 5) (v := .int x) rfl rfl rfl
set_option maxRecDepth 20000 in
theorem st_L_law_1781 : bc d M_L_law scr 1781 [a0, a1, some (.ref p), a3, a4, a5, a6] st h cn sn = bc d M_L_law scr 1782 [a0, a1, some (.ref p), a3, a4, a5, a6] (.ref p :: st) h cn sn := bc_lda1 rfl rfl
set_option maxRecDepth 20000 in
theorem st_L_law_1781t : bc d M_L_law scr 1781 [a0, a1, some (.float t), a3, a4, a5, a6] st h cn sn = bc d M_L_law scr 1782 [a0, a1, some (.float t), a3, a4, a5, a6] (.float t :: st) h cn sn := bc_ldt1 rfl rfl
set_option maxRecDepth 20000 in
theorem st_L_law_1782 : bc d M_L_law scr 1782 [some (.ref p), a1, a2, a3, a4, a5, a6] st h cn sn = bc d M_L_law scr 1783 [some (.ref p), a1, a2, a3, a4, a5, a6] (.ref p :: st) h cn sn := bc_lda1 rfl rfl
set_option maxRecDepth 20000 in
theorem st_L_law_1782t : bc d M_L_law scr 1782 [some (.float t), a1, a2, a3, a4, a5, a6] st h cn sn = bc d M_L_law scr 1783 [some (.float t), a1, a2, a3, a4, a5, a6] (.float t :: st) h cn sn := bc_ldt1 rfl rfl
set_option maxRecDepth 20000 in
theorem st_L_law_1783 : bc d M_L_law scr 1783 [a0, a1, a2, a3, some (.int x), a5, a6] st h cn sn = bc d M_L_law scr 1785 [a0, a1, a2, a3, some (.int x), a5, a6] (.int x :: st) h cn sn := bc_ldi2 rfl rfl
set_option maxRecDepth 20000 in
theorem st_L_law_1785 : bc d M_L_law scr 1785 [a0, a1, a2, a3, a4, a5, a6] st h cn sn = bc d M_L_law scr 1786 [a0, a1, a2, a3, a4, a5, a6] (.int 1 :: st) h cn sn := bc_L rfl rfl
set_option maxRecDepth 20000 in
theorem st_L_law_1786 : bc d M_L_law scr 1786 [a0, a1, a2, a3, a4, a5, a6] (.int y :: .int x :: st) h cn sn = bc d M_L_law scr 1787 [a0, a1, a2, a3, a4, a5, a6] (.int (x + y) :: st) h cn sn := bc_L rfl rfl
set_option maxRecDepth 20000 in
theorem st_L_law_1787 : bc d M_L_law scr 1787 [a0, a1, a2, a3, a4, a5, a6] st h cn sn = bM (px_ald scr 1787 st h) (fun p s g => bc d M_L_law scr p [a0, a1, a2, a3, a4, a5, a6] s g cn sn) := bc_M (en := (.iaload, 1, 0, 0, 0, .null)) rfl rfl rfl rfl rfl rfl px_I_il
set_option maxRecDepth 20000 in
theorem st_L_law_1788 : bc d M_L_law scr 1788 [some (.ref p), a1, a2, a3, a4, a5, a6] st h cn sn = bc d M_L_law scr 1789 [some (.ref p), a1, a2, a3, a4, a5, a6] (.ref p :: st) h cn sn := bc_lda1 rfl rfl
set_option maxRecDepth 20000 in
theorem st_L_law_1788t : bc d M_L_law scr 1788 [some (.float t), a1, a2, a3, a4, a5, a6] st h cn sn = bc d M_L_law scr 1789 [some (.float t), a1, a2, a3, a4, a5, a6] (.float t :: st) h cn sn := bc_ldt1 rfl rfl
set_option maxRecDepth 20000 in
theorem st_L_law_1789 : bc d M_L_law scr 1789 [a0, a1, a2, a3, some (.int x), a5, a6] st h cn sn = bc d M_L_law scr 1791 [a0, a1, a2, a3, some (.int x), a5, a6] (.int x :: st) h cn sn := bc_ldi2 rfl rfl
set_option maxRecDepth 20000 in
theorem st_L_law_1791 : bc d M_L_law scr 1791 [a0, a1, a2, a3, a4, a5, a6] st h cn sn = bc d M_L_law scr 1792 [a0, a1, a2, a3, a4, a5, a6] (.int 2 :: st) h cn sn := bc_L rfl rfl
set_option maxRecDepth 20000 in
theorem st_L_law_1792 : bc d M_L_law scr 1792 [a0, a1, a2, a3, a4, a5, a6] (.int y :: .int x :: st) h cn sn = bc d M_L_law scr 1793 [a0, a1, a2, a3, a4, a5, a6] (.int (x + y) :: st) h cn sn := bc_L rfl rfl
set_option maxRecDepth 20000 in
theorem st_L_law_1793 : bc d M_L_law scr 1793 [a0, a1, a2, a3, a4, a5, a6] st h cn sn = bM (px_ald scr 1793 st h) (fun p s g => bc d M_L_law scr p [a0, a1, a2, a3, a4, a5, a6] s g cn sn) := bc_M (en := (.iaload, 1, 0, 0, 0, .null)) rfl rfl rfl rfl rfl rfl px_I_il
set_option maxRecDepth 20000 in
theorem st_L_law_1794 : bc d M_L_law scr 1794 [some (.ref p), a1, a2, a3, a4, a5, a6] st h cn sn = bc d M_L_law scr 1795 [some (.ref p), a1, a2, a3, a4, a5, a6] (.ref p :: st) h cn sn := bc_lda1 rfl rfl
set_option maxRecDepth 20000 in
theorem st_L_law_1794t : bc d M_L_law scr 1794 [some (.float t), a1, a2, a3, a4, a5, a6] st h cn sn = bc d M_L_law scr 1795 [some (.float t), a1, a2, a3, a4, a5, a6] (.float t :: st) h cn sn := bc_ldt1 rfl rfl
set_option maxRecDepth 20000 in
theorem st_L_law_1795 : bc d M_L_law scr 1795 [a0, a1, a2, a3, some (.int x), a5, a6] st h cn sn = bc d M_L_law scr 1797 [a0, a1, a2, a3, some (.int x), a5, a6] (.int x :: st) h cn sn := bc_ldi2 rfl rfl
set_option maxRecDepth 20000 in
theorem st_L_law_1797 : bc d M_L_law scr 1797 [a0, a1, a2, a3, a4, a5, a6] st h cn sn = bc d M_L_law scr 1798 [a0, a1, a2, a3, a4, a5, a6] (.int 3 :: st) h cn sn := bc_L rfl rfl
set_option maxRecDepth 20000 in
theorem st_L_law_1798 : bc d M_L_law scr 1798 [a0, a1, a2, a3, a4, a5, a6] (.int y :: .int x :: st) h cn sn = bc d M_L_law scr 1799 [a0, a1, a2, a3, a4, a5, a6] (.int (x + y) :: st) h cn sn := bc_L rfl rfl
set_option maxRecDepth 20000 in
theorem st_L_law_1799 : bc d M_L_law scr 1799 [a0, a1, a2, a3, a4, a5, a6] st h cn sn = bM (px_ald scr 1799 st h) (fun p s g => bc d M_L_law scr p [a0, a1, a2, a3, a4, a5, a6] s g cn sn) := bc_M (en := (.iaload, 1, 0, 0, 0, .null)) rfl rfl rfl rfl rfl rfl px_I_il
set_option maxRecDepth 20000 in
theorem st_L_law_1800 (hc : hcl h p = some 10) (hs : px_sum st ≤ 8) : bc (d + 1) M_L_law scr 1800 [a0, a1, a2, a3, a4, a5, a6] (.int z :: .int y :: .int x :: .ref p :: st) h cn sn = bC (bc d M_X10_game none 0 [some (.ref p), some (.int x), some (.int y), some (.int z), none, none, none, none, none] [] h 0 0) (fun v h' c k => bc (d + 1) M_L_law scr 1803 [a0, a1, a2, a3, a4, a5, a6] (v.toList ++ st) h' (cn + c) (sn + k)) (fun z h' c k => some (.inr z, h', cn + c, sn + k)) := bc_I rfl rfl rfl rfl rfl rfl rfl (px_I_vir mt_228 rfl hc hs rfl) rfl rfl rfl
set_option maxRecDepth 20000 in
theorem st_L_law_1803 : bc d M_L_law scr 1803 [a0, a1, a2, a3, a4, a5, a6] (.int x :: st) h cn sn = bc d M_L_law scr 1805 [a0, a1, a2, a3, a4, lc_c2 a5, some (.int x)] st h cn sn := bc_Ls1 (en := (.istore 6, 2, 0, 0, 0, .null)) (vs := [a0, a1, a2, a3, a4, a5, a6]) (i := 6) (v := .int x) rfl rfl rfl
set_option maxRecDepth 20000 in
theorem st_L_law_1805 : bc d M_L_law scr 1805 [a0, a1, some (.ref p), a3, a4, a5, a6] st h cn sn = bc d M_L_law scr 1806 [a0, a1, some (.ref p), a3, a4, a5, a6] (.ref p :: st) h cn sn := bc_lda1 rfl rfl
set_option maxRecDepth 20000 in
theorem st_L_law_1805t : bc d M_L_law scr 1805 [a0, a1, some (.float t), a3, a4, a5, a6] st h cn sn = bc d M_L_law scr 1806 [a0, a1, some (.float t), a3, a4, a5, a6] (.float t :: st) h cn sn := bc_ldt1 rfl rfl
set_option maxRecDepth 20000 in
theorem st_L_law_1806 (hc : hcl h p = some 10) (hs : px_sum st ≤ 8) : bc (d + 1) M_L_law scr 1806 [a0, a1, a2, a3, a4, a5, a6] (.ref p :: st) h cn sn = bC (bc d M_X10_thrown none 0 [some (.ref p)] [] h 0 0) (fun v h' c k => bc (d + 1) M_L_law scr 1809 [a0, a1, a2, a3, a4, a5, a6] (v.toList ++ st) h' (cn + c) (sn + k)) (fun z h' c k => some (.inr z, h', cn + c, sn + k)) := bc_I rfl rfl rfl rfl rfl rfl rfl (px_I_vir mt_133 rfl hc hs rfl) rfl rfl rfl
set_option maxRecDepth 20000 in
theorem st_L_law_1809 : bc d M_L_law scr 1809 [a0, a1, a2, a3, a4, some (.int x), a6] st h cn sn = bc d M_L_law scr 1811 [a0, a1, a2, a3, a4, some (.int x), a6] (.int x :: st) h cn sn := bc_ldi2 rfl rfl
set_option maxRecDepth 20000 in
theorem st_L_law_1811 : bc d M_L_law scr 1811 [a0, a1, a2, a3, a4, a5, a6] (.int y :: .int x :: st) h cn sn = if x = y then bc d M_L_law scr 1816 [a0, a1, a2, a3, a4, a5, a6] st h cn sn else bc d M_L_law scr 1814 [a0, a1, a2, a3, a4, a5, a6] st h cn sn := (bc_ic rfl).trans bt_eq
set_option maxRecDepth 20000 in
theorem st_L_law_1814 : bc d M_L_law scr 1814 [a0, a1, a2, a3, a4, a5, a6] st h cn sn = bc d M_L_law scr 1815 [a0, a1, a2, a3, a4, a5, a6] (.int 0 :: st) h cn sn := bc_L rfl rfl
set_option maxRecDepth 20000 in
theorem st_L_law_1815 : bc d M_L_law scr 1815 [a0, a1, a2, a3, a4, a5, a6] [.int 0] h cn sn = some (.inl (some (.int 0)), h, cn, sn) := bc_E rfl rfl rfl rfl rfl rfl rfl
set_option maxRecDepth 20000 in
theorem st_L_law_1815b : bc d M_L_law scr 1815 [a0, a1, a2, a3, a4, a5, a6] [.int 1] h cn sn = some (.inl (some (.int 1)), h, cn, sn) := bc_E rfl rfl rfl rfl rfl rfl rfl
set_option maxRecDepth 20000 in
theorem st_L_law_1816 : bc d M_L_law scr 1816 [a0, a1, a2, a3, a4, some (.int x), a6] st h cn sn = bc d M_L_law scr 1818 [a0, a1, a2, a3, a4, some (.int x), a6] (.int x :: st) h cn sn := bc_ldi2 rfl rfl
set_option maxRecDepth 20000 in
theorem st_L_law_1818 : bc d M_L_law scr 1818 [a0, a1, a2, a3, a4, a5, a6] (.int x :: st) h cn sn = if x = 0 then bc d M_L_law scr 1821 [a0, a1, a2, a3, a4, a5, a6] st h cn sn else bc d M_L_law scr 1833 [a0, a1, a2, a3, a4, a5, a6] st h cn sn := (bc_if rfl).trans bt_ne
set_option maxRecDepth 20000 in
theorem st_L_law_1821 : bc d M_L_law scr 1821 [a0, a1, a2, some (.ref p), a4, a5, a6] st h cn sn = bc d M_L_law scr 1822 [a0, a1, a2, some (.ref p), a4, a5, a6] (.ref p :: st) h cn sn := bc_lda1 rfl rfl
set_option maxRecDepth 20000 in
theorem st_L_law_1821t : bc d M_L_law scr 1821 [a0, a1, a2, some (.float t), a4, a5, a6] st h cn sn = bc d M_L_law scr 1822 [a0, a1, a2, some (.float t), a4, a5, a6] (.float t :: st) h cn sn := bc_ldt1 rfl rfl
set_option maxRecDepth 20000 in
theorem st_L_law_1822 : bc d M_L_law scr 1822 [a0, a1, a2, a3, a4, a5, a6] st h cn sn = bc d M_L_law scr 1823 [a0, a1, a2, a3, a4, a5, a6] (.int 0 :: st) h cn sn := bc_L rfl rfl
set_option maxRecDepth 20000 in
theorem st_L_law_1823 : bc d M_L_law scr 1823 [a0, a1, a2, a3, a4, a5, a6] st h cn sn = bM (px_lld 1823 st h) (fun p s g => bc d M_L_law scr p [a0, a1, a2, a3, a4, a5, a6] s g cn sn) := bc_M (en := (.laload, 1, 0, 0, 0, .null)) rfl rfl rfl rfl rfl rfl px_I_ll
set_option maxRecDepth 20000 in
theorem st_L_law_1824 : bc d M_L_law scr 1824 [a0, a1, a2, a3, a4, a5, some (.int x)] st h cn sn = bc d M_L_law scr 1826 [a0, a1, a2, a3, a4, a5, some (.int x)] (.int x :: st) h cn sn := bc_ldi2 rfl rfl
set_option maxRecDepth 20000 in
theorem st_L_law_1826 : bc d M_L_law scr 1826 [a0, a1, a2, a3, a4, a5, a6] (.int x :: st) h cn sn = bc d M_L_law scr 1827 [a0, a1, a2, a3, a4, a5, a6] (.long x.toInt64 :: st) h cn sn := bc_L rfl rfl
set_option maxRecDepth 20000 in
theorem st_L_law_1827 : bc d M_L_law scr 1827 [a0, a1, a2, a3, a4, a5, a6] (.long w :: .long u :: st) h cn sn = bc d M_L_law scr 1828 [a0, a1, a2, a3, a4, a5, a6] (.int (lg_cmp u w) :: st) h cn sn := bc_L rfl rfl
set_option maxRecDepth 20000 in
theorem st_L_law_1828 : bc d M_L_law scr 1828 [a0, a1, a2, a3, a4, a5, a6] (.int x :: st) h cn sn = if x = 0 then bc d M_L_law scr 1833 [a0, a1, a2, a3, a4, a5, a6] st h cn sn else bc d M_L_law scr 1831 [a0, a1, a2, a3, a4, a5, a6] st h cn sn := (bc_if rfl).trans bt_eq
set_option maxRecDepth 20000 in
theorem st_L_law_1831 : bc d M_L_law scr 1831 [a0, a1, a2, a3, a4, a5, a6] st h cn sn = bc d M_L_law scr 1832 [a0, a1, a2, a3, a4, a5, a6] (.int 0 :: st) h cn sn := bc_L rfl rfl
set_option maxRecDepth 20000 in
theorem st_L_law_1832 : bc d M_L_law scr 1832 [a0, a1, a2, a3, a4, a5, a6] [.int 0] h cn sn = some (.inl (some (.int 0)), h, cn, sn) := bc_E rfl rfl rfl rfl rfl rfl rfl
set_option maxRecDepth 20000 in
theorem st_L_law_1832b : bc d M_L_law scr 1832 [a0, a1, a2, a3, a4, a5, a6] [.int 1] h cn sn = some (.inl (some (.int 1)), h, cn, sn) := bc_E rfl rfl rfl rfl rfl rfl rfl
set_option maxRecDepth 20000 in
theorem st_L_law_1833 : bc d M_L_law scr 1833 [a0, a1, a2, a3, a4, a5, a6] st h cn sn = bc d M_L_law scr 1940 [a0, a1, a2, a3, a4, a5, a6] st h cn sn := bc_L rfl rfl
set_option maxRecDepth 20000 in
theorem st_L_law_1836 : bc d M_L_law scr 1836 [a0, some (.ref p), a2, a3, a4, a5, a6] st h cn sn = bc d M_L_law scr 1837 [a0, some (.ref p), a2, a3, a4, a5, a6] (.ref p :: st) h cn sn := bc_lda1 rfl rfl
set_option maxRecDepth 20000 in
theorem st_L_law_1836t : bc d M_L_law scr 1836 [a0, some (.float t), a2, a3, a4, a5, a6] st h cn sn = bc d M_L_law scr 1837 [a0, some (.float t), a2, a3, a4, a5, a6] (.float t :: st) h cn sn := bc_ldt1 rfl rfl
set_option maxRecDepth 20000 in
theorem st_L_law_1837 : bc d M_L_law scr 1837 [some (.ref p), a1, a2, a3, a4, a5, a6] st h cn sn = bc d M_L_law scr 1838 [some (.ref p), a1, a2, a3, a4, a5, a6] (.ref p :: st) h cn sn := bc_lda1 rfl rfl
set_option maxRecDepth 20000 in
theorem st_L_law_1837t : bc d M_L_law scr 1837 [some (.float t), a1, a2, a3, a4, a5, a6] st h cn sn = bc d M_L_law scr 1838 [some (.float t), a1, a2, a3, a4, a5, a6] (.float t :: st) h cn sn := bc_ldt1 rfl rfl
set_option maxRecDepth 20000 in
theorem st_L_law_1838 : bc d M_L_law scr 1838 [a0, a1, a2, a3, some (.int x), a5, a6] st h cn sn = bc d M_L_law scr 1840 [a0, a1, a2, a3, some (.int x), a5, a6] (.int x :: st) h cn sn := bc_ldi2 rfl rfl
set_option maxRecDepth 20000 in
theorem st_L_law_1840 : bc d M_L_law scr 1840 [a0, a1, a2, a3, a4, a5, a6] st h cn sn = bc d M_L_law scr 1841 [a0, a1, a2, a3, a4, a5, a6] (.int 1 :: st) h cn sn := bc_L rfl rfl
set_option maxRecDepth 20000 in
theorem st_L_law_1841 : bc d M_L_law scr 1841 [a0, a1, a2, a3, a4, a5, a6] (.int y :: .int x :: st) h cn sn = bc d M_L_law scr 1842 [a0, a1, a2, a3, a4, a5, a6] (.int (x + y) :: st) h cn sn := bc_L rfl rfl
set_option maxRecDepth 20000 in
theorem st_L_law_1842 : bc d M_L_law scr 1842 [a0, a1, a2, a3, a4, a5, a6] st h cn sn = bM (px_ald scr 1842 st h) (fun p s g => bc d M_L_law scr p [a0, a1, a2, a3, a4, a5, a6] s g cn sn) := bc_M (en := (.iaload, 1, 0, 0, 0, .null)) rfl rfl rfl rfl rfl rfl px_I_il
set_option maxRecDepth 20000 in
theorem st_L_law_1843 : bc d M_L_law scr 1843 [some (.ref p), a1, a2, a3, a4, a5, a6] st h cn sn = bc d M_L_law scr 1844 [some (.ref p), a1, a2, a3, a4, a5, a6] (.ref p :: st) h cn sn := bc_lda1 rfl rfl
set_option maxRecDepth 20000 in
theorem st_L_law_1843t : bc d M_L_law scr 1843 [some (.float t), a1, a2, a3, a4, a5, a6] st h cn sn = bc d M_L_law scr 1844 [some (.float t), a1, a2, a3, a4, a5, a6] (.float t :: st) h cn sn := bc_ldt1 rfl rfl
set_option maxRecDepth 20000 in
theorem st_L_law_1844 : bc d M_L_law scr 1844 [a0, a1, a2, a3, some (.int x), a5, a6] st h cn sn = bc d M_L_law scr 1846 [a0, a1, a2, a3, some (.int x), a5, a6] (.int x :: st) h cn sn := bc_ldi2 rfl rfl
set_option maxRecDepth 20000 in
theorem st_L_law_1846 : bc d M_L_law scr 1846 [a0, a1, a2, a3, a4, a5, a6] st h cn sn = bc d M_L_law scr 1847 [a0, a1, a2, a3, a4, a5, a6] (.int 2 :: st) h cn sn := bc_L rfl rfl
set_option maxRecDepth 20000 in
theorem st_L_law_1847 : bc d M_L_law scr 1847 [a0, a1, a2, a3, a4, a5, a6] (.int y :: .int x :: st) h cn sn = bc d M_L_law scr 1848 [a0, a1, a2, a3, a4, a5, a6] (.int (x + y) :: st) h cn sn := bc_L rfl rfl
set_option maxRecDepth 20000 in
theorem st_L_law_1848 : bc d M_L_law scr 1848 [a0, a1, a2, a3, a4, a5, a6] st h cn sn = bM (px_ald scr 1848 st h) (fun p s g => bc d M_L_law scr p [a0, a1, a2, a3, a4, a5, a6] s g cn sn) := bc_M (en := (.iaload, 1, 0, 0, 0, .null)) rfl rfl rfl rfl rfl rfl px_I_il
set_option maxRecDepth 20000 in
theorem st_L_law_1849 : bc d M_L_law scr 1849 [some (.ref p), a1, a2, a3, a4, a5, a6] st h cn sn = bc d M_L_law scr 1850 [some (.ref p), a1, a2, a3, a4, a5, a6] (.ref p :: st) h cn sn := bc_lda1 rfl rfl
set_option maxRecDepth 20000 in
theorem st_L_law_1849t : bc d M_L_law scr 1849 [some (.float t), a1, a2, a3, a4, a5, a6] st h cn sn = bc d M_L_law scr 1850 [some (.float t), a1, a2, a3, a4, a5, a6] (.float t :: st) h cn sn := bc_ldt1 rfl rfl
set_option maxRecDepth 20000 in
theorem st_L_law_1850 : bc d M_L_law scr 1850 [a0, a1, a2, a3, some (.int x), a5, a6] st h cn sn = bc d M_L_law scr 1852 [a0, a1, a2, a3, some (.int x), a5, a6] (.int x :: st) h cn sn := bc_ldi2 rfl rfl
set_option maxRecDepth 20000 in
theorem st_L_law_1852 : bc d M_L_law scr 1852 [a0, a1, a2, a3, a4, a5, a6] st h cn sn = bc d M_L_law scr 1853 [a0, a1, a2, a3, a4, a5, a6] (.int 3 :: st) h cn sn := bc_L rfl rfl
set_option maxRecDepth 20000 in
theorem st_L_law_1853 : bc d M_L_law scr 1853 [a0, a1, a2, a3, a4, a5, a6] (.int y :: .int x :: st) h cn sn = bc d M_L_law scr 1854 [a0, a1, a2, a3, a4, a5, a6] (.int (x + y) :: st) h cn sn := bc_L rfl rfl
set_option maxRecDepth 20000 in
theorem st_L_law_1854 : bc d M_L_law scr 1854 [a0, a1, a2, a3, a4, a5, a6] st h cn sn = bM (px_ald scr 1854 st h) (fun p s g => bc d M_L_law scr p [a0, a1, a2, a3, a4, a5, a6] s g cn sn) := bc_M (en := (.iaload, 1, 0, 0, 0, .null)) rfl rfl rfl rfl rfl rfl px_I_il
set_option maxRecDepth 20000 in
theorem st_L_law_1855 : bc d M_L_law scr 1855 [a0, a1, a2, some (.ref p), a4, a5, a6] st h cn sn = bc d M_L_law scr 1856 [a0, a1, a2, some (.ref p), a4, a5, a6] (.ref p :: st) h cn sn := bc_lda1 rfl rfl
set_option maxRecDepth 20000 in
theorem st_L_law_1855t : bc d M_L_law scr 1855 [a0, a1, a2, some (.float t), a4, a5, a6] st h cn sn = bc d M_L_law scr 1856 [a0, a1, a2, some (.float t), a4, a5, a6] (.float t :: st) h cn sn := bc_ldt1 rfl rfl
set_option maxRecDepth 20000 in
theorem st_L_law_1856 (hs : px_sum st ≤ 8) : bc (d + 1) M_L_law scr 1856 [a0, a1, a2, a3, a4, a5, a6] (.ref p2 :: .int z :: .int y :: .int x :: .ref p1 :: st) h cn sn = bC (bc d M_L_evening none 0 [some (.ref p1), some (.int x), some (.int y), some (.int z), some (.ref p2), none] [] h 0 0) (fun v h' c k => bc (d + 1) M_L_law scr 1859 [a0, a1, a2, a3, a4, a5, a6] (v.toList ++ st) h' (cn + c) (sn + k)) (fun z h' c k => some (.inr z, h', cn + c, sn + k)) := bc_I rfl rfl rfl rfl rfl rfl rfl (px_I_sta mt_260 rfl hs rfl) rfl rfl rfl
set_option maxRecDepth 20000 in
theorem st_L_law_1859 : bc d M_L_law scr 1859 [a0, a1, a2, a3, a4, a5, a6] (.int x :: st) h cn sn = bc d M_L_law scr 1861 [a0, a1, a2, a3, lc_c2 a4, some (.int x), a6] st h cn sn := bc_Ls1 (en := (.istore 5, 2, 0, 0, 0, .null)) (vs := [a0, a1, a2, a3, a4, a5, a6]) (i := 5) (v := .int x) rfl rfl rfl
set_option maxRecDepth 20000 in
theorem st_L_law_1861 : bc d M_L_law scr 1861 [a0, a1, some (.ref p), a3, a4, a5, a6] st h cn sn = bc d M_L_law scr 1862 [a0, a1, some (.ref p), a3, a4, a5, a6] (.ref p :: st) h cn sn := bc_lda1 rfl rfl
set_option maxRecDepth 20000 in
theorem st_L_law_1861t : bc d M_L_law scr 1861 [a0, a1, some (.float t), a3, a4, a5, a6] st h cn sn = bc d M_L_law scr 1862 [a0, a1, some (.float t), a3, a4, a5, a6] (.float t :: st) h cn sn := bc_ldt1 rfl rfl
set_option maxRecDepth 20000 in
theorem st_L_law_1862 : bc d M_L_law scr 1862 [some (.ref p), a1, a2, a3, a4, a5, a6] st h cn sn = bc d M_L_law scr 1863 [some (.ref p), a1, a2, a3, a4, a5, a6] (.ref p :: st) h cn sn := bc_lda1 rfl rfl
set_option maxRecDepth 20000 in
theorem st_L_law_1862t : bc d M_L_law scr 1862 [some (.float t), a1, a2, a3, a4, a5, a6] st h cn sn = bc d M_L_law scr 1863 [some (.float t), a1, a2, a3, a4, a5, a6] (.float t :: st) h cn sn := bc_ldt1 rfl rfl
set_option maxRecDepth 20000 in
theorem st_L_law_1863 : bc d M_L_law scr 1863 [a0, a1, a2, a3, some (.int x), a5, a6] st h cn sn = bc d M_L_law scr 1865 [a0, a1, a2, a3, some (.int x), a5, a6] (.int x :: st) h cn sn := bc_ldi2 rfl rfl
set_option maxRecDepth 20000 in
theorem st_L_law_1865 : bc d M_L_law scr 1865 [a0, a1, a2, a3, a4, a5, a6] st h cn sn = bc d M_L_law scr 1866 [a0, a1, a2, a3, a4, a5, a6] (.int 1 :: st) h cn sn := bc_L rfl rfl
set_option maxRecDepth 20000 in
theorem st_L_law_1866 : bc d M_L_law scr 1866 [a0, a1, a2, a3, a4, a5, a6] (.int y :: .int x :: st) h cn sn = bc d M_L_law scr 1867 [a0, a1, a2, a3, a4, a5, a6] (.int (x + y) :: st) h cn sn := bc_L rfl rfl
set_option maxRecDepth 20000 in
theorem st_L_law_1867 : bc d M_L_law scr 1867 [a0, a1, a2, a3, a4, a5, a6] st h cn sn = bM (px_ald scr 1867 st h) (fun p s g => bc d M_L_law scr p [a0, a1, a2, a3, a4, a5, a6] s g cn sn) := bc_M (en := (.iaload, 1, 0, 0, 0, .null)) rfl rfl rfl rfl rfl rfl px_I_il
set_option maxRecDepth 20000 in
theorem st_L_law_1868 : bc d M_L_law scr 1868 [some (.ref p), a1, a2, a3, a4, a5, a6] st h cn sn = bc d M_L_law scr 1869 [some (.ref p), a1, a2, a3, a4, a5, a6] (.ref p :: st) h cn sn := bc_lda1 rfl rfl
set_option maxRecDepth 20000 in
theorem st_L_law_1868t : bc d M_L_law scr 1868 [some (.float t), a1, a2, a3, a4, a5, a6] st h cn sn = bc d M_L_law scr 1869 [some (.float t), a1, a2, a3, a4, a5, a6] (.float t :: st) h cn sn := bc_ldt1 rfl rfl
set_option maxRecDepth 20000 in
theorem st_L_law_1869 : bc d M_L_law scr 1869 [a0, a1, a2, a3, some (.int x), a5, a6] st h cn sn = bc d M_L_law scr 1871 [a0, a1, a2, a3, some (.int x), a5, a6] (.int x :: st) h cn sn := bc_ldi2 rfl rfl
set_option maxRecDepth 20000 in
theorem st_L_law_1871 : bc d M_L_law scr 1871 [a0, a1, a2, a3, a4, a5, a6] st h cn sn = bc d M_L_law scr 1872 [a0, a1, a2, a3, a4, a5, a6] (.int 2 :: st) h cn sn := bc_L rfl rfl
set_option maxRecDepth 20000 in
theorem st_L_law_1872 : bc d M_L_law scr 1872 [a0, a1, a2, a3, a4, a5, a6] (.int y :: .int x :: st) h cn sn = bc d M_L_law scr 1873 [a0, a1, a2, a3, a4, a5, a6] (.int (x + y) :: st) h cn sn := bc_L rfl rfl
set_option maxRecDepth 20000 in
theorem st_L_law_1873 : bc d M_L_law scr 1873 [a0, a1, a2, a3, a4, a5, a6] st h cn sn = bM (px_ald scr 1873 st h) (fun p s g => bc d M_L_law scr p [a0, a1, a2, a3, a4, a5, a6] s g cn sn) := bc_M (en := (.iaload, 1, 0, 0, 0, .null)) rfl rfl rfl rfl rfl rfl px_I_il
set_option maxRecDepth 20000 in
theorem st_L_law_1874 : bc d M_L_law scr 1874 [some (.ref p), a1, a2, a3, a4, a5, a6] st h cn sn = bc d M_L_law scr 1875 [some (.ref p), a1, a2, a3, a4, a5, a6] (.ref p :: st) h cn sn := bc_lda1 rfl rfl
set_option maxRecDepth 20000 in
theorem st_L_law_1874t : bc d M_L_law scr 1874 [some (.float t), a1, a2, a3, a4, a5, a6] st h cn sn = bc d M_L_law scr 1875 [some (.float t), a1, a2, a3, a4, a5, a6] (.float t :: st) h cn sn := bc_ldt1 rfl rfl
set_option maxRecDepth 20000 in
theorem st_L_law_1875 : bc d M_L_law scr 1875 [a0, a1, a2, a3, some (.int x), a5, a6] st h cn sn = bc d M_L_law scr 1877 [a0, a1, a2, a3, some (.int x), a5, a6] (.int x :: st) h cn sn := bc_ldi2 rfl rfl
set_option maxRecDepth 20000 in
theorem st_L_law_1877 : bc d M_L_law scr 1877 [a0, a1, a2, a3, a4, a5, a6] st h cn sn = bc d M_L_law scr 1878 [a0, a1, a2, a3, a4, a5, a6] (.int 3 :: st) h cn sn := bc_L rfl rfl
set_option maxRecDepth 20000 in
theorem st_L_law_1878 : bc d M_L_law scr 1878 [a0, a1, a2, a3, a4, a5, a6] (.int y :: .int x :: st) h cn sn = bc d M_L_law scr 1879 [a0, a1, a2, a3, a4, a5, a6] (.int (x + y) :: st) h cn sn := bc_L rfl rfl
set_option maxRecDepth 20000 in
theorem st_L_law_1879 : bc d M_L_law scr 1879 [a0, a1, a2, a3, a4, a5, a6] st h cn sn = bM (px_ald scr 1879 st h) (fun p s g => bc d M_L_law scr p [a0, a1, a2, a3, a4, a5, a6] s g cn sn) := bc_M (en := (.iaload, 1, 0, 0, 0, .null)) rfl rfl rfl rfl rfl rfl px_I_il
set_option maxRecDepth 20000 in
theorem st_L_law_1880 (hc : hcl h p = some 10) (hs : px_sum st ≤ 8) : bc (d + 1) M_L_law scr 1880 [a0, a1, a2, a3, a4, a5, a6] (.int z :: .int y :: .int x :: .ref p :: st) h cn sn = bC (bc d M_X10_evening none 0 [some (.ref p), some (.int x), some (.int y), some (.int z), none, none, none, none] [] h 0 0) (fun v h' c k => bc (d + 1) M_L_law scr 1883 [a0, a1, a2, a3, a4, a5, a6] (v.toList ++ st) h' (cn + c) (sn + k)) (fun z h' c k => some (.inr z, h', cn + c, sn + k)) := bc_I rfl rfl rfl rfl rfl rfl rfl (px_I_vir mt_231 rfl hc hs rfl) rfl rfl rfl
set_option maxRecDepth 20000 in
theorem st_L_law_1883 : bc d M_L_law scr 1883 [a0, a1, a2, a3, a4, a5, a6] (.int x :: st) h cn sn = bc d M_L_law scr 1885 [a0, a1, a2, a3, a4, lc_c2 a5, some (.int x)] st h cn sn := bc_Ls1 (en := (.istore 6, 2, 0, 0, 0, .null)) (vs := [a0, a1, a2, a3, a4, a5, a6]) (i := 6) (v := .int x) rfl rfl rfl
set_option maxRecDepth 20000 in
theorem st_L_law_1885 : bc d M_L_law scr 1885 [a0, a1, some (.ref p), a3, a4, a5, a6] st h cn sn = bc d M_L_law scr 1886 [a0, a1, some (.ref p), a3, a4, a5, a6] (.ref p :: st) h cn sn := bc_lda1 rfl rfl
set_option maxRecDepth 20000 in
theorem st_L_law_1885t : bc d M_L_law scr 1885 [a0, a1, some (.float t), a3, a4, a5, a6] st h cn sn = bc d M_L_law scr 1886 [a0, a1, some (.float t), a3, a4, a5, a6] (.float t :: st) h cn sn := bc_ldt1 rfl rfl
set_option maxRecDepth 20000 in
theorem st_L_law_1886 (hc : hcl h p = some 10) (hs : px_sum st ≤ 8) : bc (d + 1) M_L_law scr 1886 [a0, a1, a2, a3, a4, a5, a6] (.ref p :: st) h cn sn = bC (bc d M_X10_thrown none 0 [some (.ref p)] [] h 0 0) (fun v h' c k => bc (d + 1) M_L_law scr 1889 [a0, a1, a2, a3, a4, a5, a6] (v.toList ++ st) h' (cn + c) (sn + k)) (fun z h' c k => some (.inr z, h', cn + c, sn + k)) := bc_I rfl rfl rfl rfl rfl rfl rfl (px_I_vir mt_133 rfl hc hs rfl) rfl rfl rfl
set_option maxRecDepth 20000 in
theorem st_L_law_1889 : bc d M_L_law scr 1889 [a0, a1, a2, a3, a4, some (.int x), a6] st h cn sn = bc d M_L_law scr 1891 [a0, a1, a2, a3, a4, some (.int x), a6] (.int x :: st) h cn sn := bc_ldi2 rfl rfl
set_option maxRecDepth 20000 in
theorem st_L_law_1891 : bc d M_L_law scr 1891 [a0, a1, a2, a3, a4, a5, a6] (.int y :: .int x :: st) h cn sn = if x = y then bc d M_L_law scr 1896 [a0, a1, a2, a3, a4, a5, a6] st h cn sn else bc d M_L_law scr 1894 [a0, a1, a2, a3, a4, a5, a6] st h cn sn := (bc_ic rfl).trans bt_eq
set_option maxRecDepth 20000 in
theorem st_L_law_1894 : bc d M_L_law scr 1894 [a0, a1, a2, a3, a4, a5, a6] st h cn sn = bc d M_L_law scr 1895 [a0, a1, a2, a3, a4, a5, a6] (.int 0 :: st) h cn sn := bc_L rfl rfl
set_option maxRecDepth 20000 in
theorem st_L_law_1895 : bc d M_L_law scr 1895 [a0, a1, a2, a3, a4, a5, a6] [.int 0] h cn sn = some (.inl (some (.int 0)), h, cn, sn) := bc_E rfl rfl rfl rfl rfl rfl rfl
set_option maxRecDepth 20000 in
theorem st_L_law_1895b : bc d M_L_law scr 1895 [a0, a1, a2, a3, a4, a5, a6] [.int 1] h cn sn = some (.inl (some (.int 1)), h, cn, sn) := bc_E rfl rfl rfl rfl rfl rfl rfl
set_option maxRecDepth 20000 in
theorem st_L_law_1896 : bc d M_L_law scr 1896 [a0, a1, a2, a3, a4, some (.int x), a6] st h cn sn = bc d M_L_law scr 1898 [a0, a1, a2, a3, a4, some (.int x), a6] (.int x :: st) h cn sn := bc_ldi2 rfl rfl
set_option maxRecDepth 20000 in
theorem st_L_law_1898 : bc d M_L_law scr 1898 [a0, a1, a2, a3, a4, a5, a6] (.int x :: st) h cn sn = if x = 0 then bc d M_L_law scr 1901 [a0, a1, a2, a3, a4, a5, a6] st h cn sn else bc d M_L_law scr 1913 [a0, a1, a2, a3, a4, a5, a6] st h cn sn := (bc_if rfl).trans bt_ne
set_option maxRecDepth 20000 in
theorem st_L_law_1901 : bc d M_L_law scr 1901 [a0, a1, a2, some (.ref p), a4, a5, a6] st h cn sn = bc d M_L_law scr 1902 [a0, a1, a2, some (.ref p), a4, a5, a6] (.ref p :: st) h cn sn := bc_lda1 rfl rfl
set_option maxRecDepth 20000 in
theorem st_L_law_1901t : bc d M_L_law scr 1901 [a0, a1, a2, some (.float t), a4, a5, a6] st h cn sn = bc d M_L_law scr 1902 [a0, a1, a2, some (.float t), a4, a5, a6] (.float t :: st) h cn sn := bc_ldt1 rfl rfl
set_option maxRecDepth 20000 in
theorem st_L_law_1902 : bc d M_L_law scr 1902 [a0, a1, a2, a3, a4, a5, a6] st h cn sn = bc d M_L_law scr 1903 [a0, a1, a2, a3, a4, a5, a6] (.int 0 :: st) h cn sn := bc_L rfl rfl
set_option maxRecDepth 20000 in
theorem st_L_law_1903 : bc d M_L_law scr 1903 [a0, a1, a2, a3, a4, a5, a6] st h cn sn = bM (px_lld 1903 st h) (fun p s g => bc d M_L_law scr p [a0, a1, a2, a3, a4, a5, a6] s g cn sn) := bc_M (en := (.laload, 1, 0, 0, 0, .null)) rfl rfl rfl rfl rfl rfl px_I_ll
set_option maxRecDepth 20000 in
theorem st_L_law_1904 : bc d M_L_law scr 1904 [a0, a1, a2, a3, a4, a5, some (.int x)] st h cn sn = bc d M_L_law scr 1906 [a0, a1, a2, a3, a4, a5, some (.int x)] (.int x :: st) h cn sn := bc_ldi2 rfl rfl
set_option maxRecDepth 20000 in
theorem st_L_law_1906 : bc d M_L_law scr 1906 [a0, a1, a2, a3, a4, a5, a6] (.int x :: st) h cn sn = bc d M_L_law scr 1907 [a0, a1, a2, a3, a4, a5, a6] (.long x.toInt64 :: st) h cn sn := bc_L rfl rfl
set_option maxRecDepth 20000 in
theorem st_L_law_1907 : bc d M_L_law scr 1907 [a0, a1, a2, a3, a4, a5, a6] (.long w :: .long u :: st) h cn sn = bc d M_L_law scr 1908 [a0, a1, a2, a3, a4, a5, a6] (.int (lg_cmp u w) :: st) h cn sn := bc_L rfl rfl
set_option maxRecDepth 20000 in
theorem st_L_law_1908 : bc d M_L_law scr 1908 [a0, a1, a2, a3, a4, a5, a6] (.int x :: st) h cn sn = if x = 0 then bc d M_L_law scr 1913 [a0, a1, a2, a3, a4, a5, a6] st h cn sn else bc d M_L_law scr 1911 [a0, a1, a2, a3, a4, a5, a6] st h cn sn := (bc_if rfl).trans bt_eq
set_option maxRecDepth 20000 in
theorem st_L_law_1911 : bc d M_L_law scr 1911 [a0, a1, a2, a3, a4, a5, a6] st h cn sn = bc d M_L_law scr 1912 [a0, a1, a2, a3, a4, a5, a6] (.int 0 :: st) h cn sn := bc_L rfl rfl
set_option maxRecDepth 20000 in
theorem st_L_law_1912 : bc d M_L_law scr 1912 [a0, a1, a2, a3, a4, a5, a6] [.int 0] h cn sn = some (.inl (some (.int 0)), h, cn, sn) := bc_E rfl rfl rfl rfl rfl rfl rfl
set_option maxRecDepth 20000 in
theorem st_L_law_1912b : bc d M_L_law scr 1912 [a0, a1, a2, a3, a4, a5, a6] [.int 1] h cn sn = some (.inl (some (.int 1)), h, cn, sn) := bc_E rfl rfl rfl rfl rfl rfl rfl
set_option maxRecDepth 20000 in
theorem st_L_law_1913 : bc d M_L_law scr 1913 [a0, a1, a2, a3, a4, a5, a6] st h cn sn = bc d M_L_law scr 1940 [a0, a1, a2, a3, a4, a5, a6] st h cn sn := bc_L rfl rfl
set_option maxRecDepth 20000 in
theorem st_L_law_1916 : bc d M_L_law scr 1916 [a0, some (.ref p), a2, a3, a4, a5, a6] st h cn sn = bc d M_L_law scr 1917 [a0, some (.ref p), a2, a3, a4, a5, a6] (.ref p :: st) h cn sn := bc_lda1 rfl rfl
set_option maxRecDepth 20000 in
theorem st_L_law_1916t : bc d M_L_law scr 1916 [a0, some (.float t), a2, a3, a4, a5, a6] st h cn sn = bc d M_L_law scr 1917 [a0, some (.float t), a2, a3, a4, a5, a6] (.float t :: st) h cn sn := bc_ldt1 rfl rfl
set_option maxRecDepth 20000 in
theorem st_L_law_1917 (hc : hcl h p = some 9) (hs : px_sum st ≤ 8) : bc (d + 1) M_L_law scr 1917 [a0, a1, a2, a3, a4, a5, a6] (.ref p :: st) h cn sn = bC (bc d M_X9_image none 0 [some (.ref p)] [] h 0 0) (fun v h' c k => bc (d + 1) M_L_law scr 1920 [a0, a1, a2, a3, a4, a5, a6] (v.toList ++ st) h' (cn + c) (sn + k)) (fun z h' c k => some (.inr z, h', cn + c, sn + k)) := bc_I rfl rfl rfl rfl rfl rfl rfl (px_I_vir mt_110 rfl hc hs rfl) rfl rfl rfl
set_option maxRecDepth 20000 in
theorem st_L_law_1920 : bc d M_L_law scr 1920 [a0, a1, some (.ref p), a3, a4, a5, a6] st h cn sn = bc d M_L_law scr 1921 [a0, a1, some (.ref p), a3, a4, a5, a6] (.ref p :: st) h cn sn := bc_lda1 rfl rfl
set_option maxRecDepth 20000 in
theorem st_L_law_1920t : bc d M_L_law scr 1920 [a0, a1, some (.float t), a3, a4, a5, a6] st h cn sn = bc d M_L_law scr 1921 [a0, a1, some (.float t), a3, a4, a5, a6] (.float t :: st) h cn sn := bc_ldt1 rfl rfl
set_option maxRecDepth 20000 in
theorem st_L_law_1921 (hc : hcl h p = some 10) (hs : px_sum st ≤ 8) : bc (d + 1) M_L_law scr 1921 [a0, a1, a2, a3, a4, a5, a6] (.ref p :: st) h cn sn = bC (bc d M_X10_image none 0 [some (.ref p)] [] h 0 0) (fun v h' c k => bc (d + 1) M_L_law scr 1924 [a0, a1, a2, a3, a4, a5, a6] (v.toList ++ st) h' (cn + c) (sn + k)) (fun z h' c k => some (.inr z, h', cn + c, sn + k)) := bc_I rfl rfl rfl rfl rfl rfl rfl (px_I_vir mt_233 rfl hc hs rfl) rfl rfl rfl
set_option maxRecDepth 20000 in
theorem st_L_law_1924 : bc d M_L_law scr 1924 [a0, a1, a2, a3, a4, a5, a6] st h cn sn = bc d M_L_law scr 1940 [a0, a1, a2, a3, a4, a5, a6] st h cn sn := bc_L rfl rfl
set_option maxRecDepth 20000 in
theorem st_L_law_1927 : bc d M_L_law scr 1927 [a0, some (.ref p), a2, a3, a4, a5, a6] st h cn sn = bc d M_L_law scr 1928 [a0, some (.ref p), a2, a3, a4, a5, a6] (.ref p :: st) h cn sn := bc_lda1 rfl rfl
set_option maxRecDepth 20000 in
theorem st_L_law_1927t : bc d M_L_law scr 1927 [a0, some (.float t), a2, a3, a4, a5, a6] st h cn sn = bc d M_L_law scr 1928 [a0, some (.float t), a2, a3, a4, a5, a6] (.float t :: st) h cn sn := bc_ldt1 rfl rfl
set_option maxRecDepth 20000 in
theorem st_L_law_1928 (hc : hcl h p = some 9) (hs : px_sum st ≤ 8) : bc (d + 1) M_L_law scr 1928 [a0, a1, a2, a3, a4, a5, a6] (.ref p :: st) h cn sn = bC (bc d M_X9_restore none 0 [some (.ref p)] [] h 0 0) (fun v h' c k => bc (d + 1) M_L_law scr 1931 [a0, a1, a2, a3, a4, a5, a6] (v.toList ++ st) h' (cn + c) (sn + k)) (fun z h' c k => some (.inr z, h', cn + c, sn + k)) := bc_I rfl rfl rfl rfl rfl rfl rfl (px_I_vir mt_111 rfl hc hs rfl) rfl rfl rfl
set_option maxRecDepth 20000 in
theorem st_L_law_1931 : bc d M_L_law scr 1931 [a0, a1, some (.ref p), a3, a4, a5, a6] st h cn sn = bc d M_L_law scr 1932 [a0, a1, some (.ref p), a3, a4, a5, a6] (.ref p :: st) h cn sn := bc_lda1 rfl rfl
set_option maxRecDepth 20000 in
theorem st_L_law_1931t : bc d M_L_law scr 1931 [a0, a1, some (.float t), a3, a4, a5, a6] st h cn sn = bc d M_L_law scr 1932 [a0, a1, some (.float t), a3, a4, a5, a6] (.float t :: st) h cn sn := bc_ldt1 rfl rfl
set_option maxRecDepth 20000 in
theorem st_L_law_1932 (hc : hcl h p = some 10) (hs : px_sum st ≤ 8) : bc (d + 1) M_L_law scr 1932 [a0, a1, a2, a3, a4, a5, a6] (.ref p :: st) h cn sn = bC (bc d M_X10_restore none 0 [some (.ref p)] [] h 0 0) (fun v h' c k => bc (d + 1) M_L_law scr 1935 [a0, a1, a2, a3, a4, a5, a6] (v.toList ++ st) h' (cn + c) (sn + k)) (fun z h' c k => some (.inr z, h', cn + c, sn + k)) := bc_I rfl rfl rfl rfl rfl rfl rfl (px_I_vir mt_234 rfl hc hs rfl) rfl rfl rfl
set_option maxRecDepth 20000 in
theorem st_L_law_1935 : bc d M_L_law scr 1935 [a0, a1, a2, a3, a4, a5, a6] (.int y :: .int x :: st) h cn sn = if x = y then bc d M_L_law scr 1940 [a0, a1, a2, a3, a4, a5, a6] st h cn sn else bc d M_L_law scr 1938 [a0, a1, a2, a3, a4, a5, a6] st h cn sn := (bc_ic rfl).trans bt_eq
set_option maxRecDepth 20000 in
theorem st_L_law_1938 : bc d M_L_law scr 1938 [a0, a1, a2, a3, a4, a5, a6] st h cn sn = bc d M_L_law scr 1939 [a0, a1, a2, a3, a4, a5, a6] (.int 0 :: st) h cn sn := bc_L rfl rfl
set_option maxRecDepth 20000 in
theorem st_L_law_1939 : bc d M_L_law scr 1939 [a0, a1, a2, a3, a4, a5, a6] [.int 0] h cn sn = some (.inl (some (.int 0)), h, cn, sn) := bc_E rfl rfl rfl rfl rfl rfl rfl
set_option maxRecDepth 20000 in
theorem st_L_law_1939b : bc d M_L_law scr 1939 [a0, a1, a2, a3, a4, a5, a6] [.int 1] h cn sn = some (.inl (some (.int 1)), h, cn, sn) := bc_E rfl rfl rfl rfl rfl rfl rfl
set_option maxRecDepth 20000 in
theorem st_L_law_1940 : bc d M_L_law scr 1940 [a0, a1, a2, a3, some (.int x), a5, a6] st h cn sn = bc d M_L_law scr 1943 [a0, a1, a2, lc_c2 a3, some (.int (x + 6)), a5, a6] st h cn sn := bc_inc (vs := [a0, a1, a2, a3, some (.int x), a5, a6]) (i := 4) (x := x) (k := 6) rfl rfl rfl rfl
set_option maxRecDepth 20000 in
theorem st_L_law_1943 : bc d M_L_law scr 1943 [a0, a1, a2, a3, a4, a5, a6] st h cn sn = bc d M_L_law scr 23 [a0, a1, a2, a3, a4, a5, a6] st h cn sn := bc_L rfl rfl
set_option maxRecDepth 20000 in
theorem st_L_law_1946 : bc d M_L_law scr 1946 [a0, a1, a2, a3, a4, a5, a6] st h cn sn = bc d M_L_law scr 1947 [a0, a1, a2, a3, a4, a5, a6] (.int 1 :: st) h cn sn := bc_L rfl rfl
set_option maxRecDepth 20000 in
theorem st_L_law_1947 : bc d M_L_law scr 1947 [a0, a1, a2, a3, a4, a5, a6] [.int 0] h cn sn = some (.inl (some (.int 0)), h, cn, sn) := bc_E rfl rfl rfl rfl rfl rfl rfl
set_option maxRecDepth 20000 in
theorem st_L_law_1947b : bc d M_L_law scr 1947 [a0, a1, a2, a3, a4, a5, a6] [.int 1] h cn sn = some (.inl (some (.int 1)), h, cn, sn) := bc_E rfl rfl rfl rfl rfl rfl rfl
end STEPS
