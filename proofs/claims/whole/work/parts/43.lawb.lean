/-! ===== printed by wip/whole/steps.py: steps of methods as equations ===== -/
section STEPS
variable {d : Nat} {scr : Option (Nat × (Nat → Int32))} {st : List Value} {h : px_H} {cn sn : Nat} {x y z x3 x4 x5 x6 x7 x8 x9 x10 x11 x12 x13 x14 : Int32} {u w u3 u4 : Int64} {p p1 p2 p3 p4 p5 p6 p7 : Nat} {t : UInt32} {a0 a1 a2 a3 a4 a5 a6 a7 a8 a9 a10 a11 a12 a13 a14 a15 a16 a17 : Option Value}
set_option maxRecDepth 20000 in
theorem st_L_law_884t : bc d M_L_law scr 884 [some (.float t), a1, a2, a3, a4, a5, a6] st h cn sn = bc d M_L_law scr 885 [some (.float t), a1, a2, a3, a4, a5, a6] (.float t :: st) h cn sn := bc_ldt1 rfl rfl
set_option maxRecDepth 20000 in
theorem st_L_law_885 : bc d M_L_law scr 885 [a0, a1, a2, a3, some (.int x), a5, a6] st h cn sn = bc d M_L_law scr 887 [a0, a1, a2, a3, some (.int x), a5, a6] (.int x :: st) h cn sn := bc_ldi2 rfl rfl
set_option maxRecDepth 20000 in
theorem st_L_law_887 : bc d M_L_law scr 887 [a0, a1, a2, a3, a4, a5, a6] st h cn sn = bc d M_L_law scr 888 [a0, a1, a2, a3, a4, a5, a6] (.int 1 :: st) h cn sn := bc_L rfl rfl
set_option maxRecDepth 20000 in
theorem st_L_law_888 : bc d M_L_law scr 888 [a0, a1, a2, a3, a4, a5, a6] (.int y :: .int x :: st) h cn sn = bc d M_L_law scr 889 [a0, a1, a2, a3, a4, a5, a6] (.int (x + y) :: st) h cn sn := bc_L rfl rfl
set_option maxRecDepth 20000 in
theorem st_L_law_889 : bc d M_L_law scr 889 [a0, a1, a2, a3, a4, a5, a6] st h cn sn = bM (px_ald scr 889 st h) (fun p s g => bc d M_L_law scr p [a0, a1, a2, a3, a4, a5, a6] s g cn sn) := bc_M (en := (.iaload, 1, 0, 0, 0, .null)) rfl rfl rfl rfl rfl rfl px_I_il
set_option maxRecDepth 20000 in
theorem st_L_law_890 : bc d M_L_law scr 890 [some (.ref p), a1, a2, a3, a4, a5, a6] st h cn sn = bc d M_L_law scr 891 [some (.ref p), a1, a2, a3, a4, a5, a6] (.ref p :: st) h cn sn := bc_lda1 rfl rfl
set_option maxRecDepth 20000 in
theorem st_L_law_890t : bc d M_L_law scr 890 [some (.float t), a1, a2, a3, a4, a5, a6] st h cn sn = bc d M_L_law scr 891 [some (.float t), a1, a2, a3, a4, a5, a6] (.float t :: st) h cn sn := bc_ldt1 rfl rfl
set_option maxRecDepth 20000 in
theorem st_L_law_891 : bc d M_L_law scr 891 [a0, a1, a2, a3, some (.int x), a5, a6] st h cn sn = bc d M_L_law scr 893 [a0, a1, a2, a3, some (.int x), a5, a6] (.int x :: st) h cn sn := bc_ldi2 rfl rfl
set_option maxRecDepth 20000 in
theorem st_L_law_893 : bc d M_L_law scr 893 [a0, a1, a2, a3, a4, a5, a6] st h cn sn = bc d M_L_law scr 894 [a0, a1, a2, a3, a4, a5, a6] (.int 2 :: st) h cn sn := bc_L rfl rfl
set_option maxRecDepth 20000 in
theorem st_L_law_894 : bc d M_L_law scr 894 [a0, a1, a2, a3, a4, a5, a6] (.int y :: .int x :: st) h cn sn = bc d M_L_law scr 895 [a0, a1, a2, a3, a4, a5, a6] (.int (x + y) :: st) h cn sn := bc_L rfl rfl
set_option maxRecDepth 20000 in
theorem st_L_law_895 : bc d M_L_law scr 895 [a0, a1, a2, a3, a4, a5, a6] st h cn sn = bM (px_ald scr 895 st h) (fun p s g => bc d M_L_law scr p [a0, a1, a2, a3, a4, a5, a6] s g cn sn) := bc_M (en := (.iaload, 1, 0, 0, 0, .null)) rfl rfl rfl rfl rfl rfl px_I_il
set_option maxRecDepth 20000 in
theorem st_L_law_896 : bc d M_L_law scr 896 [a0, a1, a2, some (.ref p), a4, a5, a6] st h cn sn = bc d M_L_law scr 897 [a0, a1, a2, some (.ref p), a4, a5, a6] (.ref p :: st) h cn sn := bc_lda1 rfl rfl
set_option maxRecDepth 20000 in
theorem st_L_law_896t : bc d M_L_law scr 896 [a0, a1, a2, some (.float t), a4, a5, a6] st h cn sn = bc d M_L_law scr 897 [a0, a1, a2, some (.float t), a4, a5, a6] (.float t :: st) h cn sn := bc_ldt1 rfl rfl
set_option maxRecDepth 20000 in
theorem st_L_law_897 (hs : px_sum st ≤ 8) : bc (d + 1) M_L_law scr 897 [a0, a1, a2, a3, a4, a5, a6] (.ref p2 :: .int y :: .int x :: .ref p1 :: st) h cn sn = bC (bc d M_L_then none 0 [some (.ref p1), some (.int x), some (.int y), some (.ref p2), none] [] h 0 0) (fun v h' c k => bc (d + 1) M_L_law scr 900 [a0, a1, a2, a3, a4, a5, a6] (v.toList ++ st) h' (cn + c) (sn + k)) (fun z h' c k => some (.inr z, h', cn + c, sn + k)) := bc_I rfl rfl rfl rfl rfl rfl rfl (px_I_sta mt_246 rfl hs rfl) rfl rfl rfl
set_option maxRecDepth 20000 in
theorem st_L_law_900 : bc d M_L_law scr 900 [a0, a1, a2, a3, a4, a5, a6] (.int x :: st) h cn sn = bc d M_L_law scr 902 [a0, a1, a2, a3, lc_c2 a4, some (.int x), a6] st h cn sn := bc_Ls1 (en := (.istore 5, 2, 0, 0, 0, .null)) (vs := [a0, a1, a2, a3, a4, a5, a6]) (i := 5) (v := .int x) rfl rfl rfl
set_option maxRecDepth 20000 in
theorem st_L_law_902 : bc d M_L_law scr 902 [a0, a1, some (.ref p), a3, a4, a5, a6] st h cn sn = bc d M_L_law scr 903 [a0, a1, some (.ref p), a3, a4, a5, a6] (.ref p :: st) h cn sn := bc_lda1 rfl rfl
set_option maxRecDepth 20000 in
theorem st_L_law_902t : bc d M_L_law scr 902 [a0, a1, some (.float t), a3, a4, a5, a6] st h cn sn = bc d M_L_law scr 903 [a0, a1, some (.float t), a3, a4, a5, a6] (.float t :: st) h cn sn := bc_ldt1 rfl rfl
set_option maxRecDepth 20000 in
theorem st_L_law_903 : bc d M_L_law scr 903 [some (.ref p), a1, a2, a3, a4, a5, a6] st h cn sn = bc d M_L_law scr 904 [some (.ref p), a1, a2, a3, a4, a5, a6] (.ref p :: st) h cn sn := bc_lda1 rfl rfl
set_option maxRecDepth 20000 in
theorem st_L_law_903t : bc d M_L_law scr 903 [some (.float t), a1, a2, a3, a4, a5, a6] st h cn sn = bc d M_L_law scr 904 [some (.float t), a1, a2, a3, a4, a5, a6] (.float t :: st) h cn sn := bc_ldt1 rfl rfl
set_option maxRecDepth 20000 in
theorem st_L_law_904 : bc d M_L_law scr 904 [a0, a1, a2, a3, some (.int x), a5, a6] st h cn sn = bc d M_L_law scr 906 [a0, a1, a2, a3, some (.int x), a5, a6] (.int x :: st) h cn sn := bc_ldi2 rfl rfl
set_option maxRecDepth 20000 in
theorem st_L_law_906 : bc d M_L_law scr 906 [a0, a1, a2, a3, a4, a5, a6] st h cn sn = bc d M_L_law scr 907 [a0, a1, a2, a3, a4, a5, a6] (.int 1 :: st) h cn sn := bc_L rfl rfl
set_option maxRecDepth 20000 in
theorem st_L_law_907 : bc d M_L_law scr 907 [a0, a1, a2, a3, a4, a5, a6] (.int y :: .int x :: st) h cn sn = bc d M_L_law scr 908 [a0, a1, a2, a3, a4, a5, a6] (.int (x + y) :: st) h cn sn := bc_L rfl rfl
set_option maxRecDepth 20000 in
theorem st_L_law_908 : bc d M_L_law scr 908 [a0, a1, a2, a3, a4, a5, a6] st h cn sn = bM (px_ald scr 908 st h) (fun p s g => bc d M_L_law scr p [a0, a1, a2, a3, a4, a5, a6] s g cn sn) := bc_M (en := (.iaload, 1, 0, 0, 0, .null)) rfl rfl rfl rfl rfl rfl px_I_il
set_option maxRecDepth 20000 in
theorem st_L_law_909 : bc d M_L_law scr 909 [some (.ref p), a1, a2, a3, a4, a5, a6] st h cn sn = bc d M_L_law scr 910 [some (.ref p), a1, a2, a3, a4, a5, a6] (.ref p :: st) h cn sn := bc_lda1 rfl rfl
set_option maxRecDepth 20000 in
theorem st_L_law_909t : bc d M_L_law scr 909 [some (.float t), a1, a2, a3, a4, a5, a6] st h cn sn = bc d M_L_law scr 910 [some (.float t), a1, a2, a3, a4, a5, a6] (.float t :: st) h cn sn := bc_ldt1 rfl rfl
set_option maxRecDepth 20000 in
theorem st_L_law_910 : bc d M_L_law scr 910 [a0, a1, a2, a3, some (.int x), a5, a6] st h cn sn = bc d M_L_law scr 912 [a0, a1, a2, a3, some (.int x), a5, a6] (.int x :: st) h cn sn := bc_ldi2 rfl rfl
set_option maxRecDepth 20000 in
theorem st_L_law_912 : bc d M_L_law scr 912 [a0, a1, a2, a3, a4, a5, a6] st h cn sn = bc d M_L_law scr 913 [a0, a1, a2, a3, a4, a5, a6] (.int 2 :: st) h cn sn := bc_L rfl rfl
set_option maxRecDepth 20000 in
theorem st_L_law_913 : bc d M_L_law scr 913 [a0, a1, a2, a3, a4, a5, a6] (.int y :: .int x :: st) h cn sn = bc d M_L_law scr 914 [a0, a1, a2, a3, a4, a5, a6] (.int (x + y) :: st) h cn sn := bc_L rfl rfl
set_option maxRecDepth 20000 in
theorem st_L_law_914 : bc d M_L_law scr 914 [a0, a1, a2, a3, a4, a5, a6] st h cn sn = bM (px_ald scr 914 st h) (fun p s g => bc d M_L_law scr p [a0, a1, a2, a3, a4, a5, a6] s g cn sn) := bc_M (en := (.iaload, 1, 0, 0, 0, .null)) rfl rfl rfl rfl rfl rfl px_I_il
set_option maxRecDepth 20000 in
theorem st_L_law_915 (hc : hcl h p = some 10) (hs : px_sum st ≤ 8) : bc (d + 1) M_L_law scr 915 [a0, a1, a2, a3, a4, a5, a6] (.int y :: .int x :: .ref p :: st) h cn sn = bC (bc d M_X10_then none 0 [some (.ref p), some (.int x), some (.int y), none] [] h 0 0) (fun v h' c k => bc (d + 1) M_L_law scr 918 [a0, a1, a2, a3, a4, a5, a6] (v.toList ++ st) h' (cn + c) (sn + k)) (fun z h' c k => some (.inr z, h', cn + c, sn + k)) := bc_I rfl rfl rfl rfl rfl rfl rfl (px_I_vir mt_202 rfl hc hs rfl) rfl rfl rfl
set_option maxRecDepth 20000 in
theorem st_L_law_918 : bc d M_L_law scr 918 [a0, a1, a2, a3, a4, a5, a6] (.int x :: st) h cn sn = bc d M_L_law scr 920 [a0, a1, a2, a3, a4, lc_c2 a5, some (.int x)] st h cn sn := bc_Ls1 (en := (.istore 6, 2, 0, 0, 0, .null)) (vs := [a0, a1, a2, a3, a4, a5, a6]) (i := 6) (v := .int x) rfl rfl rfl
set_option maxRecDepth 20000 in
theorem st_L_law_920 : bc d M_L_law scr 920 [a0, a1, some (.ref p), a3, a4, a5, a6] st h cn sn = bc d M_L_law scr 921 [a0, a1, some (.ref p), a3, a4, a5, a6] (.ref p :: st) h cn sn := bc_lda1 rfl rfl
set_option maxRecDepth 20000 in
theorem st_L_law_920t : bc d M_L_law scr 920 [a0, a1, some (.float t), a3, a4, a5, a6] st h cn sn = bc d M_L_law scr 921 [a0, a1, some (.float t), a3, a4, a5, a6] (.float t :: st) h cn sn := bc_ldt1 rfl rfl
set_option maxRecDepth 20000 in
theorem st_L_law_921 (hc : hcl h p = some 10) (hs : px_sum st ≤ 8) : bc (d + 1) M_L_law scr 921 [a0, a1, a2, a3, a4, a5, a6] (.ref p :: st) h cn sn = bC (bc d M_X10_thrown none 0 [some (.ref p)] [] h 0 0) (fun v h' c k => bc (d + 1) M_L_law scr 924 [a0, a1, a2, a3, a4, a5, a6] (v.toList ++ st) h' (cn + c) (sn + k)) (fun z h' c k => some (.inr z, h', cn + c, sn + k)) := bc_I rfl rfl rfl rfl rfl rfl rfl (px_I_vir mt_133 rfl hc hs rfl) rfl rfl rfl
set_option maxRecDepth 20000 in
theorem st_L_law_924 : bc d M_L_law scr 924 [a0, a1, a2, a3, a4, some (.int x), a6] st h cn sn = bc d M_L_law scr 926 [a0, a1, a2, a3, a4, some (.int x), a6] (.int x :: st) h cn sn := bc_ldi2 rfl rfl
set_option maxRecDepth 20000 in
theorem st_L_law_926 : bc d M_L_law scr 926 [a0, a1, a2, a3, a4, a5, a6] (.int y :: .int x :: st) h cn sn = if x = y then bc d M_L_law scr 931 [a0, a1, a2, a3, a4, a5, a6] st h cn sn else bc d M_L_law scr 929 [a0, a1, a2, a3, a4, a5, a6] st h cn sn := (bc_ic rfl).trans bt_eq
set_option maxRecDepth 20000 in
theorem st_L_law_929 : bc d M_L_law scr 929 [a0, a1, a2, a3, a4, a5, a6] st h cn sn = bc d M_L_law scr 930 [a0, a1, a2, a3, a4, a5, a6] (.int 0 :: st) h cn sn := bc_L rfl rfl
set_option maxRecDepth 20000 in
theorem st_L_law_930 : bc d M_L_law scr 930 [a0, a1, a2, a3, a4, a5, a6] [.int 0] h cn sn = some (.inl (some (.int 0)), h, cn, sn) := bc_E rfl rfl rfl rfl rfl rfl rfl
set_option maxRecDepth 20000 in
theorem st_L_law_930b : bc d M_L_law scr 930 [a0, a1, a2, a3, a4, a5, a6] [.int 1] h cn sn = some (.inl (some (.int 1)), h, cn, sn) := bc_E rfl rfl rfl rfl rfl rfl rfl
set_option maxRecDepth 20000 in
theorem st_L_law_931 : bc d M_L_law scr 931 [a0, a1, a2, a3, a4, some (.int x), a6] st h cn sn = bc d M_L_law scr 933 [a0, a1, a2, a3, a4, some (.int x), a6] (.int x :: st) h cn sn := bc_ldi2 rfl rfl
set_option maxRecDepth 20000 in
theorem st_L_law_933 : bc d M_L_law scr 933 [a0, a1, a2, a3, a4, a5, a6] (.int x :: st) h cn sn = if x = 0 then bc d M_L_law scr 936 [a0, a1, a2, a3, a4, a5, a6] st h cn sn else bc d M_L_law scr 948 [a0, a1, a2, a3, a4, a5, a6] st h cn sn := (bc_if rfl).trans bt_ne
set_option maxRecDepth 20000 in
theorem st_L_law_936 : bc d M_L_law scr 936 [a0, a1, a2, some (.ref p), a4, a5, a6] st h cn sn = bc d M_L_law scr 937 [a0, a1, a2, some (.ref p), a4, a5, a6] (.ref p :: st) h cn sn := bc_lda1 rfl rfl
set_option maxRecDepth 20000 in
theorem st_L_law_936t : bc d M_L_law scr 936 [a0, a1, a2, some (.float t), a4, a5, a6] st h cn sn = bc d M_L_law scr 937 [a0, a1, a2, some (.float t), a4, a5, a6] (.float t :: st) h cn sn := bc_ldt1 rfl rfl
set_option maxRecDepth 20000 in
theorem st_L_law_937 : bc d M_L_law scr 937 [a0, a1, a2, a3, a4, a5, a6] st h cn sn = bc d M_L_law scr 938 [a0, a1, a2, a3, a4, a5, a6] (.int 0 :: st) h cn sn := bc_L rfl rfl
set_option maxRecDepth 20000 in
theorem st_L_law_938 : bc d M_L_law scr 938 [a0, a1, a2, a3, a4, a5, a6] st h cn sn = bM (px_lld 938 st h) (fun p s g => bc d M_L_law scr p [a0, a1, a2, a3, a4, a5, a6] s g cn sn) := bc_M (en := (.laload, 1, 0, 0, 0, .null)) rfl rfl rfl rfl rfl rfl px_I_ll
set_option maxRecDepth 20000 in
theorem st_L_law_939 : bc d M_L_law scr 939 [a0, a1, a2, a3, a4, a5, some (.int x)] st h cn sn = bc d M_L_law scr 941 [a0, a1, a2, a3, a4, a5, some (.int x)] (.int x :: st) h cn sn := bc_ldi2 rfl rfl
set_option maxRecDepth 20000 in
theorem st_L_law_941 : bc d M_L_law scr 941 [a0, a1, a2, a3, a4, a5, a6] (.int x :: st) h cn sn = bc d M_L_law scr 942 [a0, a1, a2, a3, a4, a5, a6] (.long x.toInt64 :: st) h cn sn := bc_L rfl rfl
set_option maxRecDepth 20000 in
theorem st_L_law_942 : bc d M_L_law scr 942 [a0, a1, a2, a3, a4, a5, a6] (.long w :: .long u :: st) h cn sn = bc d M_L_law scr 943 [a0, a1, a2, a3, a4, a5, a6] (.int (lg_cmp u w) :: st) h cn sn := bc_L rfl rfl
set_option maxRecDepth 20000 in
theorem st_L_law_943 : bc d M_L_law scr 943 [a0, a1, a2, a3, a4, a5, a6] (.int x :: st) h cn sn = if x = 0 then bc d M_L_law scr 948 [a0, a1, a2, a3, a4, a5, a6] st h cn sn else bc d M_L_law scr 946 [a0, a1, a2, a3, a4, a5, a6] st h cn sn := (bc_if rfl).trans bt_eq
set_option maxRecDepth 20000 in
theorem st_L_law_946 : bc d M_L_law scr 946 [a0, a1, a2, a3, a4, a5, a6] st h cn sn = bc d M_L_law scr 947 [a0, a1, a2, a3, a4, a5, a6] (.int 0 :: st) h cn sn := bc_L rfl rfl
set_option maxRecDepth 20000 in
theorem st_L_law_947 : bc d M_L_law scr 947 [a0, a1, a2, a3, a4, a5, a6] [.int 0] h cn sn = some (.inl (some (.int 0)), h, cn, sn) := bc_E rfl rfl rfl rfl rfl rfl rfl
set_option maxRecDepth 20000 in
theorem st_L_law_947b : bc d M_L_law scr 947 [a0, a1, a2, a3, a4, a5, a6] [.int 1] h cn sn = some (.inl (some (.int 1)), h, cn, sn) := bc_E rfl rfl rfl rfl rfl rfl rfl
set_option maxRecDepth 20000 in
theorem st_L_law_948 : bc d M_L_law scr 948 [a0, a1, a2, a3, a4, a5, a6] st h cn sn = bc d M_L_law scr 1940 [a0, a1, a2, a3, a4, a5, a6] st h cn sn := bc_L rfl rfl
set_option maxRecDepth 20000 in
theorem st_L_law_951 : bc d M_L_law scr 951 [a0, some (.ref p), a2, a3, a4, a5, a6] st h cn sn = bc d M_L_law scr 952 [a0, some (.ref p), a2, a3, a4, a5, a6] (.ref p :: st) h cn sn := bc_lda1 rfl rfl
set_option maxRecDepth 20000 in
theorem st_L_law_951t : bc d M_L_law scr 951 [a0, some (.float t), a2, a3, a4, a5, a6] st h cn sn = bc d M_L_law scr 952 [a0, some (.float t), a2, a3, a4, a5, a6] (.float t :: st) h cn sn := bc_ldt1 rfl rfl
set_option maxRecDepth 20000 in
theorem st_L_law_952 : bc d M_L_law scr 952 [some (.ref p), a1, a2, a3, a4, a5, a6] st h cn sn = bc d M_L_law scr 953 [some (.ref p), a1, a2, a3, a4, a5, a6] (.ref p :: st) h cn sn := bc_lda1 rfl rfl
set_option maxRecDepth 20000 in
theorem st_L_law_952t : bc d M_L_law scr 952 [some (.float t), a1, a2, a3, a4, a5, a6] st h cn sn = bc d M_L_law scr 953 [some (.float t), a1, a2, a3, a4, a5, a6] (.float t :: st) h cn sn := bc_ldt1 rfl rfl
set_option maxRecDepth 20000 in
theorem st_L_law_953 : bc d M_L_law scr 953 [a0, a1, a2, a3, some (.int x), a5, a6] st h cn sn = bc d M_L_law scr 955 [a0, a1, a2, a3, some (.int x), a5, a6] (.int x :: st) h cn sn := bc_ldi2 rfl rfl
set_option maxRecDepth 20000 in
theorem st_L_law_955 : bc d M_L_law scr 955 [a0, a1, a2, a3, a4, a5, a6] st h cn sn = bc d M_L_law scr 956 [a0, a1, a2, a3, a4, a5, a6] (.int 1 :: st) h cn sn := bc_L rfl rfl
set_option maxRecDepth 20000 in
theorem st_L_law_956 : bc d M_L_law scr 956 [a0, a1, a2, a3, a4, a5, a6] (.int y :: .int x :: st) h cn sn = bc d M_L_law scr 957 [a0, a1, a2, a3, a4, a5, a6] (.int (x + y) :: st) h cn sn := bc_L rfl rfl
set_option maxRecDepth 20000 in
theorem st_L_law_957 : bc d M_L_law scr 957 [a0, a1, a2, a3, a4, a5, a6] st h cn sn = bM (px_ald scr 957 st h) (fun p s g => bc d M_L_law scr p [a0, a1, a2, a3, a4, a5, a6] s g cn sn) := bc_M (en := (.iaload, 1, 0, 0, 0, .null)) rfl rfl rfl rfl rfl rfl px_I_il
set_option maxRecDepth 20000 in
theorem st_L_law_958 : bc d M_L_law scr 958 [a0, a1, a2, some (.ref p), a4, a5, a6] st h cn sn = bc d M_L_law scr 959 [a0, a1, a2, some (.ref p), a4, a5, a6] (.ref p :: st) h cn sn := bc_lda1 rfl rfl
set_option maxRecDepth 20000 in
theorem st_L_law_958t : bc d M_L_law scr 958 [a0, a1, a2, some (.float t), a4, a5, a6] st h cn sn = bc d M_L_law scr 959 [a0, a1, a2, some (.float t), a4, a5, a6] (.float t :: st) h cn sn := bc_ldt1 rfl rfl
set_option maxRecDepth 20000 in
theorem st_L_law_959 (hs : px_sum st ≤ 8) : bc (d + 1) M_L_law scr 959 [a0, a1, a2, a3, a4, a5, a6] (.ref p2 :: .int x :: .ref p1 :: st) h cn sn = bC (bc d M_L_sung none 0 [some (.ref p1), some (.int x), some (.ref p2), none] [] h 0 0) (fun v h' c k => bc (d + 1) M_L_law scr 962 [a0, a1, a2, a3, a4, a5, a6] (v.toList ++ st) h' (cn + c) (sn + k)) (fun z h' c k => some (.inr z, h', cn + c, sn + k)) := bc_I rfl rfl rfl rfl rfl rfl rfl (px_I_sta mt_247 rfl hs rfl) rfl rfl rfl
set_option maxRecDepth 20000 in
theorem st_L_law_962 : bc d M_L_law scr 962 [a0, a1, a2, a3, a4, a5, a6] (.int x :: st) h cn sn = bc d M_L_law scr 964 [a0, a1, a2, a3, lc_c2 a4, some (.int x), a6] st h cn sn := bc_Ls1 (en := (.istore 5, 2, 0, 0, 0, .null)) (vs := [a0, a1, a2, a3, a4, a5, a6]) (i := 5) (v := .int x) rfl rfl rfl
set_option maxRecDepth 20000 in
theorem st_L_law_964 : bc d M_L_law scr 964 [a0, a1, some (.ref p), a3, a4, a5, a6] st h cn sn = bc d M_L_law scr 965 [a0, a1, some (.ref p), a3, a4, a5, a6] (.ref p :: st) h cn sn := bc_lda1 rfl rfl
set_option maxRecDepth 20000 in
theorem st_L_law_964t : bc d M_L_law scr 964 [a0, a1, some (.float t), a3, a4, a5, a6] st h cn sn = bc d M_L_law scr 965 [a0, a1, some (.float t), a3, a4, a5, a6] (.float t :: st) h cn sn := bc_ldt1 rfl rfl
set_option maxRecDepth 20000 in
theorem st_L_law_965 : bc d M_L_law scr 965 [some (.ref p), a1, a2, a3, a4, a5, a6] st h cn sn = bc d M_L_law scr 966 [some (.ref p), a1, a2, a3, a4, a5, a6] (.ref p :: st) h cn sn := bc_lda1 rfl rfl
set_option maxRecDepth 20000 in
theorem st_L_law_965t : bc d M_L_law scr 965 [some (.float t), a1, a2, a3, a4, a5, a6] st h cn sn = bc d M_L_law scr 966 [some (.float t), a1, a2, a3, a4, a5, a6] (.float t :: st) h cn sn := bc_ldt1 rfl rfl
set_option maxRecDepth 20000 in
theorem st_L_law_966 : bc d M_L_law scr 966 [a0, a1, a2, a3, some (.int x), a5, a6] st h cn sn = bc d M_L_law scr 968 [a0, a1, a2, a3, some (.int x), a5, a6] (.int x :: st) h cn sn := bc_ldi2 rfl rfl
set_option maxRecDepth 20000 in
theorem st_L_law_968 : bc d M_L_law scr 968 [a0, a1, a2, a3, a4, a5, a6] st h cn sn = bc d M_L_law scr 969 [a0, a1, a2, a3, a4, a5, a6] (.int 1 :: st) h cn sn := bc_L rfl rfl
set_option maxRecDepth 20000 in
theorem st_L_law_969 : bc d M_L_law scr 969 [a0, a1, a2, a3, a4, a5, a6] (.int y :: .int x :: st) h cn sn = bc d M_L_law scr 970 [a0, a1, a2, a3, a4, a5, a6] (.int (x + y) :: st) h cn sn := bc_L rfl rfl
set_option maxRecDepth 20000 in
theorem st_L_law_970 : bc d M_L_law scr 970 [a0, a1, a2, a3, a4, a5, a6] st h cn sn = bM (px_ald scr 970 st h) (fun p s g => bc d M_L_law scr p [a0, a1, a2, a3, a4, a5, a6] s g cn sn) := bc_M (en := (.iaload, 1, 0, 0, 0, .null)) rfl rfl rfl rfl rfl rfl px_I_il
set_option maxRecDepth 20000 in
theorem st_L_law_971 (hc : hcl h p = some 10) (hs : px_sum st ≤ 8) : bc (d + 1) M_L_law scr 971 [a0, a1, a2, a3, a4, a5, a6] (.int x :: .ref p :: st) h cn sn = bC (bc d M_X10_sung none 0 [some (.ref p), some (.int x), none, none] [] h 0 0) (fun v h' c k => bc (d + 1) M_L_law scr 974 [a0, a1, a2, a3, a4, a5, a6] (v.toList ++ st) h' (cn + c) (sn + k)) (fun z h' c k => some (.inr z, h', cn + c, sn + k)) := bc_I rfl rfl rfl rfl rfl rfl rfl (px_I_vir mt_203 rfl hc hs rfl) rfl rfl rfl
set_option maxRecDepth 20000 in
theorem st_L_law_974 : bc d M_L_law scr 974 [a0, a1, a2, a3, a4, a5, a6] (.int x :: st) h cn sn = bc d M_L_law scr 976 [a0, a1, a2, a3, a4, lc_c2 a5, some (.int x)] st h cn sn := bc_Ls1 (en := (.istore 6, 2, 0, 0, 0, .null)) (vs := [a0, a1, a2, a3, a4, a5, a6]) (i := 6) (v := .int x) rfl rfl rfl
set_option maxRecDepth 20000 in
theorem st_L_law_976 : bc d M_L_law scr 976 [a0, a1, some (.ref p), a3, a4, a5, a6] st h cn sn = bc d M_L_law scr 977 [a0, a1, some (.ref p), a3, a4, a5, a6] (.ref p :: st) h cn sn := bc_lda1 rfl rfl
set_option maxRecDepth 20000 in
theorem st_L_law_976t : bc d M_L_law scr 976 [a0, a1, some (.float t), a3, a4, a5, a6] st h cn sn = bc d M_L_law scr 977 [a0, a1, some (.float t), a3, a4, a5, a6] (.float t :: st) h cn sn := bc_ldt1 rfl rfl
set_option maxRecDepth 20000 in
theorem st_L_law_977 (hc : hcl h p = some 10) (hs : px_sum st ≤ 8) : bc (d + 1) M_L_law scr 977 [a0, a1, a2, a3, a4, a5, a6] (.ref p :: st) h cn sn = bC (bc d M_X10_thrown none 0 [some (.ref p)] [] h 0 0) (fun v h' c k => bc (d + 1) M_L_law scr 980 [a0, a1, a2, a3, a4, a5, a6] (v.toList ++ st) h' (cn + c) (sn + k)) (fun z h' c k => some (.inr z, h', cn + c, sn + k)) := bc_I rfl rfl rfl rfl rfl rfl rfl (px_I_vir mt_133 rfl hc hs rfl) rfl rfl rfl
set_option maxRecDepth 20000 in
theorem st_L_law_980 : bc d M_L_law scr 980 [a0, a1, a2, a3, a4, some (.int x), a6] st h cn sn = bc d M_L_law scr 982 [a0, a1, a2, a3, a4, some (.int x), a6] (.int x :: st) h cn sn := bc_ldi2 rfl rfl
set_option maxRecDepth 20000 in
theorem st_L_law_982 : bc d M_L_law scr 982 [a0, a1, a2, a3, a4, a5, a6] (.int y :: .int x :: st) h cn sn = if x = y then bc d M_L_law scr 987 [a0, a1, a2, a3, a4, a5, a6] st h cn sn else bc d M_L_law scr 985 [a0, a1, a2, a3, a4, a5, a6] st h cn sn := (bc_ic rfl).trans bt_eq
set_option maxRecDepth 20000 in
theorem st_L_law_985 : bc d M_L_law scr 985 [a0, a1, a2, a3, a4, a5, a6] st h cn sn = bc d M_L_law scr 986 [a0, a1, a2, a3, a4, a5, a6] (.int 0 :: st) h cn sn := bc_L rfl rfl
set_option maxRecDepth 20000 in
theorem st_L_law_986 : bc d M_L_law scr 986 [a0, a1, a2, a3, a4, a5, a6] [.int 0] h cn sn = some (.inl (some (.int 0)), h, cn, sn) := bc_E rfl rfl rfl rfl rfl rfl rfl
set_option maxRecDepth 20000 in
theorem st_L_law_986b : bc d M_L_law scr 986 [a0, a1, a2, a3, a4, a5, a6] [.int 1] h cn sn = some (.inl (some (.int 1)), h, cn, sn) := bc_E rfl rfl rfl rfl rfl rfl rfl
set_option maxRecDepth 20000 in
theorem st_L_law_987 : bc d M_L_law scr 987 [a0, a1, a2, a3, a4, some (.int x), a6] st h cn sn = bc d M_L_law scr 989 [a0, a1, a2, a3, a4, some (.int x), a6] (.int x :: st) h cn sn := bc_ldi2 rfl rfl
set_option maxRecDepth 20000 in
theorem st_L_law_989 : bc d M_L_law scr 989 [a0, a1, a2, a3, a4, a5, a6] (.int x :: st) h cn sn = if x = 0 then bc d M_L_law scr 992 [a0, a1, a2, a3, a4, a5, a6] st h cn sn else bc d M_L_law scr 1004 [a0, a1, a2, a3, a4, a5, a6] st h cn sn := (bc_if rfl).trans bt_ne
set_option maxRecDepth 20000 in
theorem st_L_law_992 : bc d M_L_law scr 992 [a0, a1, a2, some (.ref p), a4, a5, a6] st h cn sn = bc d M_L_law scr 993 [a0, a1, a2, some (.ref p), a4, a5, a6] (.ref p :: st) h cn sn := bc_lda1 rfl rfl
set_option maxRecDepth 20000 in
theorem st_L_law_992t : bc d M_L_law scr 992 [a0, a1, a2, some (.float t), a4, a5, a6] st h cn sn = bc d M_L_law scr 993 [a0, a1, a2, some (.float t), a4, a5, a6] (.float t :: st) h cn sn := bc_ldt1 rfl rfl
set_option maxRecDepth 20000 in
theorem st_L_law_993 : bc d M_L_law scr 993 [a0, a1, a2, a3, a4, a5, a6] st h cn sn = bc d M_L_law scr 994 [a0, a1, a2, a3, a4, a5, a6] (.int 0 :: st) h cn sn := bc_L rfl rfl
set_option maxRecDepth 20000 in
theorem st_L_law_994 : bc d M_L_law scr 994 [a0, a1, a2, a3, a4, a5, a6] st h cn sn = bM (px_lld 994 st h) (fun p s g => bc d M_L_law scr p [a0, a1, a2, a3, a4, a5, a6] s g cn sn) := bc_M (en := (.laload, 1, 0, 0, 0, .null)) rfl rfl rfl rfl rfl rfl px_I_ll
set_option maxRecDepth 20000 in
theorem st_L_law_995 : bc d M_L_law scr 995 [a0, a1, a2, a3, a4, a5, some (.int x)] st h cn sn = bc d M_L_law scr 997 [a0, a1, a2, a3, a4, a5, some (.int x)] (.int x :: st) h cn sn := bc_ldi2 rfl rfl
set_option maxRecDepth 20000 in
theorem st_L_law_997 : bc d M_L_law scr 997 [a0, a1, a2, a3, a4, a5, a6] (.int x :: st) h cn sn = bc d M_L_law scr 998 [a0, a1, a2, a3, a4, a5, a6] (.long x.toInt64 :: st) h cn sn := bc_L rfl rfl
set_option maxRecDepth 20000 in
theorem st_L_law_998 : bc d M_L_law scr 998 [a0, a1, a2, a3, a4, a5, a6] (.long w :: .long u :: st) h cn sn = bc d M_L_law scr 999 [a0, a1, a2, a3, a4, a5, a6] (.int (lg_cmp u w) :: st) h cn sn := bc_L rfl rfl
set_option maxRecDepth 20000 in
theorem st_L_law_999 : bc d M_L_law scr 999 [a0, a1, a2, a3, a4, a5, a6] (.int x :: st) h cn sn = if x = 0 then bc d M_L_law scr 1004 [a0, a1, a2, a3, a4, a5, a6] st h cn sn else bc d M_L_law scr 1002 [a0, a1, a2, a3, a4, a5, a6] st h cn sn := (bc_if rfl).trans bt_eq
set_option maxRecDepth 20000 in
theorem st_L_law_1002 : bc d M_L_law scr 1002 [a0, a1, a2, a3, a4, a5, a6] st h cn sn = bc d M_L_law scr 1003 [a0, a1, a2, a3, a4, a5, a6] (.int 0 :: st) h cn sn := bc_L rfl rfl
set_option maxRecDepth 20000 in
theorem st_L_law_1003 : bc d M_L_law scr 1003 [a0, a1, a2, a3, a4, a5, a6] [.int 0] h cn sn = some (.inl (some (.int 0)), h, cn, sn) := bc_E rfl rfl rfl rfl rfl rfl rfl
set_option maxRecDepth 20000 in
theorem st_L_law_1003b : bc d M_L_law scr 1003 [a0, a1, a2, a3, a4, a5, a6] [.int 1] h cn sn = some (.inl (some (.int 1)), h, cn, sn) := bc_E rfl rfl rfl rfl rfl rfl rfl
set_option maxRecDepth 20000 in
theorem st_L_law_1004 : bc d M_L_law scr 1004 [a0, a1, a2, a3, a4, a5, a6] st h cn sn = bc d M_L_law scr 1940 [a0, a1, a2, a3, a4, a5, a6] st h cn sn := bc_L rfl rfl
set_option maxRecDepth 20000 in
theorem st_L_law_1007 : bc d M_L_law scr 1007 [a0, some (.ref p), a2, a3, a4, a5, a6] st h cn sn = bc d M_L_law scr 1008 [a0, some (.ref p), a2, a3, a4, a5, a6] (.ref p :: st) h cn sn := bc_lda1 rfl rfl
set_option maxRecDepth 20000 in
theorem st_L_law_1007t : bc d M_L_law scr 1007 [a0, some (.float t), a2, a3, a4, a5, a6] st h cn sn = bc d M_L_law scr 1008 [a0, some (.float t), a2, a3, a4, a5, a6] (.float t :: st) h cn sn := bc_ldt1 rfl rfl
set_option maxRecDepth 20000 in
theorem st_L_law_1008 : bc d M_L_law scr 1008 [some (.ref p), a1, a2, a3, a4, a5, a6] st h cn sn = bc d M_L_law scr 1009 [some (.ref p), a1, a2, a3, a4, a5, a6] (.ref p :: st) h cn sn := bc_lda1 rfl rfl
set_option maxRecDepth 20000 in
theorem st_L_law_1008t : bc d M_L_law scr 1008 [some (.float t), a1, a2, a3, a4, a5, a6] st h cn sn = bc d M_L_law scr 1009 [some (.float t), a1, a2, a3, a4, a5, a6] (.float t :: st) h cn sn := bc_ldt1 rfl rfl
set_option maxRecDepth 20000 in
theorem st_L_law_1009 : bc d M_L_law scr 1009 [a0, a1, a2, a3, some (.int x), a5, a6] st h cn sn = bc d M_L_law scr 1011 [a0, a1, a2, a3, some (.int x), a5, a6] (.int x :: st) h cn sn := bc_ldi2 rfl rfl
set_option maxRecDepth 20000 in
theorem st_L_law_1011 : bc d M_L_law scr 1011 [a0, a1, a2, a3, a4, a5, a6] st h cn sn = bc d M_L_law scr 1012 [a0, a1, a2, a3, a4, a5, a6] (.int 1 :: st) h cn sn := bc_L rfl rfl
set_option maxRecDepth 20000 in
theorem st_L_law_1012 : bc d M_L_law scr 1012 [a0, a1, a2, a3, a4, a5, a6] (.int y :: .int x :: st) h cn sn = bc d M_L_law scr 1013 [a0, a1, a2, a3, a4, a5, a6] (.int (x + y) :: st) h cn sn := bc_L rfl rfl
set_option maxRecDepth 20000 in
theorem st_L_law_1013 : bc d M_L_law scr 1013 [a0, a1, a2, a3, a4, a5, a6] st h cn sn = bM (px_ald scr 1013 st h) (fun p s g => bc d M_L_law scr p [a0, a1, a2, a3, a4, a5, a6] s g cn sn) := bc_M (en := (.iaload, 1, 0, 0, 0, .null)) rfl rfl rfl rfl rfl rfl px_I_il
set_option maxRecDepth 20000 in
theorem st_L_law_1014 : bc d M_L_law scr 1014 [a0, a1, a2, some (.ref p), a4, a5, a6] st h cn sn = bc d M_L_law scr 1015 [a0, a1, a2, some (.ref p), a4, a5, a6] (.ref p :: st) h cn sn := bc_lda1 rfl rfl
set_option maxRecDepth 20000 in
theorem st_L_law_1014t : bc d M_L_law scr 1014 [a0, a1, a2, some (.float t), a4, a5, a6] st h cn sn = bc d M_L_law scr 1015 [a0, a1, a2, some (.float t), a4, a5, a6] (.float t :: st) h cn sn := bc_ldt1 rfl rfl
set_option maxRecDepth 20000 in
theorem st_L_law_1015 (hs : px_sum st ≤ 8) : bc (d + 1) M_L_law scr 1015 [a0, a1, a2, a3, a4, a5, a6] (.ref p2 :: .int x :: .ref p1 :: st) h cn sn = bC (bc d M_L_done none 0 [some (.ref p1), some (.int x), some (.ref p2), none] [] h 0 0) (fun v h' c k => bc (d + 1) M_L_law scr 1018 [a0, a1, a2, a3, a4, a5, a6] (v.toList ++ st) h' (cn + c) (sn + k)) (fun z h' c k => some (.inr z, h', cn + c, sn + k)) := bc_I rfl rfl rfl rfl rfl rfl rfl (px_I_sta mt_248 rfl hs rfl) rfl rfl rfl
set_option maxRecDepth 20000 in
theorem st_L_law_1018 : bc d M_L_law scr 1018 [a0, a1, a2, a3, a4, a5, a6] (.int x :: st) h cn sn = bc d M_L_law scr 1020 [a0, a1, a2, a3, lc_c2 a4, some (.int x), a6] st h cn sn := bc_Ls1 (en := (.istore 5, 2, 0, 0, 0, .null)) (vs := [a0, a1, a2, a3, a4, a5, a6]) (i := 5) (v := .int x) rfl rfl rfl
set_option maxRecDepth 20000 in
theorem st_L_law_1020 : bc d M_L_law scr 1020 [a0, a1, some (.ref p), a3, a4, a5, a6] st h cn sn = bc d M_L_law scr 1021 [a0, a1, some (.ref p), a3, a4, a5, a6] (.ref p :: st) h cn sn := bc_lda1 rfl rfl
set_option maxRecDepth 20000 in
theorem st_L_law_1020t : bc d M_L_law scr 1020 [a0, a1, some (.float t), a3, a4, a5, a6] st h cn sn = bc d M_L_law scr 1021 [a0, a1, some (.float t), a3, a4, a5, a6] (.float t :: st) h cn sn := bc_ldt1 rfl rfl
set_option maxRecDepth 20000 in
theorem st_L_law_1021 : bc d M_L_law scr 1021 [some (.ref p), a1, a2, a3, a4, a5, a6] st h cn sn = bc d M_L_law scr 1022 [some (.ref p), a1, a2, a3, a4, a5, a6] (.ref p :: st) h cn sn := bc_lda1 rfl rfl
set_option maxRecDepth 20000 in
theorem st_L_law_1021t : bc d M_L_law scr 1021 [some (.float t), a1, a2, a3, a4, a5, a6] st h cn sn = bc d M_L_law scr 1022 [some (.float t), a1, a2, a3, a4, a5, a6] (.float t :: st) h cn sn := bc_ldt1 rfl rfl
set_option maxRecDepth 20000 in
theorem st_L_law_1022 : bc d M_L_law scr 1022 [a0, a1, a2, a3, some (.int x), a5, a6] st h cn sn = bc d M_L_law scr 1024 [a0, a1, a2, a3, some (.int x), a5, a6] (.int x :: st) h cn sn := bc_ldi2 rfl rfl
set_option maxRecDepth 20000 in
theorem st_L_law_1024 : bc d M_L_law scr 1024 [a0, a1, a2, a3, a4, a5, a6] st h cn sn = bc d M_L_law scr 1025 [a0, a1, a2, a3, a4, a5, a6] (.int 1 :: st) h cn sn := bc_L rfl rfl
set_option maxRecDepth 20000 in
theorem st_L_law_1025 : bc d M_L_law scr 1025 [a0, a1, a2, a3, a4, a5, a6] (.int y :: .int x :: st) h cn sn = bc d M_L_law scr 1026 [a0, a1, a2, a3, a4, a5, a6] (.int (x + y) :: st) h cn sn := bc_L rfl rfl
set_option maxRecDepth 20000 in
theorem st_L_law_1026 : bc d M_L_law scr 1026 [a0, a1, a2, a3, a4, a5, a6] st h cn sn = bM (px_ald scr 1026 st h) (fun p s g => bc d M_L_law scr p [a0, a1, a2, a3, a4, a5, a6] s g cn sn) := bc_M (en := (.iaload, 1, 0, 0, 0, .null)) rfl rfl rfl rfl rfl rfl px_I_il
set_option maxRecDepth 20000 in
theorem st_L_law_1027 (hc : hcl h p = some 10) (hs : px_sum st ≤ 8) : bc (d + 1) M_L_law scr 1027 [a0, a1, a2, a3, a4, a5, a6] (.int x :: .ref p :: st) h cn sn = bC (bc d M_X10_done none 0 [some (.ref p), some (.int x), none] [] h 0 0) (fun v h' c k => bc (d + 1) M_L_law scr 1030 [a0, a1, a2, a3, a4, a5, a6] (v.toList ++ st) h' (cn + c) (sn + k)) (fun z h' c k => some (.inr z, h', cn + c, sn + k)) := bc_I rfl rfl rfl rfl rfl rfl rfl (px_I_vir mt_205 rfl hc hs rfl) rfl rfl rfl
set_option maxRecDepth 20000 in
theorem st_L_law_1030 : bc d M_L_law scr 1030 [a0, a1, a2, a3, a4, a5, a6] (.int x :: st) h cn sn = bc d M_L_law scr 1032 [a0, a1, a2, a3, a4, lc_c2 a5, some (.int x)] st h cn sn := bc_Ls1 (en := (.istore 6, 2, 0, 0, 0, .null)) (vs := [a0, a1, a2, a3, a4, a5, a6]) (i := 6) (v := .int x) rfl rfl rfl
set_option maxRecDepth 20000 in
theorem st_L_law_1032 : bc d M_L_law scr 1032 [a0, a1, some (.ref p), a3, a4, a5, a6] st h cn sn = bc d M_L_law scr 1033 [a0, a1, some (.ref p), a3, a4, a5, a6] (.ref p :: st) h cn sn := bc_lda1 rfl rfl
set_option maxRecDepth 20000 in
theorem st_L_law_1032t : bc d M_L_law scr 1032 [a0, a1, some (.float t), a3, a4, a5, a6] st h cn sn = bc d M_L_law scr 1033 [a0, a1, some (.float t), a3, a4, a5, a6] (.float t :: st) h cn sn := bc_ldt1 rfl rfl
set_option maxRecDepth 20000 in
theorem st_L_law_1033 (hc : hcl h p = some 10) (hs : px_sum st ≤ 8) : bc (d + 1) M_L_law scr 1033 [a0, a1, a2, a3, a4, a5, a6] (.ref p :: st) h cn sn = bC (bc d M_X10_thrown none 0 [some (.ref p)] [] h 0 0) (fun v h' c k => bc (d + 1) M_L_law scr 1036 [a0, a1, a2, a3, a4, a5, a6] (v.toList ++ st) h' (cn + c) (sn + k)) (fun z h' c k => some (.inr z, h', cn + c, sn + k)) := bc_I rfl rfl rfl rfl rfl rfl rfl (px_I_vir mt_133 rfl hc hs rfl) rfl rfl rfl
set_option maxRecDepth 20000 in
theorem st_L_law_1036 : bc d M_L_law scr 1036 [a0, a1, a2, a3, a4, some (.int x), a6] st h cn sn = bc d M_L_law scr 1038 [a0, a1, a2, a3, a4, some (.int x), a6] (.int x :: st) h cn sn := bc_ldi2 rfl rfl
set_option maxRecDepth 20000 in
theorem st_L_law_1038 : bc d M_L_law scr 1038 [a0, a1, a2, a3, a4, a5, a6] (.int y :: .int x :: st) h cn sn = if x = y then bc d M_L_law scr 1043 [a0, a1, a2, a3, a4, a5, a6] st h cn sn else bc d M_L_law scr 1041 [a0, a1, a2, a3, a4, a5, a6] st h cn sn := (bc_ic rfl).trans bt_eq
set_option maxRecDepth 20000 in
theorem st_L_law_1041 : bc d M_L_law scr 1041 [a0, a1, a2, a3, a4, a5, a6] st h cn sn = bc d M_L_law scr 1042 [a0, a1, a2, a3, a4, a5, a6] (.int 0 :: st) h cn sn := bc_L rfl rfl
set_option maxRecDepth 20000 in
theorem st_L_law_1042 : bc d M_L_law scr 1042 [a0, a1, a2, a3, a4, a5, a6] [.int 0] h cn sn = some (.inl (some (.int 0)), h, cn, sn) := bc_E rfl rfl rfl rfl rfl rfl rfl
set_option maxRecDepth 20000 in
theorem st_L_law_1042b : bc d M_L_law scr 1042 [a0, a1, a2, a3, a4, a5, a6] [.int 1] h cn sn = some (.inl (some (.int 1)), h, cn, sn) := bc_E rfl rfl rfl rfl rfl rfl rfl
set_option maxRecDepth 20000 in
theorem st_L_law_1043 : bc d M_L_law scr 1043 [a0, a1, a2, a3, a4, some (.int x), a6] st h cn sn = bc d M_L_law scr 1045 [a0, a1, a2, a3, a4, some (.int x), a6] (.int x :: st) h cn sn := bc_ldi2 rfl rfl
set_option maxRecDepth 20000 in
theorem st_L_law_1045 : bc d M_L_law scr 1045 [a0, a1, a2, a3, a4, a5, a6] (.int x :: st) h cn sn = if x = 0 then bc d M_L_law scr 1048 [a0, a1, a2, a3, a4, a5, a6] st h cn sn else bc d M_L_law scr 1060 [a0, a1, a2, a3, a4, a5, a6] st h cn sn := (bc_if rfl).trans bt_ne
set_option maxRecDepth 20000 in
theorem st_L_law_1048 : bc d M_L_law scr 1048 [a0, a1, a2, some (.ref p), a4, a5, a6] st h cn sn = bc d M_L_law scr 1049 [a0, a1, a2, some (.ref p), a4, a5, a6] (.ref p :: st) h cn sn := bc_lda1 rfl rfl
set_option maxRecDepth 20000 in
theorem st_L_law_1048t : bc d M_L_law scr 1048 [a0, a1, a2, some (.float t), a4, a5, a6] st h cn sn = bc d M_L_law scr 1049 [a0, a1, a2, some (.float t), a4, a5, a6] (.float t :: st) h cn sn := bc_ldt1 rfl rfl
set_option maxRecDepth 20000 in
theorem st_L_law_1049 : bc d M_L_law scr 1049 [a0, a1, a2, a3, a4, a5, a6] st h cn sn = bc d M_L_law scr 1050 [a0, a1, a2, a3, a4, a5, a6] (.int 0 :: st) h cn sn := bc_L rfl rfl
set_option maxRecDepth 20000 in
theorem st_L_law_1050 : bc d M_L_law scr 1050 [a0, a1, a2, a3, a4, a5, a6] st h cn sn = bM (px_lld 1050 st h) (fun p s g => bc d M_L_law scr p [a0, a1, a2, a3, a4, a5, a6] s g cn sn) := bc_M (en := (.laload, 1, 0, 0, 0, .null)) rfl rfl rfl rfl rfl rfl px_I_ll
set_option maxRecDepth 20000 in
theorem st_L_law_1051 : bc d M_L_law scr 1051 [a0, a1, a2, a3, a4, a5, some (.int x)] st h cn sn = bc d M_L_law scr 1053 [a0, a1, a2, a3, a4, a5, some (.int x)] (.int x :: st) h cn sn := bc_ldi2 rfl rfl
set_option maxRecDepth 20000 in
theorem st_L_law_1053 : bc d M_L_law scr 1053 [a0, a1, a2, a3, a4, a5, a6] (.int x :: st) h cn sn = bc d M_L_law scr 1054 [a0, a1, a2, a3, a4, a5, a6] (.long x.toInt64 :: st) h cn sn := bc_L rfl rfl
set_option maxRecDepth 20000 in
theorem st_L_law_1054 : bc d M_L_law scr 1054 [a0, a1, a2, a3, a4, a5, a6] (.long w :: .long u :: st) h cn sn = bc d M_L_law scr 1055 [a0, a1, a2, a3, a4, a5, a6] (.int (lg_cmp u w) :: st) h cn sn := bc_L rfl rfl
set_option maxRecDepth 20000 in
theorem st_L_law_1055 : bc d M_L_law scr 1055 [a0, a1, a2, a3, a4, a5, a6] (.int x :: st) h cn sn = if x = 0 then bc d M_L_law scr 1060 [a0, a1, a2, a3, a4, a5, a6] st h cn sn else bc d M_L_law scr 1058 [a0, a1, a2, a3, a4, a5, a6] st h cn sn := (bc_if rfl).trans bt_eq
set_option maxRecDepth 20000 in
theorem st_L_law_1058 : bc d M_L_law scr 1058 [a0, a1, a2, a3, a4, a5, a6] st h cn sn = bc d M_L_law scr 1059 [a0, a1, a2, a3, a4, a5, a6] (.int 0 :: st) h cn sn := bc_L rfl rfl
set_option maxRecDepth 20000 in
theorem st_L_law_1059 : bc d M_L_law scr 1059 [a0, a1, a2, a3, a4, a5, a6] [.int 0] h cn sn = some (.inl (some (.int 0)), h, cn, sn) := bc_E rfl rfl rfl rfl rfl rfl rfl
set_option maxRecDepth 20000 in
theorem st_L_law_1059b : bc d M_L_law scr 1059 [a0, a1, a2, a3, a4, a5, a6] [.int 1] h cn sn = some (.inl (some (.int 1)), h, cn, sn) := bc_E rfl rfl rfl rfl rfl rfl rfl
set_option maxRecDepth 20000 in
theorem st_L_law_1060 : bc d M_L_law scr 1060 [a0, a1, a2, a3, a4, a5, a6] st h cn sn = bc d M_L_law scr 1940 [a0, a1, a2, a3, a4, a5, a6] st h cn sn := bc_L rfl rfl
set_option maxRecDepth 20000 in
theorem st_L_law_1063 : bc d M_L_law scr 1063 [a0, some (.ref p), a2, a3, a4, a5, a6] st h cn sn = bc d M_L_law scr 1064 [a0, some (.ref p), a2, a3, a4, a5, a6] (.ref p :: st) h cn sn := bc_lda1 rfl rfl
set_option maxRecDepth 20000 in
theorem st_L_law_1063t : bc d M_L_law scr 1063 [a0, some (.float t), a2, a3, a4, a5, a6] st h cn sn = bc d M_L_law scr 1064 [a0, some (.float t), a2, a3, a4, a5, a6] (.float t :: st) h cn sn := bc_ldt1 rfl rfl
set_option maxRecDepth 20000 in
theorem st_L_law_1064 : bc d M_L_law scr 1064 [some (.ref p), a1, a2, a3, a4, a5, a6] st h cn sn = bc d M_L_law scr 1065 [some (.ref p), a1, a2, a3, a4, a5, a6] (.ref p :: st) h cn sn := bc_lda1 rfl rfl
set_option maxRecDepth 20000 in
theorem st_L_law_1064t : bc d M_L_law scr 1064 [some (.float t), a1, a2, a3, a4, a5, a6] st h cn sn = bc d M_L_law scr 1065 [some (.float t), a1, a2, a3, a4, a5, a6] (.float t :: st) h cn sn := bc_ldt1 rfl rfl
set_option maxRecDepth 20000 in
theorem st_L_law_1065 : bc d M_L_law scr 1065 [a0, a1, a2, a3, some (.int x), a5, a6] st h cn sn = bc d M_L_law scr 1067 [a0, a1, a2, a3, some (.int x), a5, a6] (.int x :: st) h cn sn := bc_ldi2 rfl rfl
set_option maxRecDepth 20000 in
theorem st_L_law_1067 : bc d M_L_law scr 1067 [a0, a1, a2, a3, a4, a5, a6] st h cn sn = bc d M_L_law scr 1068 [a0, a1, a2, a3, a4, a5, a6] (.int 1 :: st) h cn sn := bc_L rfl rfl
set_option maxRecDepth 20000 in
theorem st_L_law_1068 : bc d M_L_law scr 1068 [a0, a1, a2, a3, a4, a5, a6] (.int y :: .int x :: st) h cn sn = bc d M_L_law scr 1069 [a0, a1, a2, a3, a4, a5, a6] (.int (x + y) :: st) h cn sn := bc_L rfl rfl
set_option maxRecDepth 20000 in
theorem st_L_law_1069 : bc d M_L_law scr 1069 [a0, a1, a2, a3, a4, a5, a6] st h cn sn = bM (px_ald scr 1069 st h) (fun p s g => bc d M_L_law scr p [a0, a1, a2, a3, a4, a5, a6] s g cn sn) := bc_M (en := (.iaload, 1, 0, 0, 0, .null)) rfl rfl rfl rfl rfl rfl px_I_il
set_option maxRecDepth 20000 in
theorem st_L_law_1070 : bc d M_L_law scr 1070 [a0, a1, a2, some (.ref p), a4, a5, a6] st h cn sn = bc d M_L_law scr 1071 [a0, a1, a2, some (.ref p), a4, a5, a6] (.ref p :: st) h cn sn := bc_lda1 rfl rfl
set_option maxRecDepth 20000 in
theorem st_L_law_1070t : bc d M_L_law scr 1070 [a0, a1, a2, some (.float t), a4, a5, a6] st h cn sn = bc d M_L_law scr 1071 [a0, a1, a2, some (.float t), a4, a5, a6] (.float t :: st) h cn sn := bc_ldt1 rfl rfl
set_option maxRecDepth 20000 in
theorem st_L_law_1071 (hs : px_sum st ≤ 8) : bc (d + 1) M_L_law scr 1071 [a0, a1, a2, a3, a4, a5, a6] (.ref p2 :: .int x :: .ref p1 :: st) h cn sn = bC (bc d M_L_fugue none 0 [some (.ref p1), some (.int x), some (.ref p2), none] [] h 0 0) (fun v h' c k => bc (d + 1) M_L_law scr 1074 [a0, a1, a2, a3, a4, a5, a6] (v.toList ++ st) h' (cn + c) (sn + k)) (fun z h' c k => some (.inr z, h', cn + c, sn + k)) := bc_I rfl rfl rfl rfl rfl rfl rfl (px_I_sta mt_249 rfl hs rfl) rfl rfl rfl
set_option maxRecDepth 20000 in
theorem st_L_law_1074 : bc d M_L_law scr 1074 [a0, a1, a2, a3, a4, a5, a6] (.int x :: st) h cn sn = bc d M_L_law scr 1076 [a0, a1, a2, a3, lc_c2 a4, some (.int x), a6] st h cn sn := bc_Ls1 (en := (.istore 5, 2, 0, 0, 0, .null)) (vs := [a0, a1, a2, a3, a4, a5, a6]) (i := 5) (v := .int x) rfl rfl rfl
set_option maxRecDepth 20000 in
theorem st_L_law_1076 : bc d M_L_law scr 1076 [a0, a1, some (.ref p), a3, a4, a5, a6] st h cn sn = bc d M_L_law scr 1077 [a0, a1, some (.ref p), a3, a4, a5, a6] (.ref p :: st) h cn sn := bc_lda1 rfl rfl
set_option maxRecDepth 20000 in
theorem st_L_law_1076t : bc d M_L_law scr 1076 [a0, a1, some (.float t), a3, a4, a5, a6] st h cn sn = bc d M_L_law scr 1077 [a0, a1, some (.float t), a3, a4, a5, a6] (.float t :: st) h cn sn := bc_ldt1 rfl rfl
set_option maxRecDepth 20000 in
theorem st_L_law_1077 : bc d M_L_law scr 1077 [some (.ref p), a1, a2, a3, a4, a5, a6] st h cn sn = bc d M_L_law scr 1078 [some (.ref p), a1, a2, a3, a4, a5, a6] (.ref p :: st) h cn sn := bc_lda1 rfl rfl
set_option maxRecDepth 20000 in
theorem st_L_law_1077t : bc d M_L_law scr 1077 [some (.float t), a1, a2, a3, a4, a5, a6] st h cn sn = bc d M_L_law scr 1078 [some (.float t), a1, a2, a3, a4, a5, a6] (.float t :: st) h cn sn := bc_ldt1 rfl rfl
set_option maxRecDepth 20000 in
theorem st_L_law_1078 : bc d M_L_law scr 1078 [a0, a1, a2, a3, some (.int x), a5, a6] st h cn sn = bc d M_L_law scr 1080 [a0, a1, a2, a3, some (.int x), a5, a6] (.int x :: st) h cn sn := bc_ldi2 rfl rfl
set_option maxRecDepth 20000 in
theorem st_L_law_1080 : bc d M_L_law scr 1080 [a0, a1, a2, a3, a4, a5, a6] st h cn sn = bc d M_L_law scr 1081 [a0, a1, a2, a3, a4, a5, a6] (.int 1 :: st) h cn sn := bc_L rfl rfl
set_option maxRecDepth 20000 in
theorem st_L_law_1081 : bc d M_L_law scr 1081 [a0, a1, a2, a3, a4, a5, a6] (.int y :: .int x :: st) h cn sn = bc d M_L_law scr 1082 [a0, a1, a2, a3, a4, a5, a6] (.int (x + y) :: st) h cn sn := bc_L rfl rfl
set_option maxRecDepth 20000 in
theorem st_L_law_1082 : bc d M_L_law scr 1082 [a0, a1, a2, a3, a4, a5, a6] st h cn sn = bM (px_ald scr 1082 st h) (fun p s g => bc d M_L_law scr p [a0, a1, a2, a3, a4, a5, a6] s g cn sn) := bc_M (en := (.iaload, 1, 0, 0, 0, .null)) rfl rfl rfl rfl rfl rfl px_I_il
set_option maxRecDepth 20000 in
theorem st_L_law_1083 (hc : hcl h p = some 10) (hs : px_sum st ≤ 8) : bc (d + 1) M_L_law scr 1083 [a0, a1, a2, a3, a4, a5, a6] (.int x :: .ref p :: st) h cn sn = bC (bc d M_X10_fugue none 0 [some (.ref p), some (.int x), none, none] [] h 0 0) (fun v h' c k => bc (d + 1) M_L_law scr 1086 [a0, a1, a2, a3, a4, a5, a6] (v.toList ++ st) h' (cn + c) (sn + k)) (fun z h' c k => some (.inr z, h', cn + c, sn + k)) := bc_I rfl rfl rfl rfl rfl rfl rfl (px_I_vir mt_206 rfl hc hs rfl) rfl rfl rfl
set_option maxRecDepth 20000 in
theorem st_L_law_1086 : bc d M_L_law scr 1086 [a0, a1, a2, a3, a4, a5, a6] (.int x :: st) h cn sn = bc d M_L_law scr 1088 [a0, a1, a2, a3, a4, lc_c2 a5, some (.int x)] st h cn sn := bc_Ls1 (en := (.istore 6, 2, 0, 0, 0, .null)) (vs := [a0, a1, a2, a3, a4, a5, a6]) (i := 6) (v := .int x) rfl rfl rfl
set_option maxRecDepth 20000 in
theorem st_L_law_1088 : bc d M_L_law scr 1088 [a0, a1, some (.ref p), a3, a4, a5, a6] st h cn sn = bc d M_L_law scr 1089 [a0, a1, some (.ref p), a3, a4, a5, a6] (.ref p :: st) h cn sn := bc_lda1 rfl rfl
set_option maxRecDepth 20000 in
theorem st_L_law_1088t : bc d M_L_law scr 1088 [a0, a1, some (.float t), a3, a4, a5, a6] st h cn sn = bc d M_L_law scr 1089 [a0, a1, some (.float t), a3, a4, a5, a6] (.float t :: st) h cn sn := bc_ldt1 rfl rfl
set_option maxRecDepth 20000 in
theorem st_L_law_1089 (hc : hcl h p = some 10) (hs : px_sum st ≤ 8) : bc (d + 1) M_L_law scr 1089 [a0, a1, a2, a3, a4, a5, a6] (.ref p :: st) h cn sn = bC (bc d M_X10_thrown none 0 [some (.ref p)] [] h 0 0) (fun v h' c k => bc (d + 1) M_L_law scr 1092 [a0, a1, a2, a3, a4, a5, a6] (v.toList ++ st) h' (cn + c) (sn + k)) (fun z h' c k => some (.inr z, h', cn + c, sn + k)) := bc_I rfl rfl rfl rfl rfl rfl rfl (px_I_vir mt_133 rfl hc hs rfl) rfl rfl rfl
set_option maxRecDepth 20000 in
theorem st_L_law_1092 : bc d M_L_law scr 1092 [a0, a1, a2, a3, a4, some (.int x), a6] st h cn sn = bc d M_L_law scr 1094 [a0, a1, a2, a3, a4, some (.int x), a6] (.int x :: st) h cn sn := bc_ldi2 rfl rfl
set_option maxRecDepth 20000 in
theorem st_L_law_1094 : bc d M_L_law scr 1094 [a0, a1, a2, a3, a4, a5, a6] (.int y :: .int x :: st) h cn sn = if x = y then bc d M_L_law scr 1099 [a0, a1, a2, a3, a4, a5, a6] st h cn sn else bc d M_L_law scr 1097 [a0, a1, a2, a3, a4, a5, a6] st h cn sn := (bc_ic rfl).trans bt_eq
set_option maxRecDepth 20000 in
theorem st_L_law_1097 : bc d M_L_law scr 1097 [a0, a1, a2, a3, a4, a5, a6] st h cn sn = bc d M_L_law scr 1098 [a0, a1, a2, a3, a4, a5, a6] (.int 0 :: st) h cn sn := bc_L rfl rfl
set_option maxRecDepth 20000 in
theorem st_L_law_1098 : bc d M_L_law scr 1098 [a0, a1, a2, a3, a4, a5, a6] [.int 0] h cn sn = some (.inl (some (.int 0)), h, cn, sn) := bc_E rfl rfl rfl rfl rfl rfl rfl
set_option maxRecDepth 20000 in
theorem st_L_law_1098b : bc d M_L_law scr 1098 [a0, a1, a2, a3, a4, a5, a6] [.int 1] h cn sn = some (.inl (some (.int 1)), h, cn, sn) := bc_E rfl rfl rfl rfl rfl rfl rfl
set_option maxRecDepth 20000 in
theorem st_L_law_1099 : bc d M_L_law scr 1099 [a0, a1, a2, a3, a4, some (.int x), a6] st h cn sn = bc d M_L_law scr 1101 [a0, a1, a2, a3, a4, some (.int x), a6] (.int x :: st) h cn sn := bc_ldi2 rfl rfl
set_option maxRecDepth 20000 in
theorem st_L_law_1101 : bc d M_L_law scr 1101 [a0, a1, a2, a3, a4, a5, a6] (.int x :: st) h cn sn = if x = 0 then bc d M_L_law scr 1104 [a0, a1, a2, a3, a4, a5, a6] st h cn sn else bc d M_L_law scr 1116 [a0, a1, a2, a3, a4, a5, a6] st h cn sn := (bc_if rfl).trans bt_ne
set_option maxRecDepth 20000 in
theorem st_L_law_1104 : bc d M_L_law scr 1104 [a0, a1, a2, some (.ref p), a4, a5, a6] st h cn sn = bc d M_L_law scr 1105 [a0, a1, a2, some (.ref p), a4, a5, a6] (.ref p :: st) h cn sn := bc_lda1 rfl rfl
set_option maxRecDepth 20000 in
theorem st_L_law_1104t : bc d M_L_law scr 1104 [a0, a1, a2, some (.float t), a4, a5, a6] st h cn sn = bc d M_L_law scr 1105 [a0, a1, a2, some (.float t), a4, a5, a6] (.float t :: st) h cn sn := bc_ldt1 rfl rfl
set_option maxRecDepth 20000 in
theorem st_L_law_1105 : bc d M_L_law scr 1105 [a0, a1, a2, a3, a4, a5, a6] st h cn sn = bc d M_L_law scr 1106 [a0, a1, a2, a3, a4, a5, a6] (.int 0 :: st) h cn sn := bc_L rfl rfl
set_option maxRecDepth 20000 in
theorem st_L_law_1106 : bc d M_L_law scr 1106 [a0, a1, a2, a3, a4, a5, a6] st h cn sn = bM (px_lld 1106 st h) (fun p s g => bc d M_L_law scr p [a0, a1, a2, a3, a4, a5, a6] s g cn sn) := bc_M (en := (.laload, 1, 0, 0, 0, .null)) rfl rfl rfl rfl rfl rfl px_I_ll
set_option maxRecDepth 20000 in
theorem st_L_law_1107 : bc d M_L_law scr 1107 [a0, a1, a2, a3, a4, a5, some (.int x)] st h cn sn = bc d M_L_law scr 1109 [a0, a1, a2, a3, a4, a5, some (.int x)] (.int x :: st) h cn sn := bc_ldi2 rfl rfl
set_option maxRecDepth 20000 in
theorem st_L_law_1109 : bc d M_L_law scr 1109 [a0, a1, a2, a3, a4, a5, a6] (.int x :: st) h cn sn = bc d M_L_law scr 1110 [a0, a1, a2, a3, a4, a5, a6] (.long x.toInt64 :: st) h cn sn := bc_L rfl rfl
set_option maxRecDepth 20000 in
theorem st_L_law_1110 : bc d M_L_law scr 1110 [a0, a1, a2, a3, a4, a5, a6] (.long w :: .long u :: st) h cn sn = bc d M_L_law scr 1111 [a0, a1, a2, a3, a4, a5, a6] (.int (lg_cmp u w) :: st) h cn sn := bc_L rfl rfl
set_option maxRecDepth 20000 in
theorem st_L_law_1111 : bc d M_L_law scr 1111 [a0, a1, a2, a3, a4, a5, a6] (.int x :: st) h cn sn = if x = 0 then bc d M_L_law scr 1116 [a0, a1, a2, a3, a4, a5, a6] st h cn sn else bc d M_L_law scr 1114 [a0, a1, a2, a3, a4, a5, a6] st h cn sn := (bc_if rfl).trans bt_eq
set_option maxRecDepth 20000 in
theorem st_L_law_1114 : bc d M_L_law scr 1114 [a0, a1, a2, a3, a4, a5, a6] st h cn sn = bc d M_L_law scr 1115 [a0, a1, a2, a3, a4, a5, a6] (.int 0 :: st) h cn sn := bc_L rfl rfl
set_option maxRecDepth 20000 in
theorem st_L_law_1115 : bc d M_L_law scr 1115 [a0, a1, a2, a3, a4, a5, a6] [.int 0] h cn sn = some (.inl (some (.int 0)), h, cn, sn) := bc_E rfl rfl rfl rfl rfl rfl rfl
set_option maxRecDepth 20000 in
theorem st_L_law_1115b : bc d M_L_law scr 1115 [a0, a1, a2, a3, a4, a5, a6] [.int 1] h cn sn = some (.inl (some (.int 1)), h, cn, sn) := bc_E rfl rfl rfl rfl rfl rfl rfl
set_option maxRecDepth 20000 in
theorem st_L_law_1116 : bc d M_L_law scr 1116 [a0, a1, a2, a3, a4, a5, a6] st h cn sn = bc d M_L_law scr 1940 [a0, a1, a2, a3, a4, a5, a6] st h cn sn := bc_L rfl rfl
set_option maxRecDepth 20000 in
theorem st_L_law_1119 : bc d M_L_law scr 1119 [a0, some (.ref p), a2, a3, a4, a5, a6] st h cn sn = bc d M_L_law scr 1120 [a0, some (.ref p), a2, a3, a4, a5, a6] (.ref p :: st) h cn sn := bc_lda1 rfl rfl
set_option maxRecDepth 20000 in
theorem st_L_law_1119t : bc d M_L_law scr 1119 [a0, some (.float t), a2, a3, a4, a5, a6] st h cn sn = bc d M_L_law scr 1120 [a0, some (.float t), a2, a3, a4, a5, a6] (.float t :: st) h cn sn := bc_ldt1 rfl rfl
set_option maxRecDepth 20000 in
theorem st_L_law_1120 (hc : hcl h p = some 9) (hs : px_sum st ≤ 8) : bc (d + 1) M_L_law scr 1120 [a0, a1, a2, a3, a4, a5, a6] (.ref p :: st) h cn sn = bC (bc d M_X9_quiet none 0 [some (.ref p), none, none] [] h 0 0) (fun v h' c k => bc (d + 1) M_L_law scr 1123 [a0, a1, a2, a3, a4, a5, a6] (v.toList ++ st) h' (cn + c) (sn + k)) (fun z h' c k => some (.inr z, h', cn + c, sn + k)) := bc_I rfl rfl rfl rfl rfl rfl rfl (px_I_vir mt_96 rfl hc hs rfl) rfl rfl rfl
set_option maxRecDepth 20000 in
theorem st_L_law_1123 : bc d M_L_law scr 1123 [a0, a1, some (.ref p), a3, a4, a5, a6] st h cn sn = bc d M_L_law scr 1124 [a0, a1, some (.ref p), a3, a4, a5, a6] (.ref p :: st) h cn sn := bc_lda1 rfl rfl
set_option maxRecDepth 20000 in
theorem st_L_law_1123t : bc d M_L_law scr 1123 [a0, a1, some (.float t), a3, a4, a5, a6] st h cn sn = bc d M_L_law scr 1124 [a0, a1, some (.float t), a3, a4, a5, a6] (.float t :: st) h cn sn := bc_ldt1 rfl rfl
set_option maxRecDepth 20000 in
theorem st_L_law_1124 (hc : hcl h p = some 10) (hs : px_sum st ≤ 8) : bc (d + 1) M_L_law scr 1124 [a0, a1, a2, a3, a4, a5, a6] (.ref p :: st) h cn sn = bC (bc d M_X10_quiet none 0 [some (.ref p), none, none, none] [] h 0 0) (fun v h' c k => bc (d + 1) M_L_law scr 1127 [a0, a1, a2, a3, a4, a5, a6] (v.toList ++ st) h' (cn + c) (sn + k)) (fun z h' c k => some (.inr z, h', cn + c, sn + k)) := bc_I rfl rfl rfl rfl rfl rfl rfl (px_I_vir mt_207 rfl hc hs rfl) rfl rfl rfl
set_option maxRecDepth 20000 in
theorem st_L_law_1127 : bc d M_L_law scr 1127 [a0, a1, a2, a3, a4, a5, a6] (.int y :: .int x :: st) h cn sn = if x = y then bc d M_L_law scr 1940 [a0, a1, a2, a3, a4, a5, a6] st h cn sn else bc d M_L_law scr 1130 [a0, a1, a2, a3, a4, a5, a6] st h cn sn := (bc_ic rfl).trans bt_eq
set_option maxRecDepth 20000 in
theorem st_L_law_1130 : bc d M_L_law scr 1130 [a0, a1, a2, a3, a4, a5, a6] st h cn sn = bc d M_L_law scr 1131 [a0, a1, a2, a3, a4, a5, a6] (.int 0 :: st) h cn sn := bc_L rfl rfl
set_option maxRecDepth 20000 in
theorem st_L_law_1131 : bc d M_L_law scr 1131 [a0, a1, a2, a3, a4, a5, a6] [.int 0] h cn sn = some (.inl (some (.int 0)), h, cn, sn) := bc_E rfl rfl rfl rfl rfl rfl rfl
set_option maxRecDepth 20000 in
theorem st_L_law_1131b : bc d M_L_law scr 1131 [a0, a1, a2, a3, a4, a5, a6] [.int 1] h cn sn = some (.inl (some (.int 1)), h, cn, sn) := bc_E rfl rfl rfl rfl rfl rfl rfl
set_option maxRecDepth 20000 in
theorem st_L_law_1132 : bc d M_L_law scr 1132 [a0, some (.ref p), a2, a3, a4, a5, a6] st h cn sn = bc d M_L_law scr 1133 [a0, some (.ref p), a2, a3, a4, a5, a6] (.ref p :: st) h cn sn := bc_lda1 rfl rfl
set_option maxRecDepth 20000 in
theorem st_L_law_1132t : bc d M_L_law scr 1132 [a0, some (.float t), a2, a3, a4, a5, a6] st h cn sn = bc d M_L_law scr 1133 [a0, some (.float t), a2, a3, a4, a5, a6] (.float t :: st) h cn sn := bc_ldt1 rfl rfl
set_option maxRecDepth 20000 in
theorem st_L_law_1133 : bc d M_L_law scr 1133 [some (.ref p), a1, a2, a3, a4, a5, a6] st h cn sn = bc d M_L_law scr 1134 [some (.ref p), a1, a2, a3, a4, a5, a6] (.ref p :: st) h cn sn := bc_lda1 rfl rfl
set_option maxRecDepth 20000 in
theorem st_L_law_1133t : bc d M_L_law scr 1133 [some (.float t), a1, a2, a3, a4, a5, a6] st h cn sn = bc d M_L_law scr 1134 [some (.float t), a1, a2, a3, a4, a5, a6] (.float t :: st) h cn sn := bc_ldt1 rfl rfl
set_option maxRecDepth 20000 in
theorem st_L_law_1134 : bc d M_L_law scr 1134 [a0, a1, a2, a3, some (.int x), a5, a6] st h cn sn = bc d M_L_law scr 1136 [a0, a1, a2, a3, some (.int x), a5, a6] (.int x :: st) h cn sn := bc_ldi2 rfl rfl
set_option maxRecDepth 20000 in
theorem st_L_law_1136 : bc d M_L_law scr 1136 [a0, a1, a2, a3, a4, a5, a6] st h cn sn = bc d M_L_law scr 1137 [a0, a1, a2, a3, a4, a5, a6] (.int 1 :: st) h cn sn := bc_L rfl rfl
set_option maxRecDepth 20000 in
theorem st_L_law_1137 : bc d M_L_law scr 1137 [a0, a1, a2, a3, a4, a5, a6] (.int y :: .int x :: st) h cn sn = bc d M_L_law scr 1138 [a0, a1, a2, a3, a4, a5, a6] (.int (x + y) :: st) h cn sn := bc_L rfl rfl
set_option maxRecDepth 20000 in
theorem st_L_law_1138 : bc d M_L_law scr 1138 [a0, a1, a2, a3, a4, a5, a6] st h cn sn = bM (px_ald scr 1138 st h) (fun p s g => bc d M_L_law scr p [a0, a1, a2, a3, a4, a5, a6] s g cn sn) := bc_M (en := (.iaload, 1, 0, 0, 0, .null)) rfl rfl rfl rfl rfl rfl px_I_il
set_option maxRecDepth 20000 in
theorem st_L_law_1139 : bc d M_L_law scr 1139 [a0, a1, a2, some (.ref p), a4, a5, a6] st h cn sn = bc d M_L_law scr 1140 [a0, a1, a2, some (.ref p), a4, a5, a6] (.ref p :: st) h cn sn := bc_lda1 rfl rfl
set_option maxRecDepth 20000 in
theorem st_L_law_1139t : bc d M_L_law scr 1139 [a0, a1, a2, some (.float t), a4, a5, a6] st h cn sn = bc d M_L_law scr 1140 [a0, a1, a2, some (.float t), a4, a5, a6] (.float t :: st) h cn sn := bc_ldt1 rfl rfl
set_option maxRecDepth 20000 in
theorem st_L_law_1140 (hs : px_sum st ≤ 8) : bc (d + 1) M_L_law scr 1140 [a0, a1, a2, a3, a4, a5, a6] (.ref p2 :: .int x :: .ref p1 :: st) h cn sn = bC (bc d M_L_loudest none 0 [some (.ref p1), some (.int x), some (.ref p2), none] [] h 0 0) (fun v h' c k => bc (d + 1) M_L_law scr 1143 [a0, a1, a2, a3, a4, a5, a6] (v.toList ++ st) h' (cn + c) (sn + k)) (fun z h' c k => some (.inr z, h', cn + c, sn + k)) := bc_I rfl rfl rfl rfl rfl rfl rfl (px_I_sta mt_250 rfl hs rfl) rfl rfl rfl
set_option maxRecDepth 20000 in
theorem st_L_law_1143 : bc d M_L_law scr 1143 [a0, a1, a2, a3, a4, a5, a6] (.int x :: st) h cn sn = bc d M_L_law scr 1145 [a0, a1, a2, a3, lc_c2 a4, some (.int x), a6] st h cn sn := bc_Ls1 (en := (.istore 5, 2, 0, 0, 0, .null)) (vs := [a0, a1, a2, a3, a4, a5, a6]) (i := 5) (v := .int x) rfl rfl rfl
set_option maxRecDepth 20000 in
theorem st_L_law_1145 : bc d M_L_law scr 1145 [a0, a1, some (.ref p), a3, a4, a5, a6] st h cn sn = bc d M_L_law scr 1146 [a0, a1, some (.ref p), a3, a4, a5, a6] (.ref p :: st) h cn sn := bc_lda1 rfl rfl
set_option maxRecDepth 20000 in
theorem st_L_law_1145t : bc d M_L_law scr 1145 [a0, a1, some (.float t), a3, a4, a5, a6] st h cn sn = bc d M_L_law scr 1146 [a0, a1, some (.float t), a3, a4, a5, a6] (.float t :: st) h cn sn := bc_ldt1 rfl rfl
set_option maxRecDepth 20000 in
theorem st_L_law_1146 : bc d M_L_law scr 1146 [some (.ref p), a1, a2, a3, a4, a5, a6] st h cn sn = bc d M_L_law scr 1147 [some (.ref p), a1, a2, a3, a4, a5, a6] (.ref p :: st) h cn sn := bc_lda1 rfl rfl
set_option maxRecDepth 20000 in
theorem st_L_law_1146t : bc d M_L_law scr 1146 [some (.float t), a1, a2, a3, a4, a5, a6] st h cn sn = bc d M_L_law scr 1147 [some (.float t), a1, a2, a3, a4, a5, a6] (.float t :: st) h cn sn := bc_ldt1 rfl rfl
set_option maxRecDepth 20000 in
theorem st_L_law_1147 : bc d M_L_law scr 1147 [a0, a1, a2, a3, some (.int x), a5, a6] st h cn sn = bc d M_L_law scr 1149 [a0, a1, a2, a3, some (.int x), a5, a6] (.int x :: st) h cn sn := bc_ldi2 rfl rfl
set_option maxRecDepth 20000 in
theorem st_L_law_1149 : bc d M_L_law scr 1149 [a0, a1, a2, a3, a4, a5, a6] st h cn sn = bc d M_L_law scr 1150 [a0, a1, a2, a3, a4, a5, a6] (.int 1 :: st) h cn sn := bc_L rfl rfl
set_option maxRecDepth 20000 in
theorem st_L_law_1150 : bc d M_L_law scr 1150 [a0, a1, a2, a3, a4, a5, a6] (.int y :: .int x :: st) h cn sn = bc d M_L_law scr 1151 [a0, a1, a2, a3, a4, a5, a6] (.int (x + y) :: st) h cn sn := bc_L rfl rfl
set_option maxRecDepth 20000 in
theorem st_L_law_1151 : bc d M_L_law scr 1151 [a0, a1, a2, a3, a4, a5, a6] st h cn sn = bM (px_ald scr 1151 st h) (fun p s g => bc d M_L_law scr p [a0, a1, a2, a3, a4, a5, a6] s g cn sn) := bc_M (en := (.iaload, 1, 0, 0, 0, .null)) rfl rfl rfl rfl rfl rfl px_I_il
set_option maxRecDepth 20000 in
theorem st_L_law_1152 (hc : hcl h p = some 10) (hs : px_sum st ≤ 8) : bc (d + 1) M_L_law scr 1152 [a0, a1, a2, a3, a4, a5, a6] (.int x :: .ref p :: st) h cn sn = bC (bc d M_X10_loudest none 0 [some (.ref p), some (.int x), none, none, none] [] h 0 0) (fun v h' c k => bc (d + 1) M_L_law scr 1155 [a0, a1, a2, a3, a4, a5, a6] (v.toList ++ st) h' (cn + c) (sn + k)) (fun z h' c k => some (.inr z, h', cn + c, sn + k)) := bc_I rfl rfl rfl rfl rfl rfl rfl (px_I_vir mt_208 rfl hc hs rfl) rfl rfl rfl
set_option maxRecDepth 20000 in
theorem st_L_law_1155 : bc d M_L_law scr 1155 [a0, a1, a2, a3, a4, a5, a6] (.int x :: st) h cn sn = bc d M_L_law scr 1157 [a0, a1, a2, a3, a4, lc_c2 a5, some (.int x)] st h cn sn := bc_Ls1 (en := (.istore 6, 2, 0, 0, 0, .null)) (vs := [a0, a1, a2, a3, a4, a5, a6]) (i := 6) (v := .int x) rfl rfl rfl
set_option maxRecDepth 20000 in
theorem st_L_law_1157 : bc d M_L_law scr 1157 [a0, a1, some (.ref p), a3, a4, a5, a6] st h cn sn = bc d M_L_law scr 1158 [a0, a1, some (.ref p), a3, a4, a5, a6] (.ref p :: st) h cn sn := bc_lda1 rfl rfl
set_option maxRecDepth 20000 in
theorem st_L_law_1157t : bc d M_L_law scr 1157 [a0, a1, some (.float t), a3, a4, a5, a6] st h cn sn = bc d M_L_law scr 1158 [a0, a1, some (.float t), a3, a4, a5, a6] (.float t :: st) h cn sn := bc_ldt1 rfl rfl
set_option maxRecDepth 20000 in
theorem st_L_law_1158 (hc : hcl h p = some 10) (hs : px_sum st ≤ 8) : bc (d + 1) M_L_law scr 1158 [a0, a1, a2, a3, a4, a5, a6] (.ref p :: st) h cn sn = bC (bc d M_X10_thrown none 0 [some (.ref p)] [] h 0 0) (fun v h' c k => bc (d + 1) M_L_law scr 1161 [a0, a1, a2, a3, a4, a5, a6] (v.toList ++ st) h' (cn + c) (sn + k)) (fun z h' c k => some (.inr z, h', cn + c, sn + k)) := bc_I rfl rfl rfl rfl rfl rfl rfl (px_I_vir mt_133 rfl hc hs rfl) rfl rfl rfl
set_option maxRecDepth 20000 in
theorem st_L_law_1161 : bc d M_L_law scr 1161 [a0, a1, a2, a3, a4, some (.int x), a6] st h cn sn = bc d M_L_law scr 1163 [a0, a1, a2, a3, a4, some (.int x), a6] (.int x :: st) h cn sn := bc_ldi2 rfl rfl
set_option maxRecDepth 20000 in
theorem st_L_law_1163 : bc d M_L_law scr 1163 [a0, a1, a2, a3, a4, a5, a6] (.int y :: .int x :: st) h cn sn = if x = y then bc d M_L_law scr 1168 [a0, a1, a2, a3, a4, a5, a6] st h cn sn else bc d M_L_law scr 1166 [a0, a1, a2, a3, a4, a5, a6] st h cn sn := (bc_ic rfl).trans bt_eq
set_option maxRecDepth 20000 in
theorem st_L_law_1166 : bc d M_L_law scr 1166 [a0, a1, a2, a3, a4, a5, a6] st h cn sn = bc d M_L_law scr 1167 [a0, a1, a2, a3, a4, a5, a6] (.int 0 :: st) h cn sn := bc_L rfl rfl
set_option maxRecDepth 20000 in
theorem st_L_law_1167 : bc d M_L_law scr 1167 [a0, a1, a2, a3, a4, a5, a6] [.int 0] h cn sn = some (.inl (some (.int 0)), h, cn, sn) := bc_E rfl rfl rfl rfl rfl rfl rfl
set_option maxRecDepth 20000 in
theorem st_L_law_1167b : bc d M_L_law scr 1167 [a0, a1, a2, a3, a4, a5, a6] [.int 1] h cn sn = some (.inl (some (.int 1)), h, cn, sn) := bc_E rfl rfl rfl rfl rfl rfl rfl
set_option maxRecDepth 20000 in
theorem st_L_law_1168 : bc d M_L_law scr 1168 [a0, a1, a2, a3, a4, some (.int x), a6] st h cn sn = bc d M_L_law scr 1170 [a0, a1, a2, a3, a4, some (.int x), a6] (.int x :: st) h cn sn := bc_ldi2 rfl rfl
set_option maxRecDepth 20000 in
theorem st_L_law_1170 : bc d M_L_law scr 1170 [a0, a1, a2, a3, a4, a5, a6] (.int x :: st) h cn sn = if x = 0 then bc d M_L_law scr 1173 [a0, a1, a2, a3, a4, a5, a6] st h cn sn else bc d M_L_law scr 1185 [a0, a1, a2, a3, a4, a5, a6] st h cn sn := (bc_if rfl).trans bt_ne
set_option maxRecDepth 20000 in
theorem st_L_law_1173 : bc d M_L_law scr 1173 [a0, a1, a2, some (.ref p), a4, a5, a6] st h cn sn = bc d M_L_law scr 1174 [a0, a1, a2, some (.ref p), a4, a5, a6] (.ref p :: st) h cn sn := bc_lda1 rfl rfl
set_option maxRecDepth 20000 in
theorem st_L_law_1173t : bc d M_L_law scr 1173 [a0, a1, a2, some (.float t), a4, a5, a6] st h cn sn = bc d M_L_law scr 1174 [a0, a1, a2, some (.float t), a4, a5, a6] (.float t :: st) h cn sn := bc_ldt1 rfl rfl
set_option maxRecDepth 20000 in
theorem st_L_law_1174 : bc d M_L_law scr 1174 [a0, a1, a2, a3, a4, a5, a6] st h cn sn = bc d M_L_law scr 1175 [a0, a1, a2, a3, a4, a5, a6] (.int 0 :: st) h cn sn := bc_L rfl rfl
set_option maxRecDepth 20000 in
theorem st_L_law_1175 : bc d M_L_law scr 1175 [a0, a1, a2, a3, a4, a5, a6] st h cn sn = bM (px_lld 1175 st h) (fun p s g => bc d M_L_law scr p [a0, a1, a2, a3, a4, a5, a6] s g cn sn) := bc_M (en := (.laload, 1, 0, 0, 0, .null)) rfl rfl rfl rfl rfl rfl px_I_ll
set_option maxRecDepth 20000 in
theorem st_L_law_1176 : bc d M_L_law scr 1176 [a0, a1, a2, a3, a4, a5, some (.int x)] st h cn sn = bc d M_L_law scr 1178 [a0, a1, a2, a3, a4, a5, some (.int x)] (.int x :: st) h cn sn := bc_ldi2 rfl rfl
set_option maxRecDepth 20000 in
theorem st_L_law_1178 : bc d M_L_law scr 1178 [a0, a1, a2, a3, a4, a5, a6] (.int x :: st) h cn sn = bc d M_L_law scr 1179 [a0, a1, a2, a3, a4, a5, a6] (.long x.toInt64 :: st) h cn sn := bc_L rfl rfl
set_option maxRecDepth 20000 in
theorem st_L_law_1179 : bc d M_L_law scr 1179 [a0, a1, a2, a3, a4, a5, a6] (.long w :: .long u :: st) h cn sn = bc d M_L_law scr 1180 [a0, a1, a2, a3, a4, a5, a6] (.int (lg_cmp u w) :: st) h cn sn := bc_L rfl rfl
set_option maxRecDepth 20000 in
theorem st_L_law_1180 : bc d M_L_law scr 1180 [a0, a1, a2, a3, a4, a5, a6] (.int x :: st) h cn sn = if x = 0 then bc d M_L_law scr 1185 [a0, a1, a2, a3, a4, a5, a6] st h cn sn else bc d M_L_law scr 1183 [a0, a1, a2, a3, a4, a5, a6] st h cn sn := (bc_if rfl).trans bt_eq
set_option maxRecDepth 20000 in
theorem st_L_law_1183 : bc d M_L_law scr 1183 [a0, a1, a2, a3, a4, a5, a6] st h cn sn = bc d M_L_law scr 1184 [a0, a1, a2, a3, a4, a5, a6] (.int 0 :: st) h cn sn := bc_L rfl rfl
set_option maxRecDepth 20000 in
theorem st_L_law_1184 : bc d M_L_law scr 1184 [a0, a1, a2, a3, a4, a5, a6] [.int 0] h cn sn = some (.inl (some (.int 0)), h, cn, sn) := bc_E rfl rfl rfl rfl rfl rfl rfl
set_option maxRecDepth 20000 in
theorem st_L_law_1184b : bc d M_L_law scr 1184 [a0, a1, a2, a3, a4, a5, a6] [.int 1] h cn sn = some (.inl (some (.int 1)), h, cn, sn) := bc_E rfl rfl rfl rfl rfl rfl rfl
set_option maxRecDepth 20000 in
theorem st_L_law_1185 : bc d M_L_law scr 1185 [a0, a1, a2, a3, a4, a5, a6] st h cn sn = bc d M_L_law scr 1940 [a0, a1, a2, a3, a4, a5, a6] st h cn sn := bc_L rfl rfl
set_option maxRecDepth 20000 in
theorem st_L_law_1188 : bc d M_L_law scr 1188 [a0, some (.ref p), a2, a3, a4, a5, a6] st h cn sn = bc d M_L_law scr 1189 [a0, some (.ref p), a2, a3, a4, a5, a6] (.ref p :: st) h cn sn := bc_lda1 rfl rfl
set_option maxRecDepth 20000 in
theorem st_L_law_1188t : bc d M_L_law scr 1188 [a0, some (.float t), a2, a3, a4, a5, a6] st h cn sn = bc d M_L_law scr 1189 [a0, some (.float t), a2, a3, a4, a5, a6] (.float t :: st) h cn sn := bc_ldt1 rfl rfl
set_option maxRecDepth 20000 in
theorem st_L_law_1189 : bc d M_L_law scr 1189 [some (.ref p), a1, a2, a3, a4, a5, a6] st h cn sn = bc d M_L_law scr 1190 [some (.ref p), a1, a2, a3, a4, a5, a6] (.ref p :: st) h cn sn := bc_lda1 rfl rfl
set_option maxRecDepth 20000 in
theorem st_L_law_1189t : bc d M_L_law scr 1189 [some (.float t), a1, a2, a3, a4, a5, a6] st h cn sn = bc d M_L_law scr 1190 [some (.float t), a1, a2, a3, a4, a5, a6] (.float t :: st) h cn sn := bc_ldt1 rfl rfl
set_option maxRecDepth 20000 in
theorem st_L_law_1190 : bc d M_L_law scr 1190 [a0, a1, a2, a3, some (.int x), a5, a6] st h cn sn = bc d M_L_law scr 1192 [a0, a1, a2, a3, some (.int x), a5, a6] (.int x :: st) h cn sn := bc_ldi2 rfl rfl
set_option maxRecDepth 20000 in
theorem st_L_law_1192 : bc d M_L_law scr 1192 [a0, a1, a2, a3, a4, a5, a6] st h cn sn = bc d M_L_law scr 1193 [a0, a1, a2, a3, a4, a5, a6] (.int 1 :: st) h cn sn := bc_L rfl rfl
set_option maxRecDepth 20000 in
theorem st_L_law_1193 : bc d M_L_law scr 1193 [a0, a1, a2, a3, a4, a5, a6] (.int y :: .int x :: st) h cn sn = bc d M_L_law scr 1194 [a0, a1, a2, a3, a4, a5, a6] (.int (x + y) :: st) h cn sn := bc_L rfl rfl
set_option maxRecDepth 20000 in
theorem st_L_law_1194 : bc d M_L_law scr 1194 [a0, a1, a2, a3, a4, a5, a6] st h cn sn = bM (px_ald scr 1194 st h) (fun p s g => bc d M_L_law scr p [a0, a1, a2, a3, a4, a5, a6] s g cn sn) := bc_M (en := (.iaload, 1, 0, 0, 0, .null)) rfl rfl rfl rfl rfl rfl px_I_il
set_option maxRecDepth 20000 in
theorem st_L_law_1195 : bc d M_L_law scr 1195 [a0, a1, a2, some (.ref p), a4, a5, a6] st h cn sn = bc d M_L_law scr 1196 [a0, a1, a2, some (.ref p), a4, a5, a6] (.ref p :: st) h cn sn := bc_lda1 rfl rfl
set_option maxRecDepth 20000 in
theorem st_L_law_1195t : bc d M_L_law scr 1195 [a0, a1, a2, some (.float t), a4, a5, a6] st h cn sn = bc d M_L_law scr 1196 [a0, a1, a2, some (.float t), a4, a5, a6] (.float t :: st) h cn sn := bc_ldt1 rfl rfl
set_option maxRecDepth 20000 in
theorem st_L_law_1196 (hs : px_sum st ≤ 8) : bc (d + 1) M_L_law scr 1196 [a0, a1, a2, a3, a4, a5, a6] (.ref p2 :: .int x :: .ref p1 :: st) h cn sn = bC (bc d M_L_dry none 0 [some (.ref p1), some (.int x), some (.ref p2), none] [] h 0 0) (fun v h' c k => bc (d + 1) M_L_law scr 1199 [a0, a1, a2, a3, a4, a5, a6] (v.toList ++ st) h' (cn + c) (sn + k)) (fun z h' c k => some (.inr z, h', cn + c, sn + k)) := bc_I rfl rfl rfl rfl rfl rfl rfl (px_I_sta mt_251 rfl hs rfl) rfl rfl rfl
set_option maxRecDepth 20000 in
theorem st_L_law_1199 : bc d M_L_law scr 1199 [a0, a1, a2, a3, a4, a5, a6] (.int x :: st) h cn sn = bc d M_L_law scr 1201 [a0, a1, a2, a3, lc_c2 a4, some (.int x), a6] st h cn sn := bc_Ls1 (en := (.istore 5, 2, 0, 0, 0, .null)) (vs := [a0, a1, a2, a3, a4, a5, a6]) (i := 5) (v := .int x) rfl rfl rfl
set_option maxRecDepth 20000 in
theorem st_L_law_1201 : bc d M_L_law scr 1201 [a0, a1, some (.ref p), a3, a4, a5, a6] st h cn sn = bc d M_L_law scr 1202 [a0, a1, some (.ref p), a3, a4, a5, a6] (.ref p :: st) h cn sn := bc_lda1 rfl rfl
set_option maxRecDepth 20000 in
theorem st_L_law_1201t : bc d M_L_law scr 1201 [a0, a1, some (.float t), a3, a4, a5, a6] st h cn sn = bc d M_L_law scr 1202 [a0, a1, some (.float t), a3, a4, a5, a6] (.float t :: st) h cn sn := bc_ldt1 rfl rfl
set_option maxRecDepth 20000 in
theorem st_L_law_1202 : bc d M_L_law scr 1202 [some (.ref p), a1, a2, a3, a4, a5, a6] st h cn sn = bc d M_L_law scr 1203 [some (.ref p), a1, a2, a3, a4, a5, a6] (.ref p :: st) h cn sn := bc_lda1 rfl rfl
set_option maxRecDepth 20000 in
theorem st_L_law_1202t : bc d M_L_law scr 1202 [some (.float t), a1, a2, a3, a4, a5, a6] st h cn sn = bc d M_L_law scr 1203 [some (.float t), a1, a2, a3, a4, a5, a6] (.float t :: st) h cn sn := bc_ldt1 rfl rfl
set_option maxRecDepth 20000 in
theorem st_L_law_1203 : bc d M_L_law scr 1203 [a0, a1, a2, a3, some (.int x), a5, a6] st h cn sn = bc d M_L_law scr 1205 [a0, a1, a2, a3, some (.int x), a5, a6] (.int x :: st) h cn sn := bc_ldi2 rfl rfl
set_option maxRecDepth 20000 in
theorem st_L_law_1205 : bc d M_L_law scr 1205 [a0, a1, a2, a3, a4, a5, a6] st h cn sn = bc d M_L_law scr 1206 [a0, a1, a2, a3, a4, a5, a6] (.int 1 :: st) h cn sn := bc_L rfl rfl
set_option maxRecDepth 20000 in
theorem st_L_law_1206 : bc d M_L_law scr 1206 [a0, a1, a2, a3, a4, a5, a6] (.int y :: .int x :: st) h cn sn = bc d M_L_law scr 1207 [a0, a1, a2, a3, a4, a5, a6] (.int (x + y) :: st) h cn sn := bc_L rfl rfl
set_option maxRecDepth 20000 in
theorem st_L_law_1207 : bc d M_L_law scr 1207 [a0, a1, a2, a3, a4, a5, a6] st h cn sn = bM (px_ald scr 1207 st h) (fun p s g => bc d M_L_law scr p [a0, a1, a2, a3, a4, a5, a6] s g cn sn) := bc_M (en := (.iaload, 1, 0, 0, 0, .null)) rfl rfl rfl rfl rfl rfl px_I_il
set_option maxRecDepth 20000 in
theorem st_L_law_1208 (hc : hcl h p = some 10) (hs : px_sum st ≤ 8) : bc (d + 1) M_L_law scr 1208 [a0, a1, a2, a3, a4, a5, a6] (.int x :: .ref p :: st) h cn sn = bC (bc d M_X10_dry none 0 [some (.ref p), some (.int x), none, none] [] h 0 0) (fun v h' c k => bc (d + 1) M_L_law scr 1211 [a0, a1, a2, a3, a4, a5, a6] (v.toList ++ st) h' (cn + c) (sn + k)) (fun z h' c k => some (.inr z, h', cn + c, sn + k)) := bc_I rfl rfl rfl rfl rfl rfl rfl (px_I_vir mt_209 rfl hc hs rfl) rfl rfl rfl
set_option maxRecDepth 20000 in
theorem st_L_law_1211 : bc d M_L_law scr 1211 [a0, a1, a2, a3, a4, a5, a6] (.int x :: st) h cn sn = bc d M_L_law scr 1213 [a0, a1, a2, a3, a4, lc_c2 a5, some (.int x)] st h cn sn := bc_Ls1 (en := (.istore 6, 2, 0, 0, 0, .null)) (vs := [a0, a1, a2, a3, a4, a5, a6]) (i := 6) (v := .int x) rfl rfl rfl
set_option maxRecDepth 20000 in
theorem st_L_law_1213 : bc d M_L_law scr 1213 [a0, a1, some (.ref p), a3, a4, a5, a6] st h cn sn = bc d M_L_law scr 1214 [a0, a1, some (.ref p), a3, a4, a5, a6] (.ref p :: st) h cn sn := bc_lda1 rfl rfl
set_option maxRecDepth 20000 in
theorem st_L_law_1213t : bc d M_L_law scr 1213 [a0, a1, some (.float t), a3, a4, a5, a6] st h cn sn = bc d M_L_law scr 1214 [a0, a1, some (.float t), a3, a4, a5, a6] (.float t :: st) h cn sn := bc_ldt1 rfl rfl
set_option maxRecDepth 20000 in
theorem st_L_law_1214 (hc : hcl h p = some 10) (hs : px_sum st ≤ 8) : bc (d + 1) M_L_law scr 1214 [a0, a1, a2, a3, a4, a5, a6] (.ref p :: st) h cn sn = bC (bc d M_X10_thrown none 0 [some (.ref p)] [] h 0 0) (fun v h' c k => bc (d + 1) M_L_law scr 1217 [a0, a1, a2, a3, a4, a5, a6] (v.toList ++ st) h' (cn + c) (sn + k)) (fun z h' c k => some (.inr z, h', cn + c, sn + k)) := bc_I rfl rfl rfl rfl rfl rfl rfl (px_I_vir mt_133 rfl hc hs rfl) rfl rfl rfl
set_option maxRecDepth 20000 in
theorem st_L_law_1217 : bc d M_L_law scr 1217 [a0, a1, a2, a3, a4, some (.int x), a6] st h cn sn = bc d M_L_law scr 1219 [a0, a1, a2, a3, a4, some (.int x), a6] (.int x :: st) h cn sn := bc_ldi2 rfl rfl
set_option maxRecDepth 20000 in
theorem st_L_law_1219 : bc d M_L_law scr 1219 [a0, a1, a2, a3, a4, a5, a6] (.int y :: .int x :: st) h cn sn = if x = y then bc d M_L_law scr 1224 [a0, a1, a2, a3, a4, a5, a6] st h cn sn else bc d M_L_law scr 1222 [a0, a1, a2, a3, a4, a5, a6] st h cn sn := (bc_ic rfl).trans bt_eq
set_option maxRecDepth 20000 in
theorem st_L_law_1222 : bc d M_L_law scr 1222 [a0, a1, a2, a3, a4, a5, a6] st h cn sn = bc d M_L_law scr 1223 [a0, a1, a2, a3, a4, a5, a6] (.int 0 :: st) h cn sn := bc_L rfl rfl
set_option maxRecDepth 20000 in
theorem st_L_law_1223 : bc d M_L_law scr 1223 [a0, a1, a2, a3, a4, a5, a6] [.int 0] h cn sn = some (.inl (some (.int 0)), h, cn, sn) := bc_E rfl rfl rfl rfl rfl rfl rfl
set_option maxRecDepth 20000 in
theorem st_L_law_1223b : bc d M_L_law scr 1223 [a0, a1, a2, a3, a4, a5, a6] [.int 1] h cn sn = some (.inl (some (.int 1)), h, cn, sn) := bc_E rfl rfl rfl rfl rfl rfl rfl
set_option maxRecDepth 20000 in
theorem st_L_law_1224 : bc d M_L_law scr 1224 [a0, a1, a2, a3, a4, some (.int x), a6] st h cn sn = bc d M_L_law scr 1226 [a0, a1, a2, a3, a4, some (.int x), a6] (.int x :: st) h cn sn := bc_ldi2 rfl rfl
set_option maxRecDepth 20000 in
theorem st_L_law_1226 : bc d M_L_law scr 1226 [a0, a1, a2, a3, a4, a5, a6] (.int x :: st) h cn sn = if x = 0 then bc d M_L_law scr 1229 [a0, a1, a2, a3, a4, a5, a6] st h cn sn else bc d M_L_law scr 1241 [a0, a1, a2, a3, a4, a5, a6] st h cn sn := (bc_if rfl).trans bt_ne
set_option maxRecDepth 20000 in
theorem st_L_law_1229 : bc d M_L_law scr 1229 [a0, a1, a2, some (.ref p), a4, a5, a6] st h cn sn = bc d M_L_law scr 1230 [a0, a1, a2, some (.ref p), a4, a5, a6] (.ref p :: st) h cn sn := bc_lda1 rfl rfl
set_option maxRecDepth 20000 in
theorem st_L_law_1229t : bc d M_L_law scr 1229 [a0, a1, a2, some (.float t), a4, a5, a6] st h cn sn = bc d M_L_law scr 1230 [a0, a1, a2, some (.float t), a4, a5, a6] (.float t :: st) h cn sn := bc_ldt1 rfl rfl
set_option maxRecDepth 20000 in
theorem st_L_law_1230 : bc d M_L_law scr 1230 [a0, a1, a2, a3, a4, a5, a6] st h cn sn = bc d M_L_law scr 1231 [a0, a1, a2, a3, a4, a5, a6] (.int 0 :: st) h cn sn := bc_L rfl rfl
set_option maxRecDepth 20000 in
theorem st_L_law_1231 : bc d M_L_law scr 1231 [a0, a1, a2, a3, a4, a5, a6] st h cn sn = bM (px_lld 1231 st h) (fun p s g => bc d M_L_law scr p [a0, a1, a2, a3, a4, a5, a6] s g cn sn) := bc_M (en := (.laload, 1, 0, 0, 0, .null)) rfl rfl rfl rfl rfl rfl px_I_ll
set_option maxRecDepth 20000 in
theorem st_L_law_1232 : bc d M_L_law scr 1232 [a0, a1, a2, a3, a4, a5, some (.int x)] st h cn sn = bc d M_L_law scr 1234 [a0, a1, a2, a3, a4, a5, some (.int x)] (.int x :: st) h cn sn := bc_ldi2 rfl rfl
set_option maxRecDepth 20000 in
theorem st_L_law_1234 : bc d M_L_law scr 1234 [a0, a1, a2, a3, a4, a5, a6] (.int x :: st) h cn sn = bc d M_L_law scr 1235 [a0, a1, a2, a3, a4, a5, a6] (.long x.toInt64 :: st) h cn sn := bc_L rfl rfl
set_option maxRecDepth 20000 in
theorem st_L_law_1235 : bc d M_L_law scr 1235 [a0, a1, a2, a3, a4, a5, a6] (.long w :: .long u :: st) h cn sn = bc d M_L_law scr 1236 [a0, a1, a2, a3, a4, a5, a6] (.int (lg_cmp u w) :: st) h cn sn := bc_L rfl rfl
set_option maxRecDepth 20000 in
theorem st_L_law_1236 : bc d M_L_law scr 1236 [a0, a1, a2, a3, a4, a5, a6] (.int x :: st) h cn sn = if x = 0 then bc d M_L_law scr 1241 [a0, a1, a2, a3, a4, a5, a6] st h cn sn else bc d M_L_law scr 1239 [a0, a1, a2, a3, a4, a5, a6] st h cn sn := (bc_if rfl).trans bt_eq
set_option maxRecDepth 20000 in
theorem st_L_law_1239 : bc d M_L_law scr 1239 [a0, a1, a2, a3, a4, a5, a6] st h cn sn = bc d M_L_law scr 1240 [a0, a1, a2, a3, a4, a5, a6] (.int 0 :: st) h cn sn := bc_L rfl rfl
set_option maxRecDepth 20000 in
theorem st_L_law_1240 : bc d M_L_law scr 1240 [a0, a1, a2, a3, a4, a5, a6] [.int 0] h cn sn = some (.inl (some (.int 0)), h, cn, sn) := bc_E rfl rfl rfl rfl rfl rfl rfl
set_option maxRecDepth 20000 in
theorem st_L_law_1240b : bc d M_L_law scr 1240 [a0, a1, a2, a3, a4, a5, a6] [.int 1] h cn sn = some (.inl (some (.int 1)), h, cn, sn) := bc_E rfl rfl rfl rfl rfl rfl rfl
set_option maxRecDepth 20000 in
theorem st_L_law_1241 : bc d M_L_law scr 1241 [a0, a1, a2, a3, a4, a5, a6] st h cn sn = bc d M_L_law scr 1940 [a0, a1, a2, a3, a4, a5, a6] st h cn sn := bc_L rfl rfl
set_option maxRecDepth 20000 in
theorem st_L_law_1244 : bc d M_L_law scr 1244 [a0, some (.ref p), a2, a3, a4, a5, a6] st h cn sn = bc d M_L_law scr 1245 [a0, some (.ref p), a2, a3, a4, a5, a6] (.ref p :: st) h cn sn := bc_lda1 rfl rfl
set_option maxRecDepth 20000 in
theorem st_L_law_1244t : bc d M_L_law scr 1244 [a0, some (.float t), a2, a3, a4, a5, a6] st h cn sn = bc d M_L_law scr 1245 [a0, some (.float t), a2, a3, a4, a5, a6] (.float t :: st) h cn sn := bc_ldt1 rfl rfl
set_option maxRecDepth 20000 in
theorem st_L_law_1245 : bc d M_L_law scr 1245 [some (.ref p), a1, a2, a3, a4, a5, a6] st h cn sn = bc d M_L_law scr 1246 [some (.ref p), a1, a2, a3, a4, a5, a6] (.ref p :: st) h cn sn := bc_lda1 rfl rfl
set_option maxRecDepth 20000 in
theorem st_L_law_1245t : bc d M_L_law scr 1245 [some (.float t), a1, a2, a3, a4, a5, a6] st h cn sn = bc d M_L_law scr 1246 [some (.float t), a1, a2, a3, a4, a5, a6] (.float t :: st) h cn sn := bc_ldt1 rfl rfl
set_option maxRecDepth 20000 in
theorem st_L_law_1246 : bc d M_L_law scr 1246 [a0, a1, a2, a3, some (.int x), a5, a6] st h cn sn = bc d M_L_law scr 1248 [a0, a1, a2, a3, some (.int x), a5, a6] (.int x :: st) h cn sn := bc_ldi2 rfl rfl
set_option maxRecDepth 20000 in
theorem st_L_law_1248 : bc d M_L_law scr 1248 [a0, a1, a2, a3, a4, a5, a6] st h cn sn = bc d M_L_law scr 1249 [a0, a1, a2, a3, a4, a5, a6] (.int 1 :: st) h cn sn := bc_L rfl rfl
set_option maxRecDepth 20000 in
theorem st_L_law_1249 : bc d M_L_law scr 1249 [a0, a1, a2, a3, a4, a5, a6] (.int y :: .int x :: st) h cn sn = bc d M_L_law scr 1250 [a0, a1, a2, a3, a4, a5, a6] (.int (x + y) :: st) h cn sn := bc_L rfl rfl
set_option maxRecDepth 20000 in
theorem st_L_law_1250 : bc d M_L_law scr 1250 [a0, a1, a2, a3, a4, a5, a6] st h cn sn = bM (px_ald scr 1250 st h) (fun p s g => bc d M_L_law scr p [a0, a1, a2, a3, a4, a5, a6] s g cn sn) := bc_M (en := (.iaload, 1, 0, 0, 0, .null)) rfl rfl rfl rfl rfl rfl px_I_il
set_option maxRecDepth 20000 in
theorem st_L_law_1251 : bc d M_L_law scr 1251 [some (.ref p), a1, a2, a3, a4, a5, a6] st h cn sn = bc d M_L_law scr 1252 [some (.ref p), a1, a2, a3, a4, a5, a6] (.ref p :: st) h cn sn := bc_lda1 rfl rfl
set_option maxRecDepth 20000 in
theorem st_L_law_1251t : bc d M_L_law scr 1251 [some (.float t), a1, a2, a3, a4, a5, a6] st h cn sn = bc d M_L_law scr 1252 [some (.float t), a1, a2, a3, a4, a5, a6] (.float t :: st) h cn sn := bc_ldt1 rfl rfl
set_option maxRecDepth 20000 in
theorem st_L_law_1252 : bc d M_L_law scr 1252 [a0, a1, a2, a3, some (.int x), a5, a6] st h cn sn = bc d M_L_law scr 1254 [a0, a1, a2, a3, some (.int x), a5, a6] (.int x :: st) h cn sn := bc_ldi2 rfl rfl
set_option maxRecDepth 20000 in
theorem st_L_law_1254 : bc d M_L_law scr 1254 [a0, a1, a2, a3, a4, a5, a6] st h cn sn = bc d M_L_law scr 1255 [a0, a1, a2, a3, a4, a5, a6] (.int 2 :: st) h cn sn := bc_L rfl rfl
set_option maxRecDepth 20000 in
theorem st_L_law_1255 : bc d M_L_law scr 1255 [a0, a1, a2, a3, a4, a5, a6] (.int y :: .int x :: st) h cn sn = bc d M_L_law scr 1256 [a0, a1, a2, a3, a4, a5, a6] (.int (x + y) :: st) h cn sn := bc_L rfl rfl
set_option maxRecDepth 20000 in
theorem st_L_law_1256 : bc d M_L_law scr 1256 [a0, a1, a2, a3, a4, a5, a6] st h cn sn = bM (px_ald scr 1256 st h) (fun p s g => bc d M_L_law scr p [a0, a1, a2, a3, a4, a5, a6] s g cn sn) := bc_M (en := (.iaload, 1, 0, 0, 0, .null)) rfl rfl rfl rfl rfl rfl px_I_il
set_option maxRecDepth 20000 in
theorem st_L_law_1257 : bc d M_L_law scr 1257 [a0, a1, a2, some (.ref p), a4, a5, a6] st h cn sn = bc d M_L_law scr 1258 [a0, a1, a2, some (.ref p), a4, a5, a6] (.ref p :: st) h cn sn := bc_lda1 rfl rfl
set_option maxRecDepth 20000 in
theorem st_L_law_1257t : bc d M_L_law scr 1257 [a0, a1, a2, some (.float t), a4, a5, a6] st h cn sn = bc d M_L_law scr 1258 [a0, a1, a2, some (.float t), a4, a5, a6] (.float t :: st) h cn sn := bc_ldt1 rfl rfl
set_option maxRecDepth 20000 in
theorem st_L_law_1258 (hs : px_sum st ≤ 8) : bc (d + 1) M_L_law scr 1258 [a0, a1, a2, a3, a4, a5, a6] (.ref p2 :: .int y :: .int x :: .ref p1 :: st) h cn sn = bC (bc d M_L_soonest none 0 [some (.ref p1), some (.int x), some (.int y), some (.ref p2), none] [] h 0 0) (fun v h' c k => bc (d + 1) M_L_law scr 1261 [a0, a1, a2, a3, a4, a5, a6] (v.toList ++ st) h' (cn + c) (sn + k)) (fun z h' c k => some (.inr z, h', cn + c, sn + k)) := bc_I rfl rfl rfl rfl rfl rfl rfl (px_I_sta mt_252 rfl hs rfl) rfl rfl rfl
set_option maxRecDepth 20000 in
theorem st_L_law_1261 : bc d M_L_law scr 1261 [a0, a1, a2, a3, a4, a5, a6] (.int x :: st) h cn sn = bc d M_L_law scr 1263 [a0, a1, a2, a3, lc_c2 a4, some (.int x), a6] st h cn sn := bc_Ls1 (en := (.istore 5, 2, 0, 0, 0, .null)) (vs := [a0, a1, a2, a3, a4, a5, a6]) (i := 5) (v := .int x) rfl rfl rfl
set_option maxRecDepth 20000 in
theorem st_L_law_1263 : bc d M_L_law scr 1263 [a0, a1, some (.ref p), a3, a4, a5, a6] st h cn sn = bc d M_L_law scr 1264 [a0, a1, some (.ref p), a3, a4, a5, a6] (.ref p :: st) h cn sn := bc_lda1 rfl rfl
set_option maxRecDepth 20000 in
theorem st_L_law_1263t : bc d M_L_law scr 1263 [a0, a1, some (.float t), a3, a4, a5, a6] st h cn sn = bc d M_L_law scr 1264 [a0, a1, some (.float t), a3, a4, a5, a6] (.float t :: st) h cn sn := bc_ldt1 rfl rfl
set_option maxRecDepth 20000 in
theorem st_L_law_1264 : bc d M_L_law scr 1264 [some (.ref p), a1, a2, a3, a4, a5, a6] st h cn sn = bc d M_L_law scr 1265 [some (.ref p), a1, a2, a3, a4, a5, a6] (.ref p :: st) h cn sn := bc_lda1 rfl rfl
set_option maxRecDepth 20000 in
theorem st_L_law_1264t : bc d M_L_law scr 1264 [some (.float t), a1, a2, a3, a4, a5, a6] st h cn sn = bc d M_L_law scr 1265 [some (.float t), a1, a2, a3, a4, a5, a6] (.float t :: st) h cn sn := bc_ldt1 rfl rfl
set_option maxRecDepth 20000 in
theorem st_L_law_1265 : bc d M_L_law scr 1265 [a0, a1, a2, a3, some (.int x), a5, a6] st h cn sn = bc d M_L_law scr 1267 [a0, a1, a2, a3, some (.int x), a5, a6] (.int x :: st) h cn sn := bc_ldi2 rfl rfl
set_option maxRecDepth 20000 in
theorem st_L_law_1267 : bc d M_L_law scr 1267 [a0, a1, a2, a3, a4, a5, a6] st h cn sn = bc d M_L_law scr 1268 [a0, a1, a2, a3, a4, a5, a6] (.int 1 :: st) h cn sn := bc_L rfl rfl
set_option maxRecDepth 20000 in
theorem st_L_law_1268 : bc d M_L_law scr 1268 [a0, a1, a2, a3, a4, a5, a6] (.int y :: .int x :: st) h cn sn = bc d M_L_law scr 1269 [a0, a1, a2, a3, a4, a5, a6] (.int (x + y) :: st) h cn sn := bc_L rfl rfl
set_option maxRecDepth 20000 in
theorem st_L_law_1269 : bc d M_L_law scr 1269 [a0, a1, a2, a3, a4, a5, a6] st h cn sn = bM (px_ald scr 1269 st h) (fun p s g => bc d M_L_law scr p [a0, a1, a2, a3, a4, a5, a6] s g cn sn) := bc_M (en := (.iaload, 1, 0, 0, 0, .null)) rfl rfl rfl rfl rfl rfl px_I_il
set_option maxRecDepth 20000 in
theorem st_L_law_1270 : bc d M_L_law scr 1270 [some (.ref p), a1, a2, a3, a4, a5, a6] st h cn sn = bc d M_L_law scr 1271 [some (.ref p), a1, a2, a3, a4, a5, a6] (.ref p :: st) h cn sn := bc_lda1 rfl rfl
set_option maxRecDepth 20000 in
theorem st_L_law_1270t : bc d M_L_law scr 1270 [some (.float t), a1, a2, a3, a4, a5, a6] st h cn sn = bc d M_L_law scr 1271 [some (.float t), a1, a2, a3, a4, a5, a6] (.float t :: st) h cn sn := bc_ldt1 rfl rfl
set_option maxRecDepth 20000 in
theorem st_L_law_1271 : bc d M_L_law scr 1271 [a0, a1, a2, a3, some (.int x), a5, a6] st h cn sn = bc d M_L_law scr 1273 [a0, a1, a2, a3, some (.int x), a5, a6] (.int x :: st) h cn sn := bc_ldi2 rfl rfl
set_option maxRecDepth 20000 in
theorem st_L_law_1273 : bc d M_L_law scr 1273 [a0, a1, a2, a3, a4, a5, a6] st h cn sn = bc d M_L_law scr 1274 [a0, a1, a2, a3, a4, a5, a6] (.int 2 :: st) h cn sn := bc_L rfl rfl
set_option maxRecDepth 20000 in
theorem st_L_law_1274 : bc d M_L_law scr 1274 [a0, a1, a2, a3, a4, a5, a6] (.int y :: .int x :: st) h cn sn = bc d M_L_law scr 1275 [a0, a1, a2, a3, a4, a5, a6] (.int (x + y) :: st) h cn sn := bc_L rfl rfl
set_option maxRecDepth 20000 in
theorem st_L_law_1275 : bc d M_L_law scr 1275 [a0, a1, a2, a3, a4, a5, a6] st h cn sn = bM (px_ald scr 1275 st h) (fun p s g => bc d M_L_law scr p [a0, a1, a2, a3, a4, a5, a6] s g cn sn) := bc_M (en := (.iaload, 1, 0, 0, 0, .null)) rfl rfl rfl rfl rfl rfl px_I_il
set_option maxRecDepth 20000 in
theorem st_L_law_1276 (hc : hcl h p = some 10) (hs : px_sum st ≤ 8) : bc (d + 1) M_L_law scr 1276 [a0, a1, a2, a3, a4, a5, a6] (.int y :: .int x :: .ref p :: st) h cn sn = bC (bc d M_X10_soonest none 0 [some (.ref p), some (.int x), some (.int y), none] [] h 0 0) (fun v h' c k => bc (d + 1) M_L_law scr 1279 [a0, a1, a2, a3, a4, a5, a6] (v.toList ++ st) h' (cn + c) (sn + k)) (fun z h' c k => some (.inr z, h', cn + c, sn + k)) := bc_I rfl rfl rfl rfl rfl rfl rfl (px_I_vir mt_211 rfl hc hs rfl) rfl rfl rfl
set_option maxRecDepth 20000 in
theorem st_L_law_1279 : bc d M_L_law scr 1279 [a0, a1, a2, a3, a4, a5, a6] (.int x :: st) h cn sn = bc d M_L_law scr 1281 [a0, a1, a2, a3, a4, lc_c2 a5, some (.int x)] st h cn sn := bc_Ls1 (en := (.istore 6, 2, 0, 0, 0, .null)) (vs := [a0, a1, a2, a3, a4, a5, a6]) (i := 6) (v := .int x) rfl rfl rfl
set_option maxRecDepth 20000 in
theorem st_L_law_1281 : bc d M_L_law scr 1281 [a0, a1, some (.ref p), a3, a4, a5, a6] st h cn sn = bc d M_L_law scr 1282 [a0, a1, some (.ref p), a3, a4, a5, a6] (.ref p :: st) h cn sn := bc_lda1 rfl rfl
set_option maxRecDepth 20000 in
theorem st_L_law_1281t : bc d M_L_law scr 1281 [a0, a1, some (.float t), a3, a4, a5, a6] st h cn sn = bc d M_L_law scr 1282 [a0, a1, some (.float t), a3, a4, a5, a6] (.float t :: st) h cn sn := bc_ldt1 rfl rfl
set_option maxRecDepth 20000 in
theorem st_L_law_1282 (hc : hcl h p = some 10) (hs : px_sum st ≤ 8) : bc (d + 1) M_L_law scr 1282 [a0, a1, a2, a3, a4, a5, a6] (.ref p :: st) h cn sn = bC (bc d M_X10_thrown none 0 [some (.ref p)] [] h 0 0) (fun v h' c k => bc (d + 1) M_L_law scr 1285 [a0, a1, a2, a3, a4, a5, a6] (v.toList ++ st) h' (cn + c) (sn + k)) (fun z h' c k => some (.inr z, h', cn + c, sn + k)) := bc_I rfl rfl rfl rfl rfl rfl rfl (px_I_vir mt_133 rfl hc hs rfl) rfl rfl rfl
set_option maxRecDepth 20000 in
theorem st_L_law_1285 : bc d M_L_law scr 1285 [a0, a1, a2, a3, a4, some (.int x), a6] st h cn sn = bc d M_L_law scr 1287 [a0, a1, a2, a3, a4, some (.int x), a6] (.int x :: st) h cn sn := bc_ldi2 rfl rfl
set_option maxRecDepth 20000 in
theorem st_L_law_1287 : bc d M_L_law scr 1287 [a0, a1, a2, a3, a4, a5, a6] (.int y :: .int x :: st) h cn sn = if x = y then bc d M_L_law scr 1292 [a0, a1, a2, a3, a4, a5, a6] st h cn sn else bc d M_L_law scr 1290 [a0, a1, a2, a3, a4, a5, a6] st h cn sn := (bc_ic rfl).trans bt_eq
set_option maxRecDepth 20000 in
theorem st_L_law_1290 : bc d M_L_law scr 1290 [a0, a1, a2, a3, a4, a5, a6] st h cn sn = bc d M_L_law scr 1291 [a0, a1, a2, a3, a4, a5, a6] (.int 0 :: st) h cn sn := bc_L rfl rfl
set_option maxRecDepth 20000 in
theorem st_L_law_1291 : bc d M_L_law scr 1291 [a0, a1, a2, a3, a4, a5, a6] [.int 0] h cn sn = some (.inl (some (.int 0)), h, cn, sn) := bc_E rfl rfl rfl rfl rfl rfl rfl
set_option maxRecDepth 20000 in
theorem st_L_law_1291b : bc d M_L_law scr 1291 [a0, a1, a2, a3, a4, a5, a6] [.int 1] h cn sn = some (.inl (some (.int 1)), h, cn, sn) := bc_E rfl rfl rfl rfl rfl rfl rfl
set_option maxRecDepth 20000 in
theorem st_L_law_1292 : bc d M_L_law scr 1292 [a0, a1, a2, a3, a4, some (.int x), a6] st h cn sn = bc d M_L_law scr 1294 [a0, a1, a2, a3, a4, some (.int x), a6] (.int x :: st) h cn sn := bc_ldi2 rfl rfl
set_option maxRecDepth 20000 in
theorem st_L_law_1294 : bc d M_L_law scr 1294 [a0, a1, a2, a3, a4, a5, a6] (.int x :: st) h cn sn = if x = 0 then bc d M_L_law scr 1297 [a0, a1, a2, a3, a4, a5, a6] st h cn sn else bc d M_L_law scr 1309 [a0, a1, a2, a3, a4, a5, a6] st h cn sn := (bc_if rfl).trans bt_ne
set_option maxRecDepth 20000 in
theorem st_L_law_1297 : bc d M_L_law scr 1297 [a0, a1, a2, some (.ref p), a4, a5, a6] st h cn sn = bc d M_L_law scr 1298 [a0, a1, a2, some (.ref p), a4, a5, a6] (.ref p :: st) h cn sn := bc_lda1 rfl rfl
set_option maxRecDepth 20000 in
theorem st_L_law_1297t : bc d M_L_law scr 1297 [a0, a1, a2, some (.float t), a4, a5, a6] st h cn sn = bc d M_L_law scr 1298 [a0, a1, a2, some (.float t), a4, a5, a6] (.float t :: st) h cn sn := bc_ldt1 rfl rfl
set_option maxRecDepth 20000 in
theorem st_L_law_1298 : bc d M_L_law scr 1298 [a0, a1, a2, a3, a4, a5, a6] st h cn sn = bc d M_L_law scr 1299 [a0, a1, a2, a3, a4, a5, a6] (.int 0 :: st) h cn sn := bc_L rfl rfl
set_option maxRecDepth 20000 in
theorem st_L_law_1299 : bc d M_L_law scr 1299 [a0, a1, a2, a3, a4, a5, a6] st h cn sn = bM (px_lld 1299 st h) (fun p s g => bc d M_L_law scr p [a0, a1, a2, a3, a4, a5, a6] s g cn sn) := bc_M (en := (.laload, 1, 0, 0, 0, .null)) rfl rfl rfl rfl rfl rfl px_I_ll
set_option maxRecDepth 20000 in
theorem st_L_law_1300 : bc d M_L_law scr 1300 [a0, a1, a2, a3, a4, a5, some (.int x)] st h cn sn = bc d M_L_law scr 1302 [a0, a1, a2, a3, a4, a5, some (.int x)] (.int x :: st) h cn sn := bc_ldi2 rfl rfl
set_option maxRecDepth 20000 in
theorem st_L_law_1302 : bc d M_L_law scr 1302 [a0, a1, a2, a3, a4, a5, a6] (.int x :: st) h cn sn = bc d M_L_law scr 1303 [a0, a1, a2, a3, a4, a5, a6] (.long x.toInt64 :: st) h cn sn := bc_L rfl rfl
set_option maxRecDepth 20000 in
theorem st_L_law_1303 : bc d M_L_law scr 1303 [a0, a1, a2, a3, a4, a5, a6] (.long w :: .long u :: st) h cn sn = bc d M_L_law scr 1304 [a0, a1, a2, a3, a4, a5, a6] (.int (lg_cmp u w) :: st) h cn sn := bc_L rfl rfl
set_option maxRecDepth 20000 in
theorem st_L_law_1304 : bc d M_L_law scr 1304 [a0, a1, a2, a3, a4, a5, a6] (.int x :: st) h cn sn = if x = 0 then bc d M_L_law scr 1309 [a0, a1, a2, a3, a4, a5, a6] st h cn sn else bc d M_L_law scr 1307 [a0, a1, a2, a3, a4, a5, a6] st h cn sn := (bc_if rfl).trans bt_eq
set_option maxRecDepth 20000 in
theorem st_L_law_1307 : bc d M_L_law scr 1307 [a0, a1, a2, a3, a4, a5, a6] st h cn sn = bc d M_L_law scr 1308 [a0, a1, a2, a3, a4, a5, a6] (.int 0 :: st) h cn sn := bc_L rfl rfl
set_option maxRecDepth 20000 in
theorem st_L_law_1308 : bc d M_L_law scr 1308 [a0, a1, a2, a3, a4, a5, a6] [.int 0] h cn sn = some (.inl (some (.int 0)), h, cn, sn) := bc_E rfl rfl rfl rfl rfl rfl rfl
set_option maxRecDepth 20000 in
theorem st_L_law_1308b : bc d M_L_law scr 1308 [a0, a1, a2, a3, a4, a5, a6] [.int 1] h cn sn = some (.inl (some (.int 1)), h, cn, sn) := bc_E rfl rfl rfl rfl rfl rfl rfl
set_option maxRecDepth 20000 in
theorem st_L_law_1309 : bc d M_L_law scr 1309 [a0, a1, a2, a3, a4, a5, a6] st h cn sn = bc d M_L_law scr 1940 [a0, a1, a2, a3, a4, a5, a6] st h cn sn := bc_L rfl rfl
set_option maxRecDepth 20000 in
theorem st_L_law_1312 : bc d M_L_law scr 1312 [a0, some (.ref p), a2, a3, a4, a5, a6] st h cn sn = bc d M_L_law scr 1313 [a0, some (.ref p), a2, a3, a4, a5, a6] (.ref p :: st) h cn sn := bc_lda1 rfl rfl
set_option maxRecDepth 20000 in
theorem st_L_law_1312t : bc d M_L_law scr 1312 [a0, some (.float t), a2, a3, a4, a5, a6] st h cn sn = bc d M_L_law scr 1313 [a0, some (.float t), a2, a3, a4, a5, a6] (.float t :: st) h cn sn := bc_ldt1 rfl rfl
set_option maxRecDepth 20000 in
theorem st_L_law_1313 : bc d M_L_law scr 1313 [some (.ref p), a1, a2, a3, a4, a5, a6] st h cn sn = bc d M_L_law scr 1314 [some (.ref p), a1, a2, a3, a4, a5, a6] (.ref p :: st) h cn sn := bc_lda1 rfl rfl
set_option maxRecDepth 20000 in
theorem st_L_law_1313t : bc d M_L_law scr 1313 [some (.float t), a1, a2, a3, a4, a5, a6] st h cn sn = bc d M_L_law scr 1314 [some (.float t), a1, a2, a3, a4, a5, a6] (.float t :: st) h cn sn := bc_ldt1 rfl rfl
set_option maxRecDepth 20000 in
theorem st_L_law_1314 : bc d M_L_law scr 1314 [a0, a1, a2, a3, some (.int x), a5, a6] st h cn sn = bc d M_L_law scr 1316 [a0, a1, a2, a3, some (.int x), a5, a6] (.int x :: st) h cn sn := bc_ldi2 rfl rfl
set_option maxRecDepth 20000 in
theorem st_L_law_1316 : bc d M_L_law scr 1316 [a0, a1, a2, a3, a4, a5, a6] st h cn sn = bc d M_L_law scr 1317 [a0, a1, a2, a3, a4, a5, a6] (.int 1 :: st) h cn sn := bc_L rfl rfl
set_option maxRecDepth 20000 in
theorem st_L_law_1317 : bc d M_L_law scr 1317 [a0, a1, a2, a3, a4, a5, a6] (.int y :: .int x :: st) h cn sn = bc d M_L_law scr 1318 [a0, a1, a2, a3, a4, a5, a6] (.int (x + y) :: st) h cn sn := bc_L rfl rfl
set_option maxRecDepth 20000 in
theorem st_L_law_1318 : bc d M_L_law scr 1318 [a0, a1, a2, a3, a4, a5, a6] st h cn sn = bM (px_ald scr 1318 st h) (fun p s g => bc d M_L_law scr p [a0, a1, a2, a3, a4, a5, a6] s g cn sn) := bc_M (en := (.iaload, 1, 0, 0, 0, .null)) rfl rfl rfl rfl rfl rfl px_I_il
set_option maxRecDepth 20000 in
theorem st_L_law_1319 : bc d M_L_law scr 1319 [some (.ref p), a1, a2, a3, a4, a5, a6] st h cn sn = bc d M_L_law scr 1320 [some (.ref p), a1, a2, a3, a4, a5, a6] (.ref p :: st) h cn sn := bc_lda1 rfl rfl
set_option maxRecDepth 20000 in
theorem st_L_law_1319t : bc d M_L_law scr 1319 [some (.float t), a1, a2, a3, a4, a5, a6] st h cn sn = bc d M_L_law scr 1320 [some (.float t), a1, a2, a3, a4, a5, a6] (.float t :: st) h cn sn := bc_ldt1 rfl rfl
set_option maxRecDepth 20000 in
theorem st_L_law_1320 : bc d M_L_law scr 1320 [a0, a1, a2, a3, some (.int x), a5, a6] st h cn sn = bc d M_L_law scr 1322 [a0, a1, a2, a3, some (.int x), a5, a6] (.int x :: st) h cn sn := bc_ldi2 rfl rfl
set_option maxRecDepth 20000 in
theorem st_L_law_1322 : bc d M_L_law scr 1322 [a0, a1, a2, a3, a4, a5, a6] st h cn sn = bc d M_L_law scr 1323 [a0, a1, a2, a3, a4, a5, a6] (.int 2 :: st) h cn sn := bc_L rfl rfl
set_option maxRecDepth 20000 in
theorem st_L_law_1323 : bc d M_L_law scr 1323 [a0, a1, a2, a3, a4, a5, a6] (.int y :: .int x :: st) h cn sn = bc d M_L_law scr 1324 [a0, a1, a2, a3, a4, a5, a6] (.int (x + y) :: st) h cn sn := bc_L rfl rfl
set_option maxRecDepth 20000 in
theorem st_L_law_1324 : bc d M_L_law scr 1324 [a0, a1, a2, a3, a4, a5, a6] st h cn sn = bM (px_ald scr 1324 st h) (fun p s g => bc d M_L_law scr p [a0, a1, a2, a3, a4, a5, a6] s g cn sn) := bc_M (en := (.iaload, 1, 0, 0, 0, .null)) rfl rfl rfl rfl rfl rfl px_I_il
set_option maxRecDepth 20000 in
theorem st_L_law_1325 : bc d M_L_law scr 1325 [a0, a1, a2, some (.ref p), a4, a5, a6] st h cn sn = bc d M_L_law scr 1326 [a0, a1, a2, some (.ref p), a4, a5, a6] (.ref p :: st) h cn sn := bc_lda1 rfl rfl
set_option maxRecDepth 20000 in
theorem st_L_law_1325t : bc d M_L_law scr 1325 [a0, a1, a2, some (.float t), a4, a5, a6] st h cn sn = bc d M_L_law scr 1326 [a0, a1, a2, some (.float t), a4, a5, a6] (.float t :: st) h cn sn := bc_ldt1 rfl rfl
set_option maxRecDepth 20000 in
theorem st_L_law_1326 (hs : px_sum st ≤ 8) : bc (d + 1) M_L_law scr 1326 [a0, a1, a2, a3, a4, a5, a6] (.ref p2 :: .int y :: .int x :: .ref p1 :: st) h cn sn = bC (bc d M_L_tuned none 0 [some (.ref p1), some (.int x), some (.int y), some (.ref p2), none] [] h 0 0) (fun v h' c k => bc (d + 1) M_L_law scr 1329 [a0, a1, a2, a3, a4, a5, a6] (v.toList ++ st) h' (cn + c) (sn + k)) (fun z h' c k => some (.inr z, h', cn + c, sn + k)) := bc_I rfl rfl rfl rfl rfl rfl rfl (px_I_sta mt_253 rfl hs rfl) rfl rfl rfl
set_option maxRecDepth 20000 in
theorem st_L_law_1329 : bc d M_L_law scr 1329 [a0, a1, a2, a3, a4, a5, a6] (.int x :: st) h cn sn = bc d M_L_law scr 1331 [a0, a1, a2, a3, lc_c2 a4, some (.int x), a6] st h cn sn := bc_Ls1 (en := (.istore 5, 2, 0, 0, 0, .null)) (vs := [a0, a1, a2, a3, a4, a5, a6]) (i := 5) (v := .int x) rfl rfl rfl
set_option maxRecDepth 20000 in
theorem st_L_law_1331 : bc d M_L_law scr 1331 [a0, a1, some (.ref p), a3, a4, a5, a6] st h cn sn = bc d M_L_law scr 1332 [a0, a1, some (.ref p), a3, a4, a5, a6] (.ref p :: st) h cn sn := bc_lda1 rfl rfl
set_option maxRecDepth 20000 in
theorem st_L_law_1331t : bc d M_L_law scr 1331 [a0, a1, some (.float t), a3, a4, a5, a6] st h cn sn = bc d M_L_law scr 1332 [a0, a1, some (.float t), a3, a4, a5, a6] (.float t :: st) h cn sn := bc_ldt1 rfl rfl
set_option maxRecDepth 20000 in
theorem st_L_law_1332 : bc d M_L_law scr 1332 [some (.ref p), a1, a2, a3, a4, a5, a6] st h cn sn = bc d M_L_law scr 1333 [some (.ref p), a1, a2, a3, a4, a5, a6] (.ref p :: st) h cn sn := bc_lda1 rfl rfl
set_option maxRecDepth 20000 in
theorem st_L_law_1332t : bc d M_L_law scr 1332 [some (.float t), a1, a2, a3, a4, a5, a6] st h cn sn = bc d M_L_law scr 1333 [some (.float t), a1, a2, a3, a4, a5, a6] (.float t :: st) h cn sn := bc_ldt1 rfl rfl
set_option maxRecDepth 20000 in
theorem st_L_law_1333 : bc d M_L_law scr 1333 [a0, a1, a2, a3, some (.int x), a5, a6] st h cn sn = bc d M_L_law scr 1335 [a0, a1, a2, a3, some (.int x), a5, a6] (.int x :: st) h cn sn := bc_ldi2 rfl rfl
set_option maxRecDepth 20000 in
theorem st_L_law_1335 : bc d M_L_law scr 1335 [a0, a1, a2, a3, a4, a5, a6] st h cn sn = bc d M_L_law scr 1336 [a0, a1, a2, a3, a4, a5, a6] (.int 1 :: st) h cn sn := bc_L rfl rfl
set_option maxRecDepth 20000 in
theorem st_L_law_1336 : bc d M_L_law scr 1336 [a0, a1, a2, a3, a4, a5, a6] (.int y :: .int x :: st) h cn sn = bc d M_L_law scr 1337 [a0, a1, a2, a3, a4, a5, a6] (.int (x + y) :: st) h cn sn := bc_L rfl rfl
set_option maxRecDepth 20000 in
theorem st_L_law_1337 : bc d M_L_law scr 1337 [a0, a1, a2, a3, a4, a5, a6] st h cn sn = bM (px_ald scr 1337 st h) (fun p s g => bc d M_L_law scr p [a0, a1, a2, a3, a4, a5, a6] s g cn sn) := bc_M (en := (.iaload, 1, 0, 0, 0, .null)) rfl rfl rfl rfl rfl rfl px_I_il
set_option maxRecDepth 20000 in
theorem st_L_law_1338 : bc d M_L_law scr 1338 [some (.ref p), a1, a2, a3, a4, a5, a6] st h cn sn = bc d M_L_law scr 1339 [some (.ref p), a1, a2, a3, a4, a5, a6] (.ref p :: st) h cn sn := bc_lda1 rfl rfl
set_option maxRecDepth 20000 in
theorem st_L_law_1338t : bc d M_L_law scr 1338 [some (.float t), a1, a2, a3, a4, a5, a6] st h cn sn = bc d M_L_law scr 1339 [some (.float t), a1, a2, a3, a4, a5, a6] (.float t :: st) h cn sn := bc_ldt1 rfl rfl
set_option maxRecDepth 20000 in
theorem st_L_law_1339 : bc d M_L_law scr 1339 [a0, a1, a2, a3, some (.int x), a5, a6] st h cn sn = bc d M_L_law scr 1341 [a0, a1, a2, a3, some (.int x), a5, a6] (.int x :: st) h cn sn := bc_ldi2 rfl rfl
set_option maxRecDepth 20000 in
theorem st_L_law_1341 : bc d M_L_law scr 1341 [a0, a1, a2, a3, a4, a5, a6] st h cn sn = bc d M_L_law scr 1342 [a0, a1, a2, a3, a4, a5, a6] (.int 2 :: st) h cn sn := bc_L rfl rfl
set_option maxRecDepth 20000 in
theorem st_L_law_1342 : bc d M_L_law scr 1342 [a0, a1, a2, a3, a4, a5, a6] (.int y :: .int x :: st) h cn sn = bc d M_L_law scr 1343 [a0, a1, a2, a3, a4, a5, a6] (.int (x + y) :: st) h cn sn := bc_L rfl rfl
set_option maxRecDepth 20000 in
theorem st_L_law_1343 : bc d M_L_law scr 1343 [a0, a1, a2, a3, a4, a5, a6] st h cn sn = bM (px_ald scr 1343 st h) (fun p s g => bc d M_L_law scr p [a0, a1, a2, a3, a4, a5, a6] s g cn sn) := bc_M (en := (.iaload, 1, 0, 0, 0, .null)) rfl rfl rfl rfl rfl rfl px_I_il
set_option maxRecDepth 20000 in
theorem st_L_law_1344 (hc : hcl h p = some 10) (hs : px_sum st ≤ 8) : bc (d + 1) M_L_law scr 1344 [a0, a1, a2, a3, a4, a5, a6] (.int y :: .int x :: .ref p :: st) h cn sn = bC (bc d M_X10_tuned none 0 [some (.ref p), some (.int x), some (.int y)] [] h 0 0) (fun v h' c k => bc (d + 1) M_L_law scr 1347 [a0, a1, a2, a3, a4, a5, a6] (v.toList ++ st) h' (cn + c) (sn + k)) (fun z h' c k => some (.inr z, h', cn + c, sn + k)) := bc_I rfl rfl rfl rfl rfl rfl rfl (px_I_vir mt_213 rfl hc hs rfl) rfl rfl rfl
set_option maxRecDepth 20000 in
theorem st_L_law_1347 : bc d M_L_law scr 1347 [a0, a1, a2, a3, a4, a5, a6] (.int x :: st) h cn sn = bc d M_L_law scr 1349 [a0, a1, a2, a3, a4, lc_c2 a5, some (.int x)] st h cn sn := bc_Ls1 (en := (.istore 6, 2, 0, 0, 0, .null)) (vs := [a0, a1, a2, a3, a4, a5, a6]) (i := 6) (v := .int x) rfl rfl rfl
set_option maxRecDepth 20000 in
theorem st_L_law_1349 : bc d M_L_law scr 1349 [a0, a1, some (.ref p), a3, a4, a5, a6] st h cn sn = bc d M_L_law scr 1350 [a0, a1, some (.ref p), a3, a4, a5, a6] (.ref p :: st) h cn sn := bc_lda1 rfl rfl
set_option maxRecDepth 20000 in
theorem st_L_law_1349t : bc d M_L_law scr 1349 [a0, a1, some (.float t), a3, a4, a5, a6] st h cn sn = bc d M_L_law scr 1350 [a0, a1, some (.float t), a3, a4, a5, a6] (.float t :: st) h cn sn := bc_ldt1 rfl rfl
set_option maxRecDepth 20000 in
theorem st_L_law_1350 (hc : hcl h p = some 10) (hs : px_sum st ≤ 8) : bc (d + 1) M_L_law scr 1350 [a0, a1, a2, a3, a4, a5, a6] (.ref p :: st) h cn sn = bC (bc d M_X10_thrown none 0 [some (.ref p)] [] h 0 0) (fun v h' c k => bc (d + 1) M_L_law scr 1353 [a0, a1, a2, a3, a4, a5, a6] (v.toList ++ st) h' (cn + c) (sn + k)) (fun z h' c k => some (.inr z, h', cn + c, sn + k)) := bc_I rfl rfl rfl rfl rfl rfl rfl (px_I_vir mt_133 rfl hc hs rfl) rfl rfl rfl
set_option maxRecDepth 20000 in
theorem st_L_law_1353 : bc d M_L_law scr 1353 [a0, a1, a2, a3, a4, some (.int x), a6] st h cn sn = bc d M_L_law scr 1355 [a0, a1, a2, a3, a4, some (.int x), a6] (.int x :: st) h cn sn := bc_ldi2 rfl rfl
set_option maxRecDepth 20000 in
theorem st_L_law_1355 : bc d M_L_law scr 1355 [a0, a1, a2, a3, a4, a5, a6] (.int y :: .int x :: st) h cn sn = if x = y then bc d M_L_law scr 1360 [a0, a1, a2, a3, a4, a5, a6] st h cn sn else bc d M_L_law scr 1358 [a0, a1, a2, a3, a4, a5, a6] st h cn sn := (bc_ic rfl).trans bt_eq
set_option maxRecDepth 20000 in
theorem st_L_law_1358 : bc d M_L_law scr 1358 [a0, a1, a2, a3, a4, a5, a6] st h cn sn = bc d M_L_law scr 1359 [a0, a1, a2, a3, a4, a5, a6] (.int 0 :: st) h cn sn := bc_L rfl rfl
set_option maxRecDepth 20000 in
theorem st_L_law_1359 : bc d M_L_law scr 1359 [a0, a1, a2, a3, a4, a5, a6] [.int 0] h cn sn = some (.inl (some (.int 0)), h, cn, sn) := bc_E rfl rfl rfl rfl rfl rfl rfl
set_option maxRecDepth 20000 in
theorem st_L_law_1359b : bc d M_L_law scr 1359 [a0, a1, a2, a3, a4, a5, a6] [.int 1] h cn sn = some (.inl (some (.int 1)), h, cn, sn) := bc_E rfl rfl rfl rfl rfl rfl rfl
set_option maxRecDepth 20000 in
theorem st_L_law_1360 : bc d M_L_law scr 1360 [a0, a1, a2, a3, a4, some (.int x), a6] st h cn sn = bc d M_L_law scr 1362 [a0, a1, a2, a3, a4, some (.int x), a6] (.int x :: st) h cn sn := bc_ldi2 rfl rfl
set_option maxRecDepth 20000 in
theorem st_L_law_1362 : bc d M_L_law scr 1362 [a0, a1, a2, a3, a4, a5, a6] (.int x :: st) h cn sn = if x = 0 then bc d M_L_law scr 1365 [a0, a1, a2, a3, a4, a5, a6] st h cn sn else bc d M_L_law scr 1377 [a0, a1, a2, a3, a4, a5, a6] st h cn sn := (bc_if rfl).trans bt_ne
set_option maxRecDepth 20000 in
theorem st_L_law_1365 : bc d M_L_law scr 1365 [a0, a1, a2, some (.ref p), a4, a5, a6] st h cn sn = bc d M_L_law scr 1366 [a0, a1, a2, some (.ref p), a4, a5, a6] (.ref p :: st) h cn sn := bc_lda1 rfl rfl
set_option maxRecDepth 20000 in
theorem st_L_law_1365t : bc d M_L_law scr 1365 [a0, a1, a2, some (.float t), a4, a5, a6] st h cn sn = bc d M_L_law scr 1366 [a0, a1, a2, some (.float t), a4, a5, a6] (.float t :: st) h cn sn := bc_ldt1 rfl rfl
set_option maxRecDepth 20000 in
theorem st_L_law_1366 : bc d M_L_law scr 1366 [a0, a1, a2, a3, a4, a5, a6] st h cn sn = bc d M_L_law scr 1367 [a0, a1, a2, a3, a4, a5, a6] (.int 0 :: st) h cn sn := bc_L rfl rfl
set_option maxRecDepth 20000 in
theorem st_L_law_1367 : bc d M_L_law scr 1367 [a0, a1, a2, a3, a4, a5, a6] st h cn sn = bM (px_lld 1367 st h) (fun p s g => bc d M_L_law scr p [a0, a1, a2, a3, a4, a5, a6] s g cn sn) := bc_M (en := (.laload, 1, 0, 0, 0, .null)) rfl rfl rfl rfl rfl rfl px_I_ll
set_option maxRecDepth 20000 in
theorem st_L_law_1368 : bc d M_L_law scr 1368 [a0, a1, a2, a3, a4, a5, some (.int x)] st h cn sn = bc d M_L_law scr 1370 [a0, a1, a2, a3, a4, a5, some (.int x)] (.int x :: st) h cn sn := bc_ldi2 rfl rfl
set_option maxRecDepth 20000 in
theorem st_L_law_1370 : bc d M_L_law scr 1370 [a0, a1, a2, a3, a4, a5, a6] (.int x :: st) h cn sn = bc d M_L_law scr 1371 [a0, a1, a2, a3, a4, a5, a6] (.long x.toInt64 :: st) h cn sn := bc_L rfl rfl
set_option maxRecDepth 20000 in
theorem st_L_law_1371 : bc d M_L_law scr 1371 [a0, a1, a2, a3, a4, a5, a6] (.long w :: .long u :: st) h cn sn = bc d M_L_law scr 1372 [a0, a1, a2, a3, a4, a5, a6] (.int (lg_cmp u w) :: st) h cn sn := bc_L rfl rfl
set_option maxRecDepth 20000 in
theorem st_L_law_1372 : bc d M_L_law scr 1372 [a0, a1, a2, a3, a4, a5, a6] (.int x :: st) h cn sn = if x = 0 then bc d M_L_law scr 1377 [a0, a1, a2, a3, a4, a5, a6] st h cn sn else bc d M_L_law scr 1375 [a0, a1, a2, a3, a4, a5, a6] st h cn sn := (bc_if rfl).trans bt_eq
set_option maxRecDepth 20000 in
theorem st_L_law_1375 : bc d M_L_law scr 1375 [a0, a1, a2, a3, a4, a5, a6] st h cn sn = bc d M_L_law scr 1376 [a0, a1, a2, a3, a4, a5, a6] (.int 0 :: st) h cn sn := bc_L rfl rfl
set_option maxRecDepth 20000 in
theorem st_L_law_1376 : bc d M_L_law scr 1376 [a0, a1, a2, a3, a4, a5, a6] [.int 0] h cn sn = some (.inl (some (.int 0)), h, cn, sn) := bc_E rfl rfl rfl rfl rfl rfl rfl
set_option maxRecDepth 20000 in
theorem st_L_law_1376b : bc d M_L_law scr 1376 [a0, a1, a2, a3, a4, a5, a6] [.int 1] h cn sn = some (.inl (some (.int 1)), h, cn, sn) := bc_E rfl rfl rfl rfl rfl rfl rfl
set_option maxRecDepth 20000 in
theorem st_L_law_1377 : bc d M_L_law scr 1377 [a0, a1, a2, a3, a4, a5, a6] st h cn sn = bc d M_L_law scr 1940 [a0, a1, a2, a3, a4, a5, a6] st h cn sn := bc_L rfl rfl
set_option maxRecDepth 20000 in
theorem st_L_law_1380 : bc d M_L_law scr 1380 [a0, some (.ref p), a2, a3, a4, a5, a6] st h cn sn = bc d M_L_law scr 1381 [a0, some (.ref p), a2, a3, a4, a5, a6] (.ref p :: st) h cn sn := bc_lda1 rfl rfl
set_option maxRecDepth 20000 in
theorem st_L_law_1380t : bc d M_L_law scr 1380 [a0, some (.float t), a2, a3, a4, a5, a6] st h cn sn = bc d M_L_law scr 1381 [a0, some (.float t), a2, a3, a4, a5, a6] (.float t :: st) h cn sn := bc_ldt1 rfl rfl
set_option maxRecDepth 20000 in
theorem st_L_law_1381 : bc d M_L_law scr 1381 [some (.ref p), a1, a2, a3, a4, a5, a6] st h cn sn = bc d M_L_law scr 1382 [some (.ref p), a1, a2, a3, a4, a5, a6] (.ref p :: st) h cn sn := bc_lda1 rfl rfl
set_option maxRecDepth 20000 in
theorem st_L_law_1381t : bc d M_L_law scr 1381 [some (.float t), a1, a2, a3, a4, a5, a6] st h cn sn = bc d M_L_law scr 1382 [some (.float t), a1, a2, a3, a4, a5, a6] (.float t :: st) h cn sn := bc_ldt1 rfl rfl
set_option maxRecDepth 20000 in
theorem st_L_law_1382 : bc d M_L_law scr 1382 [a0, a1, a2, a3, some (.int x), a5, a6] st h cn sn = bc d M_L_law scr 1384 [a0, a1, a2, a3, some (.int x), a5, a6] (.int x :: st) h cn sn := bc_ldi2 rfl rfl
set_option maxRecDepth 20000 in
theorem st_L_law_1384 : bc d M_L_law scr 1384 [a0, a1, a2, a3, a4, a5, a6] st h cn sn = bc d M_L_law scr 1385 [a0, a1, a2, a3, a4, a5, a6] (.int 1 :: st) h cn sn := bc_L rfl rfl
set_option maxRecDepth 20000 in
theorem st_L_law_1385 : bc d M_L_law scr 1385 [a0, a1, a2, a3, a4, a5, a6] (.int y :: .int x :: st) h cn sn = bc d M_L_law scr 1386 [a0, a1, a2, a3, a4, a5, a6] (.int (x + y) :: st) h cn sn := bc_L rfl rfl
set_option maxRecDepth 20000 in
theorem st_L_law_1386 : bc d M_L_law scr 1386 [a0, a1, a2, a3, a4, a5, a6] st h cn sn = bM (px_ald scr 1386 st h) (fun p s g => bc d M_L_law scr p [a0, a1, a2, a3, a4, a5, a6] s g cn sn) := bc_M (en := (.iaload, 1, 0, 0, 0, .null)) rfl rfl rfl rfl rfl rfl px_I_il
set_option maxRecDepth 20000 in
theorem st_L_law_1387 : bc d M_L_law scr 1387 [a0, a1, a2, some (.ref p), a4, a5, a6] st h cn sn = bc d M_L_law scr 1388 [a0, a1, a2, some (.ref p), a4, a5, a6] (.ref p :: st) h cn sn := bc_lda1 rfl rfl
set_option maxRecDepth 20000 in
theorem st_L_law_1387t : bc d M_L_law scr 1387 [a0, a1, a2, some (.float t), a4, a5, a6] st h cn sn = bc d M_L_law scr 1388 [a0, a1, a2, some (.float t), a4, a5, a6] (.float t :: st) h cn sn := bc_ldt1 rfl rfl
set_option maxRecDepth 20000 in
theorem st_L_law_1388 (hs : px_sum st ≤ 8) : bc (d + 1) M_L_law scr 1388 [a0, a1, a2, a3, a4, a5, a6] (.ref p2 :: .int x :: .ref p1 :: st) h cn sn = bC (bc d M_L_chord none 0 [some (.ref p1), some (.int x), some (.ref p2), none] [] h 0 0) (fun v h' c k => bc (d + 1) M_L_law scr 1391 [a0, a1, a2, a3, a4, a5, a6] (v.toList ++ st) h' (cn + c) (sn + k)) (fun z h' c k => some (.inr z, h', cn + c, sn + k)) := bc_I rfl rfl rfl rfl rfl rfl rfl (px_I_sta mt_254 rfl hs rfl) rfl rfl rfl
set_option maxRecDepth 20000 in
theorem st_L_law_1391 : bc d M_L_law scr 1391 [a0, a1, a2, a3, a4, a5, a6] (.int x :: st) h cn sn = bc d M_L_law scr 1393 [a0, a1, a2, a3, lc_c2 a4, some (.int x), a6] st h cn sn := bc_Ls1 (en := (.istore 5, 2, 0, 0, 0, .null)) (vs := [a0, a1, a2, a3, a4, a5, a6]) (i := 5) (v := .int x) rfl rfl rfl
set_option maxRecDepth 20000 in
theorem st_L_law_1393 : bc d M_L_law scr 1393 [a0, a1, some (.ref p), a3, a4, a5, a6] st h cn sn = bc d M_L_law scr 1394 [a0, a1, some (.ref p), a3, a4, a5, a6] (.ref p :: st) h cn sn := bc_lda1 rfl rfl
set_option maxRecDepth 20000 in
theorem st_L_law_1393t : bc d M_L_law scr 1393 [a0, a1, some (.float t), a3, a4, a5, a6] st h cn sn = bc d M_L_law scr 1394 [a0, a1, some (.float t), a3, a4, a5, a6] (.float t :: st) h cn sn := bc_ldt1 rfl rfl
set_option maxRecDepth 20000 in
theorem st_L_law_1394 : bc d M_L_law scr 1394 [some (.ref p), a1, a2, a3, a4, a5, a6] st h cn sn = bc d M_L_law scr 1395 [some (.ref p), a1, a2, a3, a4, a5, a6] (.ref p :: st) h cn sn := bc_lda1 rfl rfl
set_option maxRecDepth 20000 in
theorem st_L_law_1394t : bc d M_L_law scr 1394 [some (.float t), a1, a2, a3, a4, a5, a6] st h cn sn = bc d M_L_law scr 1395 [some (.float t), a1, a2, a3, a4, a5, a6] (.float t :: st) h cn sn := bc_ldt1 rfl rfl
set_option maxRecDepth 20000 in
theorem st_L_law_1395 : bc d M_L_law scr 1395 [a0, a1, a2, a3, some (.int x), a5, a6] st h cn sn = bc d M_L_law scr 1397 [a0, a1, a2, a3, some (.int x), a5, a6] (.int x :: st) h cn sn := bc_ldi2 rfl rfl
set_option maxRecDepth 20000 in
theorem st_L_law_1397 : bc d M_L_law scr 1397 [a0, a1, a2, a3, a4, a5, a6] st h cn sn = bc d M_L_law scr 1398 [a0, a1, a2, a3, a4, a5, a6] (.int 1 :: st) h cn sn := bc_L rfl rfl
set_option maxRecDepth 20000 in
theorem st_L_law_1398 : bc d M_L_law scr 1398 [a0, a1, a2, a3, a4, a5, a6] (.int y :: .int x :: st) h cn sn = bc d M_L_law scr 1399 [a0, a1, a2, a3, a4, a5, a6] (.int (x + y) :: st) h cn sn := bc_L rfl rfl
set_option maxRecDepth 20000 in
theorem st_L_law_1399 : bc d M_L_law scr 1399 [a0, a1, a2, a3, a4, a5, a6] st h cn sn = bM (px_ald scr 1399 st h) (fun p s g => bc d M_L_law scr p [a0, a1, a2, a3, a4, a5, a6] s g cn sn) := bc_M (en := (.iaload, 1, 0, 0, 0, .null)) rfl rfl rfl rfl rfl rfl px_I_il
set_option maxRecDepth 20000 in
theorem st_L_law_1400 (hc : hcl h p = some 10) (hs : px_sum st ≤ 8) : bc (d + 1) M_L_law scr 1400 [a0, a1, a2, a3, a4, a5, a6] (.int x :: .ref p :: st) h cn sn = bC (bc d M_X10_chord none 0 [some (.ref p), some (.int x), none, none] [] h 0 0) (fun v h' c k => bc (d + 1) M_L_law scr 1403 [a0, a1, a2, a3, a4, a5, a6] (v.toList ++ st) h' (cn + c) (sn + k)) (fun z h' c k => some (.inr z, h', cn + c, sn + k)) := bc_I rfl rfl rfl rfl rfl rfl rfl (px_I_vir mt_215 rfl hc hs rfl) rfl rfl rfl
set_option maxRecDepth 20000 in
theorem st_L_law_1403 : bc d M_L_law scr 1403 [a0, a1, a2, a3, a4, a5, a6] (.int x :: st) h cn sn = bc d M_L_law scr 1405 [a0, a1, a2, a3, a4, lc_c2 a5, some (.int x)] st h cn sn := bc_Ls1 (en := (.istore 6, 2, 0, 0, 0, .null)) (vs := [a0, a1, a2, a3, a4, a5, a6]) (i := 6) (v := .int x) rfl rfl rfl
set_option maxRecDepth 20000 in
theorem st_L_law_1405 : bc d M_L_law scr 1405 [a0, a1, some (.ref p), a3, a4, a5, a6] st h cn sn = bc d M_L_law scr 1406 [a0, a1, some (.ref p), a3, a4, a5, a6] (.ref p :: st) h cn sn := bc_lda1 rfl rfl
set_option maxRecDepth 20000 in
theorem st_L_law_1405t : bc d M_L_law scr 1405 [a0, a1, some (.float t), a3, a4, a5, a6] st h cn sn = bc d M_L_law scr 1406 [a0, a1, some (.float t), a3, a4, a5, a6] (.float t :: st) h cn sn := bc_ldt1 rfl rfl
set_option maxRecDepth 20000 in
theorem st_L_law_1406 (hc : hcl h p = some 10) (hs : px_sum st ≤ 8) : bc (d + 1) M_L_law scr 1406 [a0, a1, a2, a3, a4, a5, a6] (.ref p :: st) h cn sn = bC (bc d M_X10_thrown none 0 [some (.ref p)] [] h 0 0) (fun v h' c k => bc (d + 1) M_L_law scr 1409 [a0, a1, a2, a3, a4, a5, a6] (v.toList ++ st) h' (cn + c) (sn + k)) (fun z h' c k => some (.inr z, h', cn + c, sn + k)) := bc_I rfl rfl rfl rfl rfl rfl rfl (px_I_vir mt_133 rfl hc hs rfl) rfl rfl rfl
set_option maxRecDepth 20000 in
theorem st_L_law_1409 : bc d M_L_law scr 1409 [a0, a1, a2, a3, a4, some (.int x), a6] st h cn sn = bc d M_L_law scr 1411 [a0, a1, a2, a3, a4, some (.int x), a6] (.int x :: st) h cn sn := bc_ldi2 rfl rfl
set_option maxRecDepth 20000 in
theorem st_L_law_1411 : bc d M_L_law scr 1411 [a0, a1, a2, a3, a4, a5, a6] (.int y :: .int x :: st) h cn sn = if x = y then bc d M_L_law scr 1416 [a0, a1, a2, a3, a4, a5, a6] st h cn sn else bc d M_L_law scr 1414 [a0, a1, a2, a3, a4, a5, a6] st h cn sn := (bc_ic rfl).trans bt_eq
set_option maxRecDepth 20000 in
theorem st_L_law_1414 : bc d M_L_law scr 1414 [a0, a1, a2, a3, a4, a5, a6] st h cn sn = bc d M_L_law scr 1415 [a0, a1, a2, a3, a4, a5, a6] (.int 0 :: st) h cn sn := bc_L rfl rfl
set_option maxRecDepth 20000 in
theorem st_L_law_1415 : bc d M_L_law scr 1415 [a0, a1, a2, a3, a4, a5, a6] [.int 0] h cn sn = some (.inl (some (.int 0)), h, cn, sn) := bc_E rfl rfl rfl rfl rfl rfl rfl
set_option maxRecDepth 20000 in
theorem st_L_law_1415b : bc d M_L_law scr 1415 [a0, a1, a2, a3, a4, a5, a6] [.int 1] h cn sn = some (.inl (some (.int 1)), h, cn, sn) := bc_E rfl rfl rfl rfl rfl rfl rfl
set_option maxRecDepth 20000 in
theorem st_L_law_1416 : bc d M_L_law scr 1416 [a0, a1, a2, a3, a4, some (.int x), a6] st h cn sn = bc d M_L_law scr 1418 [a0, a1, a2, a3, a4, some (.int x), a6] (.int x :: st) h cn sn := bc_ldi2 rfl rfl
set_option maxRecDepth 20000 in
theorem st_L_law_1418 : bc d M_L_law scr 1418 [a0, a1, a2, a3, a4, a5, a6] (.int x :: st) h cn sn = if x = 0 then bc d M_L_law scr 1421 [a0, a1, a2, a3, a4, a5, a6] st h cn sn else bc d M_L_law scr 1433 [a0, a1, a2, a3, a4, a5, a6] st h cn sn := (bc_if rfl).trans bt_ne
set_option maxRecDepth 20000 in
theorem st_L_law_1421 : bc d M_L_law scr 1421 [a0, a1, a2, some (.ref p), a4, a5, a6] st h cn sn = bc d M_L_law scr 1422 [a0, a1, a2, some (.ref p), a4, a5, a6] (.ref p :: st) h cn sn := bc_lda1 rfl rfl
set_option maxRecDepth 20000 in
theorem st_L_law_1421t : bc d M_L_law scr 1421 [a0, a1, a2, some (.float t), a4, a5, a6] st h cn sn = bc d M_L_law scr 1422 [a0, a1, a2, some (.float t), a4, a5, a6] (.float t :: st) h cn sn := bc_ldt1 rfl rfl
set_option maxRecDepth 20000 in
theorem st_L_law_1422 : bc d M_L_law scr 1422 [a0, a1, a2, a3, a4, a5, a6] st h cn sn = bc d M_L_law scr 1423 [a0, a1, a2, a3, a4, a5, a6] (.int 0 :: st) h cn sn := bc_L rfl rfl
set_option maxRecDepth 20000 in
theorem st_L_law_1423 : bc d M_L_law scr 1423 [a0, a1, a2, a3, a4, a5, a6] st h cn sn = bM (px_lld 1423 st h) (fun p s g => bc d M_L_law scr p [a0, a1, a2, a3, a4, a5, a6] s g cn sn) := bc_M (en := (.laload, 1, 0, 0, 0, .null)) rfl rfl rfl rfl rfl rfl px_I_ll
set_option maxRecDepth 20000 in
theorem st_L_law_1424 : bc d M_L_law scr 1424 [a0, a1, a2, a3, a4, a5, some (.int x)] st h cn sn = bc d M_L_law scr 1426 [a0, a1, a2, a3, a4, a5, some (.int x)] (.int x :: st) h cn sn := bc_ldi2 rfl rfl
set_option maxRecDepth 20000 in
theorem st_L_law_1426 : bc d M_L_law scr 1426 [a0, a1, a2, a3, a4, a5, a6] (.int x :: st) h cn sn = bc d M_L_law scr 1427 [a0, a1, a2, a3, a4, a5, a6] (.long x.toInt64 :: st) h cn sn := bc_L rfl rfl
set_option maxRecDepth 20000 in
theorem st_L_law_1427 : bc d M_L_law scr 1427 [a0, a1, a2, a3, a4, a5, a6] (.long w :: .long u :: st) h cn sn = bc d M_L_law scr 1428 [a0, a1, a2, a3, a4, a5, a6] (.int (lg_cmp u w) :: st) h cn sn := bc_L rfl rfl
set_option maxRecDepth 20000 in
theorem st_L_law_1428 : bc d M_L_law scr 1428 [a0, a1, a2, a3, a4, a5, a6] (.int x :: st) h cn sn = if x = 0 then bc d M_L_law scr 1433 [a0, a1, a2, a3, a4, a5, a6] st h cn sn else bc d M_L_law scr 1431 [a0, a1, a2, a3, a4, a5, a6] st h cn sn := (bc_if rfl).trans bt_eq
set_option maxRecDepth 20000 in
theorem st_L_law_1431 : bc d M_L_law scr 1431 [a0, a1, a2, a3, a4, a5, a6] st h cn sn = bc d M_L_law scr 1432 [a0, a1, a2, a3, a4, a5, a6] (.int 0 :: st) h cn sn := bc_L rfl rfl
set_option maxRecDepth 20000 in
theorem st_L_law_1432 : bc d M_L_law scr 1432 [a0, a1, a2, a3, a4, a5, a6] [.int 0] h cn sn = some (.inl (some (.int 0)), h, cn, sn) := bc_E rfl rfl rfl rfl rfl rfl rfl
set_option maxRecDepth 20000 in
theorem st_L_law_1432b : bc d M_L_law scr 1432 [a0, a1, a2, a3, a4, a5, a6] [.int 1] h cn sn = some (.inl (some (.int 1)), h, cn, sn) := bc_E rfl rfl rfl rfl rfl rfl rfl
set_option maxRecDepth 20000 in
theorem st_L_law_1433 : bc d M_L_law scr 1433 [a0, a1, a2, a3, a4, a5, a6] st h cn sn = bc d M_L_law scr 1940 [a0, a1, a2, a3, a4, a5, a6] st h cn sn := bc_L rfl rfl
set_option maxRecDepth 20000 in
theorem st_L_law_1436 : bc d M_L_law scr 1436 [a0, some (.ref p), a2, a3, a4, a5, a6] st h cn sn = bc d M_L_law scr 1437 [a0, some (.ref p), a2, a3, a4, a5, a6] (.ref p :: st) h cn sn := bc_lda1 rfl rfl
set_option maxRecDepth 20000 in
theorem st_L_law_1436t : bc d M_L_law scr 1436 [a0, some (.float t), a2, a3, a4, a5, a6] st h cn sn = bc d M_L_law scr 1437 [a0, some (.float t), a2, a3, a4, a5, a6] (.float t :: st) h cn sn := bc_ldt1 rfl rfl
set_option maxRecDepth 20000 in
theorem st_L_law_1437 : bc d M_L_law scr 1437 [some (.ref p), a1, a2, a3, a4, a5, a6] st h cn sn = bc d M_L_law scr 1438 [some (.ref p), a1, a2, a3, a4, a5, a6] (.ref p :: st) h cn sn := bc_lda1 rfl rfl
set_option maxRecDepth 20000 in
theorem st_L_law_1437t : bc d M_L_law scr 1437 [some (.float t), a1, a2, a3, a4, a5, a6] st h cn sn = bc d M_L_law scr 1438 [some (.float t), a1, a2, a3, a4, a5, a6] (.float t :: st) h cn sn := bc_ldt1 rfl rfl
set_option maxRecDepth 20000 in
theorem st_L_law_1438 : bc d M_L_law scr 1438 [a0, a1, a2, a3, some (.int x), a5, a6] st h cn sn = bc d M_L_law scr 1440 [a0, a1, a2, a3, some (.int x), a5, a6] (.int x :: st) h cn sn := bc_ldi2 rfl rfl
set_option maxRecDepth 20000 in
theorem st_L_law_1440 : bc d M_L_law scr 1440 [a0, a1, a2, a3, a4, a5, a6] st h cn sn = bc d M_L_law scr 1441 [a0, a1, a2, a3, a4, a5, a6] (.int 1 :: st) h cn sn := bc_L rfl rfl
set_option maxRecDepth 20000 in
theorem st_L_law_1441 : bc d M_L_law scr 1441 [a0, a1, a2, a3, a4, a5, a6] (.int y :: .int x :: st) h cn sn = bc d M_L_law scr 1442 [a0, a1, a2, a3, a4, a5, a6] (.int (x + y) :: st) h cn sn := bc_L rfl rfl
set_option maxRecDepth 20000 in
theorem st_L_law_1442 : bc d M_L_law scr 1442 [a0, a1, a2, a3, a4, a5, a6] st h cn sn = bM (px_ald scr 1442 st h) (fun p s g => bc d M_L_law scr p [a0, a1, a2, a3, a4, a5, a6] s g cn sn) := bc_M (en := (.iaload, 1, 0, 0, 0, .null)) rfl rfl rfl rfl rfl rfl px_I_il
set_option maxRecDepth 20000 in
theorem st_L_law_1443 : bc d M_L_law scr 1443 [some (.ref p), a1, a2, a3, a4, a5, a6] st h cn sn = bc d M_L_law scr 1444 [some (.ref p), a1, a2, a3, a4, a5, a6] (.ref p :: st) h cn sn := bc_lda1 rfl rfl
set_option maxRecDepth 20000 in
theorem st_L_law_1443t : bc d M_L_law scr 1443 [some (.float t), a1, a2, a3, a4, a5, a6] st h cn sn = bc d M_L_law scr 1444 [some (.float t), a1, a2, a3, a4, a5, a6] (.float t :: st) h cn sn := bc_ldt1 rfl rfl
set_option maxRecDepth 20000 in
theorem st_L_law_1444 : bc d M_L_law scr 1444 [a0, a1, a2, a3, some (.int x), a5, a6] st h cn sn = bc d M_L_law scr 1446 [a0, a1, a2, a3, some (.int x), a5, a6] (.int x :: st) h cn sn := bc_ldi2 rfl rfl
set_option maxRecDepth 20000 in
theorem st_L_law_1446 : bc d M_L_law scr 1446 [a0, a1, a2, a3, a4, a5, a6] st h cn sn = bc d M_L_law scr 1447 [a0, a1, a2, a3, a4, a5, a6] (.int 2 :: st) h cn sn := bc_L rfl rfl
set_option maxRecDepth 20000 in
theorem st_L_law_1447 : bc d M_L_law scr 1447 [a0, a1, a2, a3, a4, a5, a6] (.int y :: .int x :: st) h cn sn = bc d M_L_law scr 1448 [a0, a1, a2, a3, a4, a5, a6] (.int (x + y) :: st) h cn sn := bc_L rfl rfl
set_option maxRecDepth 20000 in
theorem st_L_law_1448 : bc d M_L_law scr 1448 [a0, a1, a2, a3, a4, a5, a6] st h cn sn = bM (px_ald scr 1448 st h) (fun p s g => bc d M_L_law scr p [a0, a1, a2, a3, a4, a5, a6] s g cn sn) := bc_M (en := (.iaload, 1, 0, 0, 0, .null)) rfl rfl rfl rfl rfl rfl px_I_il
set_option maxRecDepth 20000 in
theorem st_L_law_1449 : bc d M_L_law scr 1449 [a0, a1, a2, some (.ref p), a4, a5, a6] st h cn sn = bc d M_L_law scr 1450 [a0, a1, a2, some (.ref p), a4, a5, a6] (.ref p :: st) h cn sn := bc_lda1 rfl rfl
set_option maxRecDepth 20000 in
theorem st_L_law_1449t : bc d M_L_law scr 1449 [a0, a1, a2, some (.float t), a4, a5, a6] st h cn sn = bc d M_L_law scr 1450 [a0, a1, a2, some (.float t), a4, a5, a6] (.float t :: st) h cn sn := bc_ldt1 rfl rfl
set_option maxRecDepth 20000 in
theorem st_L_law_1450 (hs : px_sum st ≤ 8) : bc (d + 1) M_L_law scr 1450 [a0, a1, a2, a3, a4, a5, a6] (.ref p2 :: .int y :: .int x :: .ref p1 :: st) h cn sn = bC (bc d M_L_burner none 0 [some (.ref p1), some (.int x), some (.int y), some (.ref p2), none] [] h 0 0) (fun v h' c k => bc (d + 1) M_L_law scr 1453 [a0, a1, a2, a3, a4, a5, a6] (v.toList ++ st) h' (cn + c) (sn + k)) (fun z h' c k => some (.inr z, h', cn + c, sn + k)) := bc_I rfl rfl rfl rfl rfl rfl rfl (px_I_sta mt_255 rfl hs rfl) rfl rfl rfl
set_option maxRecDepth 20000 in
theorem st_L_law_1453 : bc d M_L_law scr 1453 [a0, a1, a2, a3, a4, a5, a6] (.int x :: st) h cn sn = bc d M_L_law scr 1455 [a0, a1, a2, a3, lc_c2 a4, some (.int x), a6] st h cn sn := bc_Ls1 (en := (.istore 5, 2, 0, 0, 0, .null)) (vs := [a0, a1, a2, a3, a4, a5, a6]) (i := 5) (v := .int x) rfl rfl rfl
set_option maxRecDepth 20000 in
theorem st_L_law_1455 : bc d M_L_law scr 1455 [a0, a1, some (.ref p), a3, a4, a5, a6] st h cn sn = bc d M_L_law scr 1456 [a0, a1, some (.ref p), a3, a4, a5, a6] (.ref p :: st) h cn sn := bc_lda1 rfl rfl
set_option maxRecDepth 20000 in
theorem st_L_law_1455t : bc d M_L_law scr 1455 [a0, a1, some (.float t), a3, a4, a5, a6] st h cn sn = bc d M_L_law scr 1456 [a0, a1, some (.float t), a3, a4, a5, a6] (.float t :: st) h cn sn := bc_ldt1 rfl rfl
set_option maxRecDepth 20000 in
theorem st_L_law_1456 : bc d M_L_law scr 1456 [some (.ref p), a1, a2, a3, a4, a5, a6] st h cn sn = bc d M_L_law scr 1457 [some (.ref p), a1, a2, a3, a4, a5, a6] (.ref p :: st) h cn sn := bc_lda1 rfl rfl
set_option maxRecDepth 20000 in
theorem st_L_law_1456t : bc d M_L_law scr 1456 [some (.float t), a1, a2, a3, a4, a5, a6] st h cn sn = bc d M_L_law scr 1457 [some (.float t), a1, a2, a3, a4, a5, a6] (.float t :: st) h cn sn := bc_ldt1 rfl rfl
set_option maxRecDepth 20000 in
theorem st_L_law_1457 : bc d M_L_law scr 1457 [a0, a1, a2, a3, some (.int x), a5, a6] st h cn sn = bc d M_L_law scr 1459 [a0, a1, a2, a3, some (.int x), a5, a6] (.int x :: st) h cn sn := bc_ldi2 rfl rfl
set_option maxRecDepth 20000 in
theorem st_L_law_1459 : bc d M_L_law scr 1459 [a0, a1, a2, a3, a4, a5, a6] st h cn sn = bc d M_L_law scr 1460 [a0, a1, a2, a3, a4, a5, a6] (.int 1 :: st) h cn sn := bc_L rfl rfl
set_option maxRecDepth 20000 in
theorem st_L_law_1460 : bc d M_L_law scr 1460 [a0, a1, a2, a3, a4, a5, a6] (.int y :: .int x :: st) h cn sn = bc d M_L_law scr 1461 [a0, a1, a2, a3, a4, a5, a6] (.int (x + y) :: st) h cn sn := bc_L rfl rfl
set_option maxRecDepth 20000 in
theorem st_L_law_1461 : bc d M_L_law scr 1461 [a0, a1, a2, a3, a4, a5, a6] st h cn sn = bM (px_ald scr 1461 st h) (fun p s g => bc d M_L_law scr p [a0, a1, a2, a3, a4, a5, a6] s g cn sn) := bc_M (en := (.iaload, 1, 0, 0, 0, .null)) rfl rfl rfl rfl rfl rfl px_I_il
set_option maxRecDepth 20000 in
theorem st_L_law_1462 : bc d M_L_law scr 1462 [some (.ref p), a1, a2, a3, a4, a5, a6] st h cn sn = bc d M_L_law scr 1463 [some (.ref p), a1, a2, a3, a4, a5, a6] (.ref p :: st) h cn sn := bc_lda1 rfl rfl
set_option maxRecDepth 20000 in
theorem st_L_law_1462t : bc d M_L_law scr 1462 [some (.float t), a1, a2, a3, a4, a5, a6] st h cn sn = bc d M_L_law scr 1463 [some (.float t), a1, a2, a3, a4, a5, a6] (.float t :: st) h cn sn := bc_ldt1 rfl rfl
set_option maxRecDepth 20000 in
theorem st_L_law_1463 : bc d M_L_law scr 1463 [a0, a1, a2, a3, some (.int x), a5, a6] st h cn sn = bc d M_L_law scr 1465 [a0, a1, a2, a3, some (.int x), a5, a6] (.int x :: st) h cn sn := bc_ldi2 rfl rfl
set_option maxRecDepth 20000 in
theorem st_L_law_1465 : bc d M_L_law scr 1465 [a0, a1, a2, a3, a4, a5, a6] st h cn sn = bc d M_L_law scr 1466 [a0, a1, a2, a3, a4, a5, a6] (.int 2 :: st) h cn sn := bc_L rfl rfl
set_option maxRecDepth 20000 in
theorem st_L_law_1466 : bc d M_L_law scr 1466 [a0, a1, a2, a3, a4, a5, a6] (.int y :: .int x :: st) h cn sn = bc d M_L_law scr 1467 [a0, a1, a2, a3, a4, a5, a6] (.int (x + y) :: st) h cn sn := bc_L rfl rfl
set_option maxRecDepth 20000 in
theorem st_L_law_1467 : bc d M_L_law scr 1467 [a0, a1, a2, a3, a4, a5, a6] st h cn sn = bM (px_ald scr 1467 st h) (fun p s g => bc d M_L_law scr p [a0, a1, a2, a3, a4, a5, a6] s g cn sn) := bc_M (en := (.iaload, 1, 0, 0, 0, .null)) rfl rfl rfl rfl rfl rfl px_I_il
set_option maxRecDepth 20000 in
theorem st_L_law_1468 (hc : hcl h p = some 10) (hs : px_sum st ≤ 8) : bc (d + 1) M_L_law scr 1468 [a0, a1, a2, a3, a4, a5, a6] (.int y :: .int x :: .ref p :: st) h cn sn = bC (bc d M_X10_burner none 0 [some (.ref p), some (.int x), some (.int y), none, none, none, none] [] h 0 0) (fun v h' c k => bc (d + 1) M_L_law scr 1471 [a0, a1, a2, a3, a4, a5, a6] (v.toList ++ st) h' (cn + c) (sn + k)) (fun z h' c k => some (.inr z, h', cn + c, sn + k)) := bc_I rfl rfl rfl rfl rfl rfl rfl (px_I_vir mt_216 rfl hc hs rfl) rfl rfl rfl
set_option maxRecDepth 20000 in
theorem st_L_law_1471 : bc d M_L_law scr 1471 [a0, a1, a2, a3, a4, a5, a6] (.int x :: st) h cn sn = bc d M_L_law scr 1473 [a0, a1, a2, a3, a4, lc_c2 a5, some (.int x)] st h cn sn := bc_Ls1 (en := (.istore 6, 2, 0, 0, 0, .null)) (vs := [a0, a1, a2, a3, a4, a5, a6]) (i := 6) (v := .int x) rfl rfl rfl
set_option maxRecDepth 20000 in
theorem st_L_law_1473 : bc d M_L_law scr 1473 [a0, a1, some (.ref p), a3, a4, a5, a6] st h cn sn = bc d M_L_law scr 1474 [a0, a1, some (.ref p), a3, a4, a5, a6] (.ref p :: st) h cn sn := bc_lda1 rfl rfl
set_option maxRecDepth 20000 in
theorem st_L_law_1473t : bc d M_L_law scr 1473 [a0, a1, some (.float t), a3, a4, a5, a6] st h cn sn = bc d M_L_law scr 1474 [a0, a1, some (.float t), a3, a4, a5, a6] (.float t :: st) h cn sn := bc_ldt1 rfl rfl
set_option maxRecDepth 20000 in
theorem st_L_law_1474 (hc : hcl h p = some 10) (hs : px_sum st ≤ 8) : bc (d + 1) M_L_law scr 1474 [a0, a1, a2, a3, a4, a5, a6] (.ref p :: st) h cn sn = bC (bc d M_X10_thrown none 0 [some (.ref p)] [] h 0 0) (fun v h' c k => bc (d + 1) M_L_law scr 1477 [a0, a1, a2, a3, a4, a5, a6] (v.toList ++ st) h' (cn + c) (sn + k)) (fun z h' c k => some (.inr z, h', cn + c, sn + k)) := bc_I rfl rfl rfl rfl rfl rfl rfl (px_I_vir mt_133 rfl hc hs rfl) rfl rfl rfl
set_option maxRecDepth 20000 in
theorem st_L_law_1477 : bc d M_L_law scr 1477 [a0, a1, a2, a3, a4, some (.int x), a6] st h cn sn = bc d M_L_law scr 1479 [a0, a1, a2, a3, a4, some (.int x), a6] (.int x :: st) h cn sn := bc_ldi2 rfl rfl
set_option maxRecDepth 20000 in
theorem st_L_law_1479 : bc d M_L_law scr 1479 [a0, a1, a2, a3, a4, a5, a6] (.int y :: .int x :: st) h cn sn = if x = y then bc d M_L_law scr 1484 [a0, a1, a2, a3, a4, a5, a6] st h cn sn else bc d M_L_law scr 1482 [a0, a1, a2, a3, a4, a5, a6] st h cn sn := (bc_ic rfl).trans bt_eq
set_option maxRecDepth 20000 in
theorem st_L_law_1482 : bc d M_L_law scr 1482 [a0, a1, a2, a3, a4, a5, a6] st h cn sn = bc d M_L_law scr 1483 [a0, a1, a2, a3, a4, a5, a6] (.int 0 :: st) h cn sn := bc_L rfl rfl
set_option maxRecDepth 20000 in
theorem st_L_law_1483 : bc d M_L_law scr 1483 [a0, a1, a2, a3, a4, a5, a6] [.int 0] h cn sn = some (.inl (some (.int 0)), h, cn, sn) := bc_E rfl rfl rfl rfl rfl rfl rfl
set_option maxRecDepth 20000 in
theorem st_L_law_1483b : bc d M_L_law scr 1483 [a0, a1, a2, a3, a4, a5, a6] [.int 1] h cn sn = some (.inl (some (.int 1)), h, cn, sn) := bc_E rfl rfl rfl rfl rfl rfl rfl
set_option maxRecDepth 20000 in
theorem st_L_law_1484 : bc d M_L_law scr 1484 [a0, a1, a2, a3, a4, some (.int x), a6] st h cn sn = bc d M_L_law scr 1486 [a0, a1, a2, a3, a4, some (.int x), a6] (.int x :: st) h cn sn := bc_ldi2 rfl rfl
set_option maxRecDepth 20000 in
theorem st_L_law_1486 : bc d M_L_law scr 1486 [a0, a1, a2, a3, a4, a5, a6] (.int x :: st) h cn sn = if x = 0 then bc d M_L_law scr 1489 [a0, a1, a2, a3, a4, a5, a6] st h cn sn else bc d M_L_law scr 1501 [a0, a1, a2, a3, a4, a5, a6] st h cn sn := (bc_if rfl).trans bt_ne
set_option maxRecDepth 20000 in
theorem st_L_law_1489 : bc d M_L_law scr 1489 [a0, a1, a2, some (.ref p), a4, a5, a6] st h cn sn = bc d M_L_law scr 1490 [a0, a1, a2, some (.ref p), a4, a5, a6] (.ref p :: st) h cn sn := bc_lda1 rfl rfl
set_option maxRecDepth 20000 in
theorem st_L_law_1489t : bc d M_L_law scr 1489 [a0, a1, a2, some (.float t), a4, a5, a6] st h cn sn = bc d M_L_law scr 1490 [a0, a1, a2, some (.float t), a4, a5, a6] (.float t :: st) h cn sn := bc_ldt1 rfl rfl
set_option maxRecDepth 20000 in
theorem st_L_law_1490 : bc d M_L_law scr 1490 [a0, a1, a2, a3, a4, a5, a6] st h cn sn = bc d M_L_law scr 1491 [a0, a1, a2, a3, a4, a5, a6] (.int 0 :: st) h cn sn := bc_L rfl rfl
set_option maxRecDepth 20000 in
theorem st_L_law_1491 : bc d M_L_law scr 1491 [a0, a1, a2, a3, a4, a5, a6] st h cn sn = bM (px_lld 1491 st h) (fun p s g => bc d M_L_law scr p [a0, a1, a2, a3, a4, a5, a6] s g cn sn) := bc_M (en := (.laload, 1, 0, 0, 0, .null)) rfl rfl rfl rfl rfl rfl px_I_ll
set_option maxRecDepth 20000 in
theorem st_L_law_1492 : bc d M_L_law scr 1492 [a0, a1, a2, a3, a4, a5, some (.int x)] st h cn sn = bc d M_L_law scr 1494 [a0, a1, a2, a3, a4, a5, some (.int x)] (.int x :: st) h cn sn := bc_ldi2 rfl rfl
set_option maxRecDepth 20000 in
theorem st_L_law_1494 : bc d M_L_law scr 1494 [a0, a1, a2, a3, a4, a5, a6] (.int x :: st) h cn sn = bc d M_L_law scr 1495 [a0, a1, a2, a3, a4, a5, a6] (.long x.toInt64 :: st) h cn sn := bc_L rfl rfl
set_option maxRecDepth 20000 in
theorem st_L_law_1495 : bc d M_L_law scr 1495 [a0, a1, a2, a3, a4, a5, a6] (.long w :: .long u :: st) h cn sn = bc d M_L_law scr 1496 [a0, a1, a2, a3, a4, a5, a6] (.int (lg_cmp u w) :: st) h cn sn := bc_L rfl rfl
set_option maxRecDepth 20000 in
theorem st_L_law_1496 : bc d M_L_law scr 1496 [a0, a1, a2, a3, a4, a5, a6] (.int x :: st) h cn sn = if x = 0 then bc d M_L_law scr 1501 [a0, a1, a2, a3, a4, a5, a6] st h cn sn else bc d M_L_law scr 1499 [a0, a1, a2, a3, a4, a5, a6] st h cn sn := (bc_if rfl).trans bt_eq
set_option maxRecDepth 20000 in
theorem st_L_law_1499 : bc d M_L_law scr 1499 [a0, a1, a2, a3, a4, a5, a6] st h cn sn = bc d M_L_law scr 1500 [a0, a1, a2, a3, a4, a5, a6] (.int 0 :: st) h cn sn := bc_L rfl rfl
set_option maxRecDepth 20000 in
theorem st_L_law_1500 : bc d M_L_law scr 1500 [a0, a1, a2, a3, a4, a5, a6] [.int 0] h cn sn = some (.inl (some (.int 0)), h, cn, sn) := bc_E rfl rfl rfl rfl rfl rfl rfl
set_option maxRecDepth 20000 in
theorem st_L_law_1500b : bc d M_L_law scr 1500 [a0, a1, a2, a3, a4, a5, a6] [.int 1] h cn sn = some (.inl (some (.int 1)), h, cn, sn) := bc_E rfl rfl rfl rfl rfl rfl rfl
set_option maxRecDepth 20000 in
theorem st_L_law_1501 : bc d M_L_law scr 1501 [a0, a1, a2, a3, a4, a5, a6] st h cn sn = bc d M_L_law scr 1940 [a0, a1, a2, a3, a4, a5, a6] st h cn sn := bc_L rfl rfl
set_option maxRecDepth 20000 in
theorem st_L_law_1504 : bc d M_L_law scr 1504 [a0, some (.ref p), a2, a3, a4, a5, a6] st h cn sn = bc d M_L_law scr 1505 [a0, some (.ref p), a2, a3, a4, a5, a6] (.ref p :: st) h cn sn := bc_lda1 rfl rfl
set_option maxRecDepth 20000 in
theorem st_L_law_1504t : bc d M_L_law scr 1504 [a0, some (.float t), a2, a3, a4, a5, a6] st h cn sn = bc d M_L_law scr 1505 [a0, some (.float t), a2, a3, a4, a5, a6] (.float t :: st) h cn sn := bc_ldt1 rfl rfl
set_option maxRecDepth 20000 in
theorem st_L_law_1505 : bc d M_L_law scr 1505 [some (.ref p), a1, a2, a3, a4, a5, a6] st h cn sn = bc d M_L_law scr 1506 [some (.ref p), a1, a2, a3, a4, a5, a6] (.ref p :: st) h cn sn := bc_lda1 rfl rfl
set_option maxRecDepth 20000 in
theorem st_L_law_1505t : bc d M_L_law scr 1505 [some (.float t), a1, a2, a3, a4, a5, a6] st h cn sn = bc d M_L_law scr 1506 [some (.float t), a1, a2, a3, a4, a5, a6] (.float t :: st) h cn sn := bc_ldt1 rfl rfl
set_option maxRecDepth 20000 in
theorem st_L_law_1506 : bc d M_L_law scr 1506 [a0, a1, a2, a3, some (.int x), a5, a6] st h cn sn = bc d M_L_law scr 1508 [a0, a1, a2, a3, some (.int x), a5, a6] (.int x :: st) h cn sn := bc_ldi2 rfl rfl
set_option maxRecDepth 20000 in
theorem st_L_law_1508 : bc d M_L_law scr 1508 [a0, a1, a2, a3, a4, a5, a6] st h cn sn = bc d M_L_law scr 1509 [a0, a1, a2, a3, a4, a5, a6] (.int 1 :: st) h cn sn := bc_L rfl rfl
set_option maxRecDepth 20000 in
theorem st_L_law_1509 : bc d M_L_law scr 1509 [a0, a1, a2, a3, a4, a5, a6] (.int y :: .int x :: st) h cn sn = bc d M_L_law scr 1510 [a0, a1, a2, a3, a4, a5, a6] (.int (x + y) :: st) h cn sn := bc_L rfl rfl
set_option maxRecDepth 20000 in
theorem st_L_law_1510 : bc d M_L_law scr 1510 [a0, a1, a2, a3, a4, a5, a6] st h cn sn = bM (px_ald scr 1510 st h) (fun p s g => bc d M_L_law scr p [a0, a1, a2, a3, a4, a5, a6] s g cn sn) := bc_M (en := (.iaload, 1, 0, 0, 0, .null)) rfl rfl rfl rfl rfl rfl px_I_il
set_option maxRecDepth 20000 in
theorem st_L_law_1511 : bc d M_L_law scr 1511 [some (.ref p), a1, a2, a3, a4, a5, a6] st h cn sn = bc d M_L_law scr 1512 [some (.ref p), a1, a2, a3, a4, a5, a6] (.ref p :: st) h cn sn := bc_lda1 rfl rfl
set_option maxRecDepth 20000 in
theorem st_L_law_1511t : bc d M_L_law scr 1511 [some (.float t), a1, a2, a3, a4, a5, a6] st h cn sn = bc d M_L_law scr 1512 [some (.float t), a1, a2, a3, a4, a5, a6] (.float t :: st) h cn sn := bc_ldt1 rfl rfl
set_option maxRecDepth 20000 in
theorem st_L_law_1512 : bc d M_L_law scr 1512 [a0, a1, a2, a3, some (.int x), a5, a6] st h cn sn = bc d M_L_law scr 1514 [a0, a1, a2, a3, some (.int x), a5, a6] (.int x :: st) h cn sn := bc_ldi2 rfl rfl
set_option maxRecDepth 20000 in
theorem st_L_law_1514 : bc d M_L_law scr 1514 [a0, a1, a2, a3, a4, a5, a6] st h cn sn = bc d M_L_law scr 1515 [a0, a1, a2, a3, a4, a5, a6] (.int 2 :: st) h cn sn := bc_L rfl rfl
set_option maxRecDepth 20000 in
theorem st_L_law_1515 : bc d M_L_law scr 1515 [a0, a1, a2, a3, a4, a5, a6] (.int y :: .int x :: st) h cn sn = bc d M_L_law scr 1516 [a0, a1, a2, a3, a4, a5, a6] (.int (x + y) :: st) h cn sn := bc_L rfl rfl
set_option maxRecDepth 20000 in
theorem st_L_law_1516 : bc d M_L_law scr 1516 [a0, a1, a2, a3, a4, a5, a6] st h cn sn = bM (px_ald scr 1516 st h) (fun p s g => bc d M_L_law scr p [a0, a1, a2, a3, a4, a5, a6] s g cn sn) := bc_M (en := (.iaload, 1, 0, 0, 0, .null)) rfl rfl rfl rfl rfl rfl px_I_il
set_option maxRecDepth 20000 in
theorem st_L_law_1517 : bc d M_L_law scr 1517 [some (.ref p), a1, a2, a3, a4, a5, a6] st h cn sn = bc d M_L_law scr 1518 [some (.ref p), a1, a2, a3, a4, a5, a6] (.ref p :: st) h cn sn := bc_lda1 rfl rfl
set_option maxRecDepth 20000 in
theorem st_L_law_1517t : bc d M_L_law scr 1517 [some (.float t), a1, a2, a3, a4, a5, a6] st h cn sn = bc d M_L_law scr 1518 [some (.float t), a1, a2, a3, a4, a5, a6] (.float t :: st) h cn sn := bc_ldt1 rfl rfl
set_option maxRecDepth 20000 in
theorem st_L_law_1518 : bc d M_L_law scr 1518 [a0, a1, a2, a3, some (.int x), a5, a6] st h cn sn = bc d M_L_law scr 1520 [a0, a1, a2, a3, some (.int x), a5, a6] (.int x :: st) h cn sn := bc_ldi2 rfl rfl
set_option maxRecDepth 20000 in
theorem st_L_law_1520 : bc d M_L_law scr 1520 [a0, a1, a2, a3, a4, a5, a6] st h cn sn = bc d M_L_law scr 1521 [a0, a1, a2, a3, a4, a5, a6] (.int 3 :: st) h cn sn := bc_L rfl rfl
set_option maxRecDepth 20000 in
theorem st_L_law_1521 : bc d M_L_law scr 1521 [a0, a1, a2, a3, a4, a5, a6] (.int y :: .int x :: st) h cn sn = bc d M_L_law scr 1522 [a0, a1, a2, a3, a4, a5, a6] (.int (x + y) :: st) h cn sn := bc_L rfl rfl
set_option maxRecDepth 20000 in
theorem st_L_law_1522 : bc d M_L_law scr 1522 [a0, a1, a2, a3, a4, a5, a6] st h cn sn = bM (px_ald scr 1522 st h) (fun p s g => bc d M_L_law scr p [a0, a1, a2, a3, a4, a5, a6] s g cn sn) := bc_M (en := (.iaload, 1, 0, 0, 0, .null)) rfl rfl rfl rfl rfl rfl px_I_il
set_option maxRecDepth 20000 in
theorem st_L_law_1523 : bc d M_L_law scr 1523 [some (.ref p), a1, a2, a3, a4, a5, a6] st h cn sn = bc d M_L_law scr 1524 [some (.ref p), a1, a2, a3, a4, a5, a6] (.ref p :: st) h cn sn := bc_lda1 rfl rfl
set_option maxRecDepth 20000 in
theorem st_L_law_1523t : bc d M_L_law scr 1523 [some (.float t), a1, a2, a3, a4, a5, a6] st h cn sn = bc d M_L_law scr 1524 [some (.float t), a1, a2, a3, a4, a5, a6] (.float t :: st) h cn sn := bc_ldt1 rfl rfl
set_option maxRecDepth 20000 in
theorem st_L_law_1524 : bc d M_L_law scr 1524 [a0, a1, a2, a3, some (.int x), a5, a6] st h cn sn = bc d M_L_law scr 1526 [a0, a1, a2, a3, some (.int x), a5, a6] (.int x :: st) h cn sn := bc_ldi2 rfl rfl
set_option maxRecDepth 20000 in
theorem st_L_law_1526 : bc d M_L_law scr 1526 [a0, a1, a2, a3, a4, a5, a6] st h cn sn = bc d M_L_law scr 1527 [a0, a1, a2, a3, a4, a5, a6] (.int 4 :: st) h cn sn := bc_L rfl rfl
set_option maxRecDepth 20000 in
theorem st_L_law_1527 : bc d M_L_law scr 1527 [a0, a1, a2, a3, a4, a5, a6] (.int y :: .int x :: st) h cn sn = bc d M_L_law scr 1528 [a0, a1, a2, a3, a4, a5, a6] (.int (x + y) :: st) h cn sn := bc_L rfl rfl
set_option maxRecDepth 20000 in
theorem st_L_law_1528 : bc d M_L_law scr 1528 [a0, a1, a2, a3, a4, a5, a6] st h cn sn = bM (px_ald scr 1528 st h) (fun p s g => bc d M_L_law scr p [a0, a1, a2, a3, a4, a5, a6] s g cn sn) := bc_M (en := (.iaload, 1, 0, 0, 0, .null)) rfl rfl rfl rfl rfl rfl px_I_il
set_option maxRecDepth 20000 in
theorem st_L_law_1529 : bc d M_L_law scr 1529 [a0, a1, a2, some (.ref p), a4, a5, a6] st h cn sn = bc d M_L_law scr 1530 [a0, a1, a2, some (.ref p), a4, a5, a6] (.ref p :: st) h cn sn := bc_lda1 rfl rfl
set_option maxRecDepth 20000 in
theorem st_L_law_1529t : bc d M_L_law scr 1529 [a0, a1, a2, some (.float t), a4, a5, a6] st h cn sn = bc d M_L_law scr 1530 [a0, a1, a2, some (.float t), a4, a5, a6] (.float t :: st) h cn sn := bc_ldt1 rfl rfl
set_option maxRecDepth 20000 in
theorem st_L_law_1530 (hs : px_sum st ≤ 8) : bc (d + 1) M_L_law scr 1530 [a0, a1, a2, a3, a4, a5, a6] (.ref p2 :: .int x3 :: .int z :: .int y :: .int x :: .ref p1 :: st) h cn sn = bC (bc d M_L_together none 0 [some (.ref p1), some (.int x), some (.int y), some (.int z), some (.int x3), some (.ref p2), none] [] h 0 0) (fun v h' c k => bc (d + 1) M_L_law scr 1533 [a0, a1, a2, a3, a4, a5, a6] (v.toList ++ st) h' (cn + c) (sn + k)) (fun z h' c k => some (.inr z, h', cn + c, sn + k)) := bc_I rfl rfl rfl rfl rfl rfl rfl (px_I_sta mt_256 rfl hs rfl) rfl rfl rfl
set_option maxRecDepth 20000 in
theorem st_L_law_1533 : bc d M_L_law scr 1533 [a0, a1, a2, a3, a4, a5, a6] (.int x :: st) h cn sn = bc d M_L_law scr 1535 [a0, a1, a2, a3, lc_c2 a4, some (.int x), a6] st h cn sn := bc_Ls1 (en := (.istore 5, 2, 0, 0, 0, .null)) (vs := [a0, a1, a2, a3, a4, a5, a6]) (i := 5) (v := .int x) rfl rfl rfl
set_option maxRecDepth 20000 in
theorem st_L_law_1535 : bc d M_L_law scr 1535 [a0, a1, some (.ref p), a3, a4, a5, a6] st h cn sn = bc d M_L_law scr 1536 [a0, a1, some (.ref p), a3, a4, a5, a6] (.ref p :: st) h cn sn := bc_lda1 rfl rfl
set_option maxRecDepth 20000 in
theorem st_L_law_1535t : bc d M_L_law scr 1535 [a0, a1, some (.float t), a3, a4, a5, a6] st h cn sn = bc d M_L_law scr 1536 [a0, a1, some (.float t), a3, a4, a5, a6] (.float t :: st) h cn sn := bc_ldt1 rfl rfl
set_option maxRecDepth 20000 in
theorem st_L_law_1536 : bc d M_L_law scr 1536 [some (.ref p), a1, a2, a3, a4, a5, a6] st h cn sn = bc d M_L_law scr 1537 [some (.ref p), a1, a2, a3, a4, a5, a6] (.ref p :: st) h cn sn := bc_lda1 rfl rfl
set_option maxRecDepth 20000 in
theorem st_L_law_1536t : bc d M_L_law scr 1536 [some (.float t), a1, a2, a3, a4, a5, a6] st h cn sn = bc d M_L_law scr 1537 [some (.float t), a1, a2, a3, a4, a5, a6] (.float t :: st) h cn sn := bc_ldt1 rfl rfl
set_option maxRecDepth 20000 in
theorem st_L_law_1537 : bc d M_L_law scr 1537 [a0, a1, a2, a3, some (.int x), a5, a6] st h cn sn = bc d M_L_law scr 1539 [a0, a1, a2, a3, some (.int x), a5, a6] (.int x :: st) h cn sn := bc_ldi2 rfl rfl
set_option maxRecDepth 20000 in
theorem st_L_law_1539 : bc d M_L_law scr 1539 [a0, a1, a2, a3, a4, a5, a6] st h cn sn = bc d M_L_law scr 1540 [a0, a1, a2, a3, a4, a5, a6] (.int 1 :: st) h cn sn := bc_L rfl rfl
set_option maxRecDepth 20000 in
theorem st_L_law_1540 : bc d M_L_law scr 1540 [a0, a1, a2, a3, a4, a5, a6] (.int y :: .int x :: st) h cn sn = bc d M_L_law scr 1541 [a0, a1, a2, a3, a4, a5, a6] (.int (x + y) :: st) h cn sn := bc_L rfl rfl
set_option maxRecDepth 20000 in
theorem st_L_law_1541 : bc d M_L_law scr 1541 [a0, a1, a2, a3, a4, a5, a6] st h cn sn = bM (px_ald scr 1541 st h) (fun p s g => bc d M_L_law scr p [a0, a1, a2, a3, a4, a5, a6] s g cn sn) := bc_M (en := (.iaload, 1, 0, 0, 0, .null)) rfl rfl rfl rfl rfl rfl px_I_il
set_option maxRecDepth 20000 in
theorem st_L_law_1542 : bc d M_L_law scr 1542 [some (.ref p), a1, a2, a3, a4, a5, a6] st h cn sn = bc d M_L_law scr 1543 [some (.ref p), a1, a2, a3, a4, a5, a6] (.ref p :: st) h cn sn := bc_lda1 rfl rfl
set_option maxRecDepth 20000 in
theorem st_L_law_1542t : bc d M_L_law scr 1542 [some (.float t), a1, a2, a3, a4, a5, a6] st h cn sn = bc d M_L_law scr 1543 [some (.float t), a1, a2, a3, a4, a5, a6] (.float t :: st) h cn sn := bc_ldt1 rfl rfl
set_option maxRecDepth 20000 in
theorem st_L_law_1543 : bc d M_L_law scr 1543 [a0, a1, a2, a3, some (.int x), a5, a6] st h cn sn = bc d M_L_law scr 1545 [a0, a1, a2, a3, some (.int x), a5, a6] (.int x :: st) h cn sn := bc_ldi2 rfl rfl
set_option maxRecDepth 20000 in
theorem st_L_law_1545 : bc d M_L_law scr 1545 [a0, a1, a2, a3, a4, a5, a6] st h cn sn = bc d M_L_law scr 1546 [a0, a1, a2, a3, a4, a5, a6] (.int 2 :: st) h cn sn := bc_L rfl rfl
set_option maxRecDepth 20000 in
theorem st_L_law_1546 : bc d M_L_law scr 1546 [a0, a1, a2, a3, a4, a5, a6] (.int y :: .int x :: st) h cn sn = bc d M_L_law scr 1547 [a0, a1, a2, a3, a4, a5, a6] (.int (x + y) :: st) h cn sn := bc_L rfl rfl
set_option maxRecDepth 20000 in
theorem st_L_law_1547 : bc d M_L_law scr 1547 [a0, a1, a2, a3, a4, a5, a6] st h cn sn = bM (px_ald scr 1547 st h) (fun p s g => bc d M_L_law scr p [a0, a1, a2, a3, a4, a5, a6] s g cn sn) := bc_M (en := (.iaload, 1, 0, 0, 0, .null)) rfl rfl rfl rfl rfl rfl px_I_il
set_option maxRecDepth 20000 in
theorem st_L_law_1548 : bc d M_L_law scr 1548 [some (.ref p), a1, a2, a3, a4, a5, a6] st h cn sn = bc d M_L_law scr 1549 [some (.ref p), a1, a2, a3, a4, a5, a6] (.ref p :: st) h cn sn := bc_lda1 rfl rfl
set_option maxRecDepth 20000 in
theorem st_L_law_1548t : bc d M_L_law scr 1548 [some (.float t), a1, a2, a3, a4, a5, a6] st h cn sn = bc d M_L_law scr 1549 [some (.float t), a1, a2, a3, a4, a5, a6] (.float t :: st) h cn sn := bc_ldt1 rfl rfl
set_option maxRecDepth 20000 in
theorem st_L_law_1549 : bc d M_L_law scr 1549 [a0, a1, a2, a3, some (.int x), a5, a6] st h cn sn = bc d M_L_law scr 1551 [a0, a1, a2, a3, some (.int x), a5, a6] (.int x :: st) h cn sn := bc_ldi2 rfl rfl
set_option maxRecDepth 20000 in
theorem st_L_law_1551 : bc d M_L_law scr 1551 [a0, a1, a2, a3, a4, a5, a6] st h cn sn = bc d M_L_law scr 1552 [a0, a1, a2, a3, a4, a5, a6] (.int 3 :: st) h cn sn := bc_L rfl rfl
set_option maxRecDepth 20000 in
theorem st_L_law_1552 : bc d M_L_law scr 1552 [a0, a1, a2, a3, a4, a5, a6] (.int y :: .int x :: st) h cn sn = bc d M_L_law scr 1553 [a0, a1, a2, a3, a4, a5, a6] (.int (x + y) :: st) h cn sn := bc_L rfl rfl
set_option maxRecDepth 20000 in
theorem st_L_law_1553 : bc d M_L_law scr 1553 [a0, a1, a2, a3, a4, a5, a6] st h cn sn = bM (px_ald scr 1553 st h) (fun p s g => bc d M_L_law scr p [a0, a1, a2, a3, a4, a5, a6] s g cn sn) := bc_M (en := (.iaload, 1, 0, 0, 0, .null)) rfl rfl rfl rfl rfl rfl px_I_il
set_option maxRecDepth 20000 in
theorem st_L_law_1554 : bc d M_L_law scr 1554 [some (.ref p), a1, a2, a3, a4, a5, a6] st h cn sn = bc d M_L_law scr 1555 [some (.ref p), a1, a2, a3, a4, a5, a6] (.ref p :: st) h cn sn := bc_lda1 rfl rfl
set_option maxRecDepth 20000 in
theorem st_L_law_1554t : bc d M_L_law scr 1554 [some (.float t), a1, a2, a3, a4, a5, a6] st h cn sn = bc d M_L_law scr 1555 [some (.float t), a1, a2, a3, a4, a5, a6] (.float t :: st) h cn sn := bc_ldt1 rfl rfl
set_option maxRecDepth 20000 in
theorem st_L_law_1555 : bc d M_L_law scr 1555 [a0, a1, a2, a3, some (.int x), a5, a6] st h cn sn = bc d M_L_law scr 1557 [a0, a1, a2, a3, some (.int x), a5, a6] (.int x :: st) h cn sn := bc_ldi2 rfl rfl
set_option maxRecDepth 20000 in
theorem st_L_law_1557 : bc d M_L_law scr 1557 [a0, a1, a2, a3, a4, a5, a6] st h cn sn = bc d M_L_law scr 1558 [a0, a1, a2, a3, a4, a5, a6] (.int 4 :: st) h cn sn := bc_L rfl rfl
set_option maxRecDepth 20000 in
theorem st_L_law_1558 : bc d M_L_law scr 1558 [a0, a1, a2, a3, a4, a5, a6] (.int y :: .int x :: st) h cn sn = bc d M_L_law scr 1559 [a0, a1, a2, a3, a4, a5, a6] (.int (x + y) :: st) h cn sn := bc_L rfl rfl
set_option maxRecDepth 20000 in
theorem st_L_law_1559 : bc d M_L_law scr 1559 [a0, a1, a2, a3, a4, a5, a6] st h cn sn = bM (px_ald scr 1559 st h) (fun p s g => bc d M_L_law scr p [a0, a1, a2, a3, a4, a5, a6] s g cn sn) := bc_M (en := (.iaload, 1, 0, 0, 0, .null)) rfl rfl rfl rfl rfl rfl px_I_il
set_option maxRecDepth 20000 in
theorem st_L_law_1560 (hc : hcl h p = some 10) (hs : px_sum st ≤ 8) : bc (d + 1) M_L_law scr 1560 [a0, a1, a2, a3, a4, a5, a6] (.int x3 :: .int z :: .int y :: .int x :: .ref p :: st) h cn sn = bC (bc d M_X10_together none 0 [some (.ref p), some (.int x), some (.int y), some (.int z), some (.int x3), none, none] [] h 0 0) (fun v h' c k => bc (d + 1) M_L_law scr 1563 [a0, a1, a2, a3, a4, a5, a6] (v.toList ++ st) h' (cn + c) (sn + k)) (fun z h' c k => some (.inr z, h', cn + c, sn + k)) := bc_I rfl rfl rfl rfl rfl rfl rfl (px_I_vir mt_217 rfl hc hs rfl) rfl rfl rfl
set_option maxRecDepth 20000 in
theorem st_L_law_1563 : bc d M_L_law scr 1563 [a0, a1, a2, a3, a4, a5, a6] (.int x :: st) h cn sn = bc d M_L_law scr 1565 [a0, a1, a2, a3, a4, lc_c2 a5, some (.int x)] st h cn sn := bc_Ls1 (en := (.istore 6, 2, 0, 0, 0, .null)) (vs := [a0, a1, a2, a3, a4, a5, a6]) (i := 6) (v := .int x) rfl rfl rfl
set_option maxRecDepth 20000 in
theorem st_L_law_1565 : bc d M_L_law scr 1565 [a0, a1, some (.ref p), a3, a4, a5, a6] st h cn sn = bc d M_L_law scr 1566 [a0, a1, some (.ref p), a3, a4, a5, a6] (.ref p :: st) h cn sn := bc_lda1 rfl rfl
set_option maxRecDepth 20000 in
theorem st_L_law_1565t : bc d M_L_law scr 1565 [a0, a1, some (.float t), a3, a4, a5, a6] st h cn sn = bc d M_L_law scr 1566 [a0, a1, some (.float t), a3, a4, a5, a6] (.float t :: st) h cn sn := bc_ldt1 rfl rfl
set_option maxRecDepth 20000 in
theorem st_L_law_1566 (hc : hcl h p = some 10) (hs : px_sum st ≤ 8) : bc (d + 1) M_L_law scr 1566 [a0, a1, a2, a3, a4, a5, a6] (.ref p :: st) h cn sn = bC (bc d M_X10_thrown none 0 [some (.ref p)] [] h 0 0) (fun v h' c k => bc (d + 1) M_L_law scr 1569 [a0, a1, a2, a3, a4, a5, a6] (v.toList ++ st) h' (cn + c) (sn + k)) (fun z h' c k => some (.inr z, h', cn + c, sn + k)) := bc_I rfl rfl rfl rfl rfl rfl rfl (px_I_vir mt_133 rfl hc hs rfl) rfl rfl rfl
set_option maxRecDepth 20000 in
theorem st_L_law_1569 : bc d M_L_law scr 1569 [a0, a1, a2, a3, a4, some (.int x), a6] st h cn sn = bc d M_L_law scr 1571 [a0, a1, a2, a3, a4, some (.int x), a6] (.int x :: st) h cn sn := bc_ldi2 rfl rfl
set_option maxRecDepth 20000 in
theorem st_L_law_1571 : bc d M_L_law scr 1571 [a0, a1, a2, a3, a4, a5, a6] (.int y :: .int x :: st) h cn sn = if x = y then bc d M_L_law scr 1576 [a0, a1, a2, a3, a4, a5, a6] st h cn sn else bc d M_L_law scr 1574 [a0, a1, a2, a3, a4, a5, a6] st h cn sn := (bc_ic rfl).trans bt_eq
set_option maxRecDepth 20000 in
theorem st_L_law_1574 : bc d M_L_law scr 1574 [a0, a1, a2, a3, a4, a5, a6] st h cn sn = bc d M_L_law scr 1575 [a0, a1, a2, a3, a4, a5, a6] (.int 0 :: st) h cn sn := bc_L rfl rfl
set_option maxRecDepth 20000 in
theorem st_L_law_1575 : bc d M_L_law scr 1575 [a0, a1, a2, a3, a4, a5, a6] [.int 0] h cn sn = some (.inl (some (.int 0)), h, cn, sn) := bc_E rfl rfl rfl rfl rfl rfl rfl
set_option maxRecDepth 20000 in
theorem st_L_law_1575b : bc d M_L_law scr 1575 [a0, a1, a2, a3, a4, a5, a6] [.int 1] h cn sn = some (.inl (some (.int 1)), h, cn, sn) := bc_E rfl rfl rfl rfl rfl rfl rfl
set_option maxRecDepth 20000 in
theorem st_L_law_1576 : bc d M_L_law scr 1576 [a0, a1, a2, a3, a4, some (.int x), a6] st h cn sn = bc d M_L_law scr 1578 [a0, a1, a2, a3, a4, some (.int x), a6] (.int x :: st) h cn sn := bc_ldi2 rfl rfl
set_option maxRecDepth 20000 in
theorem st_L_law_1578 : bc d M_L_law scr 1578 [a0, a1, a2, a3, a4, a5, a6] (.int x :: st) h cn sn = if x = 0 then bc d M_L_law scr 1581 [a0, a1, a2, a3, a4, a5, a6] st h cn sn else bc d M_L_law scr 1593 [a0, a1, a2, a3, a4, a5, a6] st h cn sn := (bc_if rfl).trans bt_ne
set_option maxRecDepth 20000 in
theorem st_L_law_1581 : bc d M_L_law scr 1581 [a0, a1, a2, some (.ref p), a4, a5, a6] st h cn sn = bc d M_L_law scr 1582 [a0, a1, a2, some (.ref p), a4, a5, a6] (.ref p :: st) h cn sn := bc_lda1 rfl rfl
set_option maxRecDepth 20000 in
theorem st_L_law_1581t : bc d M_L_law scr 1581 [a0, a1, a2, some (.float t), a4, a5, a6] st h cn sn = bc d M_L_law scr 1582 [a0, a1, a2, some (.float t), a4, a5, a6] (.float t :: st) h cn sn := bc_ldt1 rfl rfl
set_option maxRecDepth 20000 in
theorem st_L_law_1582 : bc d M_L_law scr 1582 [a0, a1, a2, a3, a4, a5, a6] st h cn sn = bc d M_L_law scr 1583 [a0, a1, a2, a3, a4, a5, a6] (.int 0 :: st) h cn sn := bc_L rfl rfl
set_option maxRecDepth 20000 in
theorem st_L_law_1583 : bc d M_L_law scr 1583 [a0, a1, a2, a3, a4, a5, a6] st h cn sn = bM (px_lld 1583 st h) (fun p s g => bc d M_L_law scr p [a0, a1, a2, a3, a4, a5, a6] s g cn sn) := bc_M (en := (.laload, 1, 0, 0, 0, .null)) rfl rfl rfl rfl rfl rfl px_I_ll
set_option maxRecDepth 20000 in
theorem st_L_law_1584 : bc d M_L_law scr 1584 [a0, a1, a2, a3, a4, a5, some (.int x)] st h cn sn = bc d M_L_law scr 1586 [a0, a1, a2, a3, a4, a5, some (.int x)] (.int x :: st) h cn sn := bc_ldi2 rfl rfl
set_option maxRecDepth 20000 in
theorem st_L_law_1586 : bc d M_L_law scr 1586 [a0, a1, a2, a3, a4, a5, a6] (.int x :: st) h cn sn = bc d M_L_law scr 1587 [a0, a1, a2, a3, a4, a5, a6] (.long x.toInt64 :: st) h cn sn := bc_L rfl rfl
set_option maxRecDepth 20000 in
theorem st_L_law_1587 : bc d M_L_law scr 1587 [a0, a1, a2, a3, a4, a5, a6] (.long w :: .long u :: st) h cn sn = bc d M_L_law scr 1588 [a0, a1, a2, a3, a4, a5, a6] (.int (lg_cmp u w) :: st) h cn sn := bc_L rfl rfl
set_option maxRecDepth 20000 in
theorem st_L_law_1588 : bc d M_L_law scr 1588 [a0, a1, a2, a3, a4, a5, a6] (.int x :: st) h cn sn = if x = 0 then bc d M_L_law scr 1593 [a0, a1, a2, a3, a4, a5, a6] st h cn sn else bc d M_L_law scr 1591 [a0, a1, a2, a3, a4, a5, a6] st h cn sn := (bc_if rfl).trans bt_eq
set_option maxRecDepth 20000 in
theorem st_L_law_1591 : bc d M_L_law scr 1591 [a0, a1, a2, a3, a4, a5, a6] st h cn sn = bc d M_L_law scr 1592 [a0, a1, a2, a3, a4, a5, a6] (.int 0 :: st) h cn sn := bc_L rfl rfl
set_option maxRecDepth 20000 in
theorem st_L_law_1592 : bc d M_L_law scr 1592 [a0, a1, a2, a3, a4, a5, a6] [.int 0] h cn sn = some (.inl (some (.int 0)), h, cn, sn) := bc_E rfl rfl rfl rfl rfl rfl rfl
set_option maxRecDepth 20000 in
theorem st_L_law_1592b : bc d M_L_law scr 1592 [a0, a1, a2, a3, a4, a5, a6] [.int 1] h cn sn = some (.inl (some (.int 1)), h, cn, sn) := bc_E rfl rfl rfl rfl rfl rfl rfl
set_option maxRecDepth 20000 in
theorem st_L_law_1593 : bc d M_L_law scr 1593 [a0, a1, a2, a3, a4, a5, a6] st h cn sn = bc d M_L_law scr 1940 [a0, a1, a2, a3, a4, a5, a6] st h cn sn := bc_L rfl rfl
set_option maxRecDepth 20000 in
theorem st_L_law_1596 : bc d M_L_law scr 1596 [a0, some (.ref p), a2, a3, a4, a5, a6] st h cn sn = bc d M_L_law scr 1597 [a0, some (.ref p), a2, a3, a4, a5, a6] (.ref p :: st) h cn sn := bc_lda1 rfl rfl
set_option maxRecDepth 20000 in
theorem st_L_law_1596t : bc d M_L_law scr 1596 [a0, some (.float t), a2, a3, a4, a5, a6] st h cn sn = bc d M_L_law scr 1597 [a0, some (.float t), a2, a3, a4, a5, a6] (.float t :: st) h cn sn := bc_ldt1 rfl rfl
set_option maxRecDepth 20000 in
theorem st_L_law_1597 : bc d M_L_law scr 1597 [some (.ref p), a1, a2, a3, a4, a5, a6] st h cn sn = bc d M_L_law scr 1598 [some (.ref p), a1, a2, a3, a4, a5, a6] (.ref p :: st) h cn sn := bc_lda1 rfl rfl
set_option maxRecDepth 20000 in
theorem st_L_law_1597t : bc d M_L_law scr 1597 [some (.float t), a1, a2, a3, a4, a5, a6] st h cn sn = bc d M_L_law scr 1598 [some (.float t), a1, a2, a3, a4, a5, a6] (.float t :: st) h cn sn := bc_ldt1 rfl rfl
set_option maxRecDepth 20000 in
theorem st_L_law_1598 : bc d M_L_law scr 1598 [a0, a1, a2, a3, some (.int x), a5, a6] st h cn sn = bc d M_L_law scr 1600 [a0, a1, a2, a3, some (.int x), a5, a6] (.int x :: st) h cn sn := bc_ldi2 rfl rfl
set_option maxRecDepth 20000 in
theorem st_L_law_1600 : bc d M_L_law scr 1600 [a0, a1, a2, a3, a4, a5, a6] st h cn sn = bc d M_L_law scr 1601 [a0, a1, a2, a3, a4, a5, a6] (.int 1 :: st) h cn sn := bc_L rfl rfl
set_option maxRecDepth 20000 in
theorem st_L_law_1601 : bc d M_L_law scr 1601 [a0, a1, a2, a3, a4, a5, a6] (.int y :: .int x :: st) h cn sn = bc d M_L_law scr 1602 [a0, a1, a2, a3, a4, a5, a6] (.int (x + y) :: st) h cn sn := bc_L rfl rfl
set_option maxRecDepth 20000 in
theorem st_L_law_1602 : bc d M_L_law scr 1602 [a0, a1, a2, a3, a4, a5, a6] st h cn sn = bM (px_ald scr 1602 st h) (fun p s g => bc d M_L_law scr p [a0, a1, a2, a3, a4, a5, a6] s g cn sn) := bc_M (en := (.iaload, 1, 0, 0, 0, .null)) rfl rfl rfl rfl rfl rfl px_I_il
set_option maxRecDepth 20000 in
theorem st_L_law_1603 : bc d M_L_law scr 1603 [some (.ref p), a1, a2, a3, a4, a5, a6] st h cn sn = bc d M_L_law scr 1604 [some (.ref p), a1, a2, a3, a4, a5, a6] (.ref p :: st) h cn sn := bc_lda1 rfl rfl
set_option maxRecDepth 20000 in
theorem st_L_law_1603t : bc d M_L_law scr 1603 [some (.float t), a1, a2, a3, a4, a5, a6] st h cn sn = bc d M_L_law scr 1604 [some (.float t), a1, a2, a3, a4, a5, a6] (.float t :: st) h cn sn := bc_ldt1 rfl rfl
set_option maxRecDepth 20000 in
theorem st_L_law_1604 : bc d M_L_law scr 1604 [a0, a1, a2, a3, some (.int x), a5, a6] st h cn sn = bc d M_L_law scr 1606 [a0, a1, a2, a3, some (.int x), a5, a6] (.int x :: st) h cn sn := bc_ldi2 rfl rfl
set_option maxRecDepth 20000 in
theorem st_L_law_1606 : bc d M_L_law scr 1606 [a0, a1, a2, a3, a4, a5, a6] st h cn sn = bc d M_L_law scr 1607 [a0, a1, a2, a3, a4, a5, a6] (.int 2 :: st) h cn sn := bc_L rfl rfl
set_option maxRecDepth 20000 in
theorem st_L_law_1607 : bc d M_L_law scr 1607 [a0, a1, a2, a3, a4, a5, a6] (.int y :: .int x :: st) h cn sn = bc d M_L_law scr 1608 [a0, a1, a2, a3, a4, a5, a6] (.int (x + y) :: st) h cn sn := bc_L rfl rfl
set_option maxRecDepth 20000 in
theorem st_L_law_1608 : bc d M_L_law scr 1608 [a0, a1, a2, a3, a4, a5, a6] st h cn sn = bM (px_ald scr 1608 st h) (fun p s g => bc d M_L_law scr p [a0, a1, a2, a3, a4, a5, a6] s g cn sn) := bc_M (en := (.iaload, 1, 0, 0, 0, .null)) rfl rfl rfl rfl rfl rfl px_I_il
set_option maxRecDepth 20000 in
theorem st_L_law_1609 (hc : hcl h p = some 9) (hs : px_sum st ≤ 8) : bc (d + 1) M_L_law scr 1609 [a0, a1, a2, a3, a4, a5, a6] (.int y :: .int x :: .ref p :: st) h cn sn = bC (bc d M_X9_hear none 0 [some (.ref p), some (.int x), some (.int y), none, none] [] h 0 0) (fun v h' c k => bc (d + 1) M_L_law scr 1612 [a0, a1, a2, a3, a4, a5, a6] (v.toList ++ st) h' (cn + c) (sn + k)) (fun z h' c k => some (.inr z, h', cn + c, sn + k)) := bc_I rfl rfl rfl rfl rfl rfl rfl (px_I_vir mt_104 rfl hc hs rfl) rfl rfl rfl
set_option maxRecDepth 20000 in
theorem st_L_law_1612 : bc d M_L_law scr 1612 [a0, a1, some (.ref p), a3, a4, a5, a6] st h cn sn = bc d M_L_law scr 1613 [a0, a1, some (.ref p), a3, a4, a5, a6] (.ref p :: st) h cn sn := bc_lda1 rfl rfl
set_option maxRecDepth 20000 in
theorem st_L_law_1612t : bc d M_L_law scr 1612 [a0, a1, some (.float t), a3, a4, a5, a6] st h cn sn = bc d M_L_law scr 1613 [a0, a1, some (.float t), a3, a4, a5, a6] (.float t :: st) h cn sn := bc_ldt1 rfl rfl
set_option maxRecDepth 20000 in
theorem st_L_law_1613 : bc d M_L_law scr 1613 [some (.ref p), a1, a2, a3, a4, a5, a6] st h cn sn = bc d M_L_law scr 1614 [some (.ref p), a1, a2, a3, a4, a5, a6] (.ref p :: st) h cn sn := bc_lda1 rfl rfl
set_option maxRecDepth 20000 in
theorem st_L_law_1613t : bc d M_L_law scr 1613 [some (.float t), a1, a2, a3, a4, a5, a6] st h cn sn = bc d M_L_law scr 1614 [some (.float t), a1, a2, a3, a4, a5, a6] (.float t :: st) h cn sn := bc_ldt1 rfl rfl
set_option maxRecDepth 20000 in
theorem st_L_law_1614 : bc d M_L_law scr 1614 [a0, a1, a2, a3, some (.int x), a5, a6] st h cn sn = bc d M_L_law scr 1616 [a0, a1, a2, a3, some (.int x), a5, a6] (.int x :: st) h cn sn := bc_ldi2 rfl rfl
set_option maxRecDepth 20000 in
theorem st_L_law_1616 : bc d M_L_law scr 1616 [a0, a1, a2, a3, a4, a5, a6] st h cn sn = bc d M_L_law scr 1617 [a0, a1, a2, a3, a4, a5, a6] (.int 1 :: st) h cn sn := bc_L rfl rfl
set_option maxRecDepth 20000 in
theorem st_L_law_1617 : bc d M_L_law scr 1617 [a0, a1, a2, a3, a4, a5, a6] (.int y :: .int x :: st) h cn sn = bc d M_L_law scr 1618 [a0, a1, a2, a3, a4, a5, a6] (.int (x + y) :: st) h cn sn := bc_L rfl rfl
set_option maxRecDepth 20000 in
theorem st_L_law_1618 : bc d M_L_law scr 1618 [a0, a1, a2, a3, a4, a5, a6] st h cn sn = bM (px_ald scr 1618 st h) (fun p s g => bc d M_L_law scr p [a0, a1, a2, a3, a4, a5, a6] s g cn sn) := bc_M (en := (.iaload, 1, 0, 0, 0, .null)) rfl rfl rfl rfl rfl rfl px_I_il
set_option maxRecDepth 20000 in
theorem st_L_law_1619 : bc d M_L_law scr 1619 [some (.ref p), a1, a2, a3, a4, a5, a6] st h cn sn = bc d M_L_law scr 1620 [some (.ref p), a1, a2, a3, a4, a5, a6] (.ref p :: st) h cn sn := bc_lda1 rfl rfl
set_option maxRecDepth 20000 in
theorem st_L_law_1619t : bc d M_L_law scr 1619 [some (.float t), a1, a2, a3, a4, a5, a6] st h cn sn = bc d M_L_law scr 1620 [some (.float t), a1, a2, a3, a4, a5, a6] (.float t :: st) h cn sn := bc_ldt1 rfl rfl
end STEPS
