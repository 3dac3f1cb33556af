/-! ===== printed by wip/whole/steps.py: steps of methods as equations ===== -/
section STEPS
variable {d : Nat} {scr : Option (Nat × (Nat → Int32))} {st : List Value} {h : px_H} {cn sn : Nat} {x y z x3 x4 x5 x6 x7 x8 x9 x10 x11 x12 x13 x14 : Int32} {u w u3 u4 : Int64} {p p1 p2 p3 p4 p5 p6 p7 : Nat} {t : UInt32} {a0 a1 a2 a3 a4 a5 a6 a7 a8 a9 a10 a11 a12 a13 a14 a15 a16 a17 : Option Value}
theorem st_L_sung_0 : bc d M_L_sung scr 0 [a0, a1, some (.ref p), a3] st h cn sn = bc d M_L_sung scr 1 [a0, a1, some (.ref p), a3] (.ref p :: st) h cn sn := bc_lda1 rfl rfl
theorem st_L_sung_1 : bc d M_L_sung scr 1 [a0, a1, a2, a3] st h cn sn = bc d M_L_sung scr 2 [a0, a1, a2, a3] (.int 0 :: st) h cn sn := bc_L rfl rfl
theorem st_L_sung_2 : bc d M_L_sung scr 2 [some (.ref p), a1, a2, a3] st h cn sn = bc d M_L_sung scr 3 [some (.ref p), a1, a2, a3] (.ref p :: st) h cn sn := bc_lda1 rfl rfl
theorem st_L_sung_3 : bc d M_L_sung scr 3 [a0, some (.int x), a2, a3] st h cn sn = bc d M_L_sung scr 4 [a0, some (.int x), a2, a3] (.int x :: st) h cn sn := bc_ldi1 rfl rfl
theorem st_L_sung_7 : bc d M_L_sung scr 7 [a0, a1, a2, a3] (.int x :: st) h cn sn = bc d M_L_sung scr 8 [a0, a1, a2, a3] (.long x.toInt64 :: st) h cn sn := bc_L rfl rfl
theorem st_L_sung_8 : bc d M_L_sung scr 8 [a0, a1, a2, a3] st h cn sn = bM (px_lst 8 st h) (fun p s g => bc d M_L_sung scr p [a0, a1, a2, a3] s g cn sn) := bc_M (en := (.lastore, 1, 0, 0, 0, .null)) rfl rfl rfl rfl rfl rfl px_I_ls
theorem st_L_sung_9 : bc d M_L_sung scr 9 [a0, a1, a2, a3] st h cn sn = bc d M_L_sung scr 15 [a0, a1, a2, a3] st h cn sn := bc_L rfl rfl
theorem st_L_sung_12 : bc d M_L_sung scr 12 [a0, a1, a2, a3] (.ref p :: st) h cn sn = bc d M_L_sung scr 13 [a0, a1, lc_c2 a2, some (.ref p)] st h cn sn := bc_Ls1 (en := (.astore_n 3, 1, 0, 0, 0, .null)) (vs := [a0, a1, a2, a3]) (i := 3) (v := .ref p) rfl rfl rfl
theorem st_L_sung_12t : bc d M_L_sung scr 12 [a0, a1, a2, a3] (.float t :: st) h cn sn = bc d M_L_sung scr 13 [a0, a1, lc_c2 a2, some (.float t)] st h cn sn := bc_Ls1 (en := (.astore_n 3, 1, 0, 0, 0, .null)) (vs := [a0, a1, a2, a3]) (i := 3) (v := .float t) rfl rfl rfl
theorem st_L_sung_13 : bc d M_L_sung scr 13 [a0, a1, a2, a3] st h cn sn = bc d M_L_sung scr 14 [a0, a1, a2, a3] (.int 1 :: st) h cn sn := bc_L rfl rfl
theorem st_L_sung_14 : bc d M_L_sung scr 14 [a0, a1, a2, a3] [.int x] h cn sn = some (.inl (some (.int x)), h, cn, sn) := bc_E rfl rfl rfl rfl rfl rfl rfl
theorem st_L_sung_15 : bc d M_L_sung scr 15 [a0, a1, a2, a3] st h cn sn = bc d M_L_sung scr 16 [a0, a1, a2, a3] (.int 0 :: st) h cn sn := bc_L rfl rfl
theorem st_L_sung_16 : bc d M_L_sung scr 16 [a0, a1, a2, a3] [.int x] h cn sn = some (.inl (some (.int x)), h, cn, sn) := bc_E rfl rfl rfl rfl rfl rfl rfl
theorem st_L_done_0 : bc d M_L_done scr 0 [a0, a1, some (.ref p), a3] st h cn sn = bc d M_L_done scr 1 [a0, a1, some (.ref p), a3] (.ref p :: st) h cn sn := bc_lda1 rfl rfl
theorem st_L_done_1 : bc d M_L_done scr 1 [a0, a1, a2, a3] st h cn sn = bc d M_L_done scr 2 [a0, a1, a2, a3] (.int 0 :: st) h cn sn := bc_L rfl rfl
theorem st_L_done_2 : bc d M_L_done scr 2 [some (.ref p), a1, a2, a3] st h cn sn = bc d M_L_done scr 3 [some (.ref p), a1, a2, a3] (.ref p :: st) h cn sn := bc_lda1 rfl rfl
theorem st_L_done_3 : bc d M_L_done scr 3 [a0, some (.int x), a2, a3] st h cn sn = bc d M_L_done scr 4 [a0, some (.int x), a2, a3] (.int x :: st) h cn sn := bc_ldi1 rfl rfl
theorem st_L_done_7 : bc d M_L_done scr 7 [a0, a1, a2, a3] (.int x :: st) h cn sn = bc d M_L_done scr 8 [a0, a1, a2, a3] (.long x.toInt64 :: st) h cn sn := bc_L rfl rfl
theorem st_L_done_8 : bc d M_L_done scr 8 [a0, a1, a2, a3] st h cn sn = bM (px_lst 8 st h) (fun p s g => bc d M_L_done scr p [a0, a1, a2, a3] s g cn sn) := bc_M (en := (.lastore, 1, 0, 0, 0, .null)) rfl rfl rfl rfl rfl rfl px_I_ls
theorem st_L_done_9 : bc d M_L_done scr 9 [a0, a1, a2, a3] st h cn sn = bc d M_L_done scr 15 [a0, a1, a2, a3] st h cn sn := bc_L rfl rfl
theorem st_L_done_12 : bc d M_L_done scr 12 [a0, a1, a2, a3] (.ref p :: st) h cn sn = bc d M_L_done scr 13 [a0, a1, lc_c2 a2, some (.ref p)] st h cn sn := bc_Ls1 (en := (.astore_n 3, 1, 0, 0, 0, .null)) (vs := [a0, a1, a2, a3]) (i := 3) (v := .ref p) rfl rfl rfl
theorem st_L_done_12t : bc d M_L_done scr 12 [a0, a1, a2, a3] (.float t :: st) h cn sn = bc d M_L_done scr 13 [a0, a1, lc_c2 a2, some (.float t)] st h cn sn := bc_Ls1 (en := (.astore_n 3, 1, 0, 0, 0, .null)) (vs := [a0, a1, a2, a3]) (i := 3) (v := .float t) rfl rfl rfl
theorem st_L_done_13 : bc d M_L_done scr 13 [a0, a1, a2, a3] st h cn sn = bc d M_L_done scr 14 [a0, a1, a2, a3] (.int 1 :: st) h cn sn := bc_L rfl rfl
theorem st_L_done_14 : bc d M_L_done scr 14 [a0, a1, a2, a3] [.int x] h cn sn = some (.inl (some (.int x)), h, cn, sn) := bc_E rfl rfl rfl rfl rfl rfl rfl
theorem st_L_done_15 : bc d M_L_done scr 15 [a0, a1, a2, a3] st h cn sn = bc d M_L_done scr 16 [a0, a1, a2, a3] (.int 0 :: st) h cn sn := bc_L rfl rfl
theorem st_L_done_16 : bc d M_L_done scr 16 [a0, a1, a2, a3] [.int x] h cn sn = some (.inl (some (.int x)), h, cn, sn) := bc_E rfl rfl rfl rfl rfl rfl rfl
theorem st_L_fugue_0 : bc d M_L_fugue scr 0 [a0, a1, some (.ref p), a3] st h cn sn = bc d M_L_fugue scr 1 [a0, a1, some (.ref p), a3] (.ref p :: st) h cn sn := bc_lda1 rfl rfl
theorem st_L_fugue_1 : bc d M_L_fugue scr 1 [a0, a1, a2, a3] st h cn sn = bc d M_L_fugue scr 2 [a0, a1, a2, a3] (.int 0 :: st) h cn sn := bc_L rfl rfl
theorem st_L_fugue_2 : bc d M_L_fugue scr 2 [some (.ref p), a1, a2, a3] st h cn sn = bc d M_L_fugue scr 3 [some (.ref p), a1, a2, a3] (.ref p :: st) h cn sn := bc_lda1 rfl rfl
theorem st_L_fugue_3 : bc d M_L_fugue scr 3 [a0, some (.int x), a2, a3] st h cn sn = bc d M_L_fugue scr 4 [a0, some (.int x), a2, a3] (.int x :: st) h cn sn := bc_ldi1 rfl rfl
theorem st_L_fugue_7 : bc d M_L_fugue scr 7 [a0, a1, a2, a3] (.int x :: st) h cn sn = bc d M_L_fugue scr 8 [a0, a1, a2, a3] (.long x.toInt64 :: st) h cn sn := bc_L rfl rfl
theorem st_L_fugue_8 : bc d M_L_fugue scr 8 [a0, a1, a2, a3] st h cn sn = bM (px_lst 8 st h) (fun p s g => bc d M_L_fugue scr p [a0, a1, a2, a3] s g cn sn) := bc_M (en := (.lastore, 1, 0, 0, 0, .null)) rfl rfl rfl rfl rfl rfl px_I_ls
theorem st_L_fugue_9 : bc d M_L_fugue scr 9 [a0, a1, a2, a3] st h cn sn = bc d M_L_fugue scr 15 [a0, a1, a2, a3] st h cn sn := bc_L rfl rfl
theorem st_L_fugue_12 : bc d M_L_fugue scr 12 [a0, a1, a2, a3] (.ref p :: st) h cn sn = bc d M_L_fugue scr 13 [a0, a1, lc_c2 a2, some (.ref p)] st h cn sn := bc_Ls1 (en := (.astore_n 3, 1, 0, 0, 0, .null)) (vs := [a0, a1, a2, a3]) (i := 3) (v := .ref p) rfl rfl rfl
theorem st_L_fugue_12t : bc d M_L_fugue scr 12 [a0, a1, a2, a3] (.float t :: st) h cn sn = bc d M_L_fugue scr 13 [a0, a1, lc_c2 a2, some (.float t)] st h cn sn := bc_Ls1 (en := (.astore_n 3, 1, 0, 0, 0, .null)) (vs := [a0, a1, a2, a3]) (i := 3) (v := .float t) rfl rfl rfl
theorem st_L_fugue_13 : bc d M_L_fugue scr 13 [a0, a1, a2, a3] st h cn sn = bc d M_L_fugue scr 14 [a0, a1, a2, a3] (.int 1 :: st) h cn sn := bc_L rfl rfl
theorem st_L_fugue_14 : bc d M_L_fugue scr 14 [a0, a1, a2, a3] [.int x] h cn sn = some (.inl (some (.int x)), h, cn, sn) := bc_E rfl rfl rfl rfl rfl rfl rfl
theorem st_L_fugue_15 : bc d M_L_fugue scr 15 [a0, a1, a2, a3] st h cn sn = bc d M_L_fugue scr 16 [a0, a1, a2, a3] (.int 0 :: st) h cn sn := bc_L rfl rfl
theorem st_L_fugue_16 : bc d M_L_fugue scr 16 [a0, a1, a2, a3] [.int x] h cn sn = some (.inl (some (.int x)), h, cn, sn) := bc_E rfl rfl rfl rfl rfl rfl rfl
theorem st_L_loudest_0 : bc d M_L_loudest scr 0 [a0, a1, some (.ref p), a3] st h cn sn = bc d M_L_loudest scr 1 [a0, a1, some (.ref p), a3] (.ref p :: st) h cn sn := bc_lda1 rfl rfl
theorem st_L_loudest_1 : bc d M_L_loudest scr 1 [a0, a1, a2, a3] st h cn sn = bc d M_L_loudest scr 2 [a0, a1, a2, a3] (.int 0 :: st) h cn sn := bc_L rfl rfl
theorem st_L_loudest_2 : bc d M_L_loudest scr 2 [some (.ref p), a1, a2, a3] st h cn sn = bc d M_L_loudest scr 3 [some (.ref p), a1, a2, a3] (.ref p :: st) h cn sn := bc_lda1 rfl rfl
theorem st_L_loudest_3 : bc d M_L_loudest scr 3 [a0, some (.int x), a2, a3] st h cn sn = bc d M_L_loudest scr 4 [a0, some (.int x), a2, a3] (.int x :: st) h cn sn := bc_ldi1 rfl rfl
theorem st_L_loudest_7 : bc d M_L_loudest scr 7 [a0, a1, a2, a3] (.int x :: st) h cn sn = bc d M_L_loudest scr 8 [a0, a1, a2, a3] (.long x.toInt64 :: st) h cn sn := bc_L rfl rfl
theorem st_L_loudest_8 : bc d M_L_loudest scr 8 [a0, a1, a2, a3] st h cn sn = bM (px_lst 8 st h) (fun p s g => bc d M_L_loudest scr p [a0, a1, a2, a3] s g cn sn) := bc_M (en := (.lastore, 1, 0, 0, 0, .null)) rfl rfl rfl rfl rfl rfl px_I_ls
theorem st_L_loudest_9 : bc d M_L_loudest scr 9 [a0, a1, a2, a3] st h cn sn = bc d M_L_loudest scr 15 [a0, a1, a2, a3] st h cn sn := bc_L rfl rfl
theorem st_L_loudest_12 : bc d M_L_loudest scr 12 [a0, a1, a2, a3] (.ref p :: st) h cn sn = bc d M_L_loudest scr 13 [a0, a1, lc_c2 a2, some (.ref p)] st h cn sn := bc_Ls1 (en := (.astore_n 3, 1, 0, 0, 0, .null)) (vs := [a0, a1, a2, a3]) (i := 3) (v := .ref p) rfl rfl rfl
theorem st_L_loudest_12t : bc d M_L_loudest scr 12 [a0, a1, a2, a3] (.float t :: st) h cn sn = bc d M_L_loudest scr 13 [a0, a1, lc_c2 a2, some (.float t)] st h cn sn := bc_Ls1 (en := (.astore_n 3, 1, 0, 0, 0, .null)) (vs := [a0, a1, a2, a3]) (i := 3) (v := .float t) rfl rfl rfl
theorem st_L_loudest_13 : bc d M_L_loudest scr 13 [a0, a1, a2, a3] st h cn sn = bc d M_L_loudest scr 14 [a0, a1, a2, a3] (.int 1 :: st) h cn sn := bc_L rfl rfl
theorem st_L_loudest_14 : bc d M_L_loudest scr 14 [a0, a1, a2, a3] [.int x] h cn sn = some (.inl (some (.int x)), h, cn, sn) := bc_E rfl rfl rfl rfl rfl rfl rfl
theorem st_L_loudest_15 : bc d M_L_loudest scr 15 [a0, a1, a2, a3] st h cn sn = bc d M_L_loudest scr 16 [a0, a1, a2, a3] (.int 0 :: st) h cn sn := bc_L rfl rfl
theorem st_L_loudest_16 : bc d M_L_loudest scr 16 [a0, a1, a2, a3] [.int x] h cn sn = some (.inl (some (.int x)), h, cn, sn) := bc_E rfl rfl rfl rfl rfl rfl rfl
theorem st_L_dry_0 : bc d M_L_dry scr 0 [a0, a1, some (.ref p), a3] st h cn sn = bc d M_L_dry scr 1 [a0, a1, some (.ref p), a3] (.ref p :: st) h cn sn := bc_lda1 rfl rfl
theorem st_L_dry_1 : bc d M_L_dry scr 1 [a0, a1, a2, a3] st h cn sn = bc d M_L_dry scr 2 [a0, a1, a2, a3] (.int 0 :: st) h cn sn := bc_L rfl rfl
theorem st_L_dry_2 : bc d M_L_dry scr 2 [some (.ref p), a1, a2, a3] st h cn sn = bc d M_L_dry scr 3 [some (.ref p), a1, a2, a3] (.ref p :: st) h cn sn := bc_lda1 rfl rfl
theorem st_L_dry_3 : bc d M_L_dry scr 3 [a0, some (.int x), a2, a3] st h cn sn = bc d M_L_dry scr 4 [a0, some (.int x), a2, a3] (.int x :: st) h cn sn := bc_ldi1 rfl rfl
theorem st_L_dry_7 : bc d M_L_dry scr 7 [a0, a1, a2, a3] (.int x :: st) h cn sn = bc d M_L_dry scr 8 [a0, a1, a2, a3] (.long x.toInt64 :: st) h cn sn := bc_L rfl rfl
theorem st_L_dry_8 : bc d M_L_dry scr 8 [a0, a1, a2, a3] st h cn sn = bM (px_lst 8 st h) (fun p s g => bc d M_L_dry scr p [a0, a1, a2, a3] s g cn sn) := bc_M (en := (.lastore, 1, 0, 0, 0, .null)) rfl rfl rfl rfl rfl rfl px_I_ls
theorem st_L_dry_9 : bc d M_L_dry scr 9 [a0, a1, a2, a3] st h cn sn = bc d M_L_dry scr 15 [a0, a1, a2, a3] st h cn sn := bc_L rfl rfl
theorem st_L_dry_12 : bc d M_L_dry scr 12 [a0, a1, a2, a3] (.ref p :: st) h cn sn = bc d M_L_dry scr 13 [a0, a1, lc_c2 a2, some (.ref p)] st h cn sn := bc_Ls1 (en := (.astore_n 3, 1, 0, 0, 0, .null)) (vs := [a0, a1, a2, a3]) (i := 3) (v := .ref p) rfl rfl rfl
theorem st_L_dry_12t : bc d M_L_dry scr 12 [a0, a1, a2, a3] (.float t :: st) h cn sn = bc d M_L_dry scr 13 [a0, a1, lc_c2 a2, some (.float t)] st h cn sn := bc_Ls1 (en := (.astore_n 3, 1, 0, 0, 0, .null)) (vs := [a0, a1, a2, a3]) (i := 3) (v := .float t) rfl rfl rfl
theorem st_L_dry_13 : bc d M_L_dry scr 13 [a0, a1, a2, a3] st h cn sn = bc d M_L_dry scr 14 [a0, a1, a2, a3] (.int 1 :: st) h cn sn := bc_L rfl rfl
theorem st_L_dry_14 : bc d M_L_dry scr 14 [a0, a1, a2, a3] [.int x] h cn sn = some (.inl (some (.int x)), h, cn, sn) := bc_E rfl rfl rfl rfl rfl rfl rfl
theorem st_L_dry_15 : bc d M_L_dry scr 15 [a0, a1, a2, a3] st h cn sn = bc d M_L_dry scr 16 [a0, a1, a2, a3] (.int 0 :: st) h cn sn := bc_L rfl rfl
theorem st_L_dry_16 : bc d M_L_dry scr 16 [a0, a1, a2, a3] [.int x] h cn sn = some (.inl (some (.int x)), h, cn, sn) := bc_E rfl rfl rfl rfl rfl rfl rfl
theorem st_L_soonest_0 : bc d M_L_soonest scr 0 [a0, a1, a2, some (.ref p), a4] st h cn sn = bc d M_L_soonest scr 1 [a0, a1, a2, some (.ref p), a4] (.ref p :: st) h cn sn := bc_lda1 rfl rfl
theorem st_L_soonest_1 : bc d M_L_soonest scr 1 [a0, a1, a2, a3, a4] st h cn sn = bc d M_L_soonest scr 2 [a0, a1, a2, a3, a4] (.int 0 :: st) h cn sn := bc_L rfl rfl
theorem st_L_soonest_2 : bc d M_L_soonest scr 2 [some (.ref p), a1, a2, a3, a4] st h cn sn = bc d M_L_soonest scr 3 [some (.ref p), a1, a2, a3, a4] (.ref p :: st) h cn sn := bc_lda1 rfl rfl
theorem st_L_soonest_3 : bc d M_L_soonest scr 3 [a0, some (.int x), a2, a3, a4] st h cn sn = bc d M_L_soonest scr 4 [a0, some (.int x), a2, a3, a4] (.int x :: st) h cn sn := bc_ldi1 rfl rfl
theorem st_L_soonest_4 : bc d M_L_soonest scr 4 [a0, a1, some (.int x), a3, a4] st h cn sn = bc d M_L_soonest scr 5 [a0, a1, some (.int x), a3, a4] (.int x :: st) h cn sn := bc_ldi1 rfl rfl
theorem st_L_soonest_8 : bc d M_L_soonest scr 8 [a0, a1, a2, a3, a4] (.int x :: st) h cn sn = bc d M_L_soonest scr 9 [a0, a1, a2, a3, a4] (.long x.toInt64 :: st) h cn sn := bc_L rfl rfl
theorem st_L_soonest_9 : bc d M_L_soonest scr 9 [a0, a1, a2, a3, a4] st h cn sn = bM (px_lst 9 st h) (fun p s g => bc d M_L_soonest scr p [a0, a1, a2, a3, a4] s g cn sn) := bc_M (en := (.lastore, 1, 0, 0, 0, .null)) rfl rfl rfl rfl rfl rfl px_I_ls
theorem st_L_soonest_10 : bc d M_L_soonest scr 10 [a0, a1, a2, a3, a4] st h cn sn = bc d M_L_soonest scr 17 [a0, a1, a2, a3, a4] st h cn sn := bc_L rfl rfl
theorem st_L_soonest_13 : bc d M_L_soonest scr 13 [a0, a1, a2, a3, a4] (.ref p :: st) h cn sn = bc d M_L_soonest scr 15 [a0, a1, a2, lc_c2 a3, some (.ref p)] st h cn sn := bc_Ls1 (en := (.astore 4, 2, 0, 0, 0, .null)) (vs := [a0, a1, a2, a3, a4]) (i := 4) (v := .ref p) rfl rfl rfl
theorem st_L_soonest_13t : bc d M_L_soonest scr 13 [a0, a1, a2, a3, a4] (.float t :: st) h cn sn = bc d M_L_soonest scr 15 [a0, a1, a2, lc_c2 a3, some (.float t)] st h cn sn := bc_Ls1 (en := (.astore 4, 2, 0, 0, 0, .null)) (vs := [a0, a1, a2, a3, a4]) (i := 4) (v := .float t) rfl rfl rfl
theorem st_L_soonest_15 : bc d M_L_soonest scr 15 [a0, a1, a2, a3, a4] st h cn sn = bc d M_L_soonest scr 16 [a0, a1, a2, a3, a4] (.int 1 :: st) h cn sn := bc_L rfl rfl
theorem st_L_soonest_16 : bc d M_L_soonest scr 16 [a0, a1, a2, a3, a4] [.int x] h cn sn = some (.inl (some (.int x)), h, cn, sn) := bc_E rfl rfl rfl rfl rfl rfl rfl
theorem st_L_soonest_17 : bc d M_L_soonest scr 17 [a0, a1, a2, a3, a4] st h cn sn = bc d M_L_soonest scr 18 [a0, a1, a2, a3, a4] (.int 0 :: st) h cn sn := bc_L rfl rfl
theorem st_L_soonest_18 : bc d M_L_soonest scr 18 [a0, a1, a2, a3, a4] [.int x] h cn sn = some (.inl (some (.int x)), h, cn, sn) := bc_E rfl rfl rfl rfl rfl rfl rfl
theorem st_L_tuned_0 : bc d M_L_tuned scr 0 [a0, a1, a2, some (.ref p), a4] st h cn sn = bc d M_L_tuned scr 1 [a0, a1, a2, some (.ref p), a4] (.ref p :: st) h cn sn := bc_lda1 rfl rfl
theorem st_L_tuned_1 : bc d M_L_tuned scr 1 [a0, a1, a2, a3, a4] st h cn sn = bc d M_L_tuned scr 2 [a0, a1, a2, a3, a4] (.int 0 :: st) h cn sn := bc_L rfl rfl
theorem st_L_tuned_2 : bc d M_L_tuned scr 2 [some (.ref p), a1, a2, a3, a4] st h cn sn = bc d M_L_tuned scr 3 [some (.ref p), a1, a2, a3, a4] (.ref p :: st) h cn sn := bc_lda1 rfl rfl
theorem st_L_tuned_3 : bc d M_L_tuned scr 3 [a0, some (.int x), a2, a3, a4] st h cn sn = bc d M_L_tuned scr 4 [a0, some (.int x), a2, a3, a4] (.int x :: st) h cn sn := bc_ldi1 rfl rfl
theorem st_L_tuned_4 : bc d M_L_tuned scr 4 [a0, a1, some (.int x), a3, a4] st h cn sn = bc d M_L_tuned scr 5 [a0, a1, some (.int x), a3, a4] (.int x :: st) h cn sn := bc_ldi1 rfl rfl
theorem st_L_tuned_8 : bc d M_L_tuned scr 8 [a0, a1, a2, a3, a4] (.int x :: st) h cn sn = bc d M_L_tuned scr 9 [a0, a1, a2, a3, a4] (.long x.toInt64 :: st) h cn sn := bc_L rfl rfl
theorem st_L_tuned_9 : bc d M_L_tuned scr 9 [a0, a1, a2, a3, a4] st h cn sn = bM (px_lst 9 st h) (fun p s g => bc d M_L_tuned scr p [a0, a1, a2, a3, a4] s g cn sn) := bc_M (en := (.lastore, 1, 0, 0, 0, .null)) rfl rfl rfl rfl rfl rfl px_I_ls
theorem st_L_tuned_10 : bc d M_L_tuned scr 10 [a0, a1, a2, a3, a4] st h cn sn = bc d M_L_tuned scr 21 [a0, a1, a2, a3, a4] st h cn sn := bc_L rfl rfl
theorem st_L_tuned_13 : bc d M_L_tuned scr 13 [a0, a1, a2, a3, a4] (.ref p :: st) h cn sn = bc d M_L_tuned scr 15 [a0, a1, a2, lc_c2 a3, some (.ref p)] st h cn sn := bc_Ls1 (en := (.astore 4, 2, 0, 0, 0, .null)) (vs := [a0, a1, a2, a3, a4]) (i := 4) (v := .ref p) rfl rfl rfl
theorem st_L_tuned_13t : bc d M_L_tuned scr 13 [a0, a1, a2, a3, a4] (.float t :: st) h cn sn = bc d M_L_tuned scr 15 [a0, a1, a2, lc_c2 a3, some (.float t)] st h cn sn := bc_Ls1 (en := (.astore 4, 2, 0, 0, 0, .null)) (vs := [a0, a1, a2, a3, a4]) (i := 4) (v := .float t) rfl rfl rfl
theorem st_L_tuned_15 : bc d M_L_tuned scr 15 [a0, a1, a2, a3, a4] st h cn sn = bc d M_L_tuned scr 16 [a0, a1, a2, a3, a4] (.int 1 :: st) h cn sn := bc_L rfl rfl
theorem st_L_tuned_16 : bc d M_L_tuned scr 16 [a0, a1, a2, a3, a4] [.int x] h cn sn = some (.inl (some (.int x)), h, cn, sn) := bc_E rfl rfl rfl rfl rfl rfl rfl
theorem st_L_tuned_17 : bc d M_L_tuned scr 17 [a0, a1, a2, a3, a4] (.ref p :: st) h cn sn = bc d M_L_tuned scr 19 [a0, a1, a2, lc_c2 a3, some (.ref p)] st h cn sn := bc_Ls1 (en := (.astore 4, 2, 0, 0, 0, .null)) (vs := [a0, a1, a2, a3, a4]) (i := 4) (v := .ref p) rfl rfl rfl
theorem st_L_tuned_17t : bc d M_L_tuned scr 17 [a0, a1, a2, a3, a4] (.float t :: st) h cn sn = bc d M_L_tuned scr 19 [a0, a1, a2, lc_c2 a3, some (.float t)] st h cn sn := bc_Ls1 (en := (.astore 4, 2, 0, 0, 0, .null)) (vs := [a0, a1, a2, a3, a4]) (i := 4) (v := .float t) rfl rfl rfl
theorem st_L_tuned_19 : bc d M_L_tuned scr 19 [a0, a1, a2, a3, a4] st h cn sn = bc d M_L_tuned scr 20 [a0, a1, a2, a3, a4] (.int 2 :: st) h cn sn := bc_L rfl rfl
theorem st_L_tuned_20 : bc d M_L_tuned scr 20 [a0, a1, a2, a3, a4] [.int x] h cn sn = some (.inl (some (.int x)), h, cn, sn) := bc_E rfl rfl rfl rfl rfl rfl rfl
theorem st_L_tuned_21 : bc d M_L_tuned scr 21 [a0, a1, a2, a3, a4] st h cn sn = bc d M_L_tuned scr 22 [a0, a1, a2, a3, a4] (.int 0 :: st) h cn sn := bc_L rfl rfl
theorem st_L_tuned_22 : bc d M_L_tuned scr 22 [a0, a1, a2, a3, a4] [.int x] h cn sn = some (.inl (some (.int x)), h, cn, sn) := bc_E rfl rfl rfl rfl rfl rfl rfl
theorem st_L_chord_0 : bc d M_L_chord scr 0 [a0, a1, some (.ref p), a3] st h cn sn = bc d M_L_chord scr 1 [a0, a1, some (.ref p), a3] (.ref p :: st) h cn sn := bc_lda1 rfl rfl
theorem st_L_chord_1 : bc d M_L_chord scr 1 [a0, a1, a2, a3] st h cn sn = bc d M_L_chord scr 2 [a0, a1, a2, a3] (.int 0 :: st) h cn sn := bc_L rfl rfl
theorem st_L_chord_2 : bc d M_L_chord scr 2 [some (.ref p), a1, a2, a3] st h cn sn = bc d M_L_chord scr 3 [some (.ref p), a1, a2, a3] (.ref p :: st) h cn sn := bc_lda1 rfl rfl
theorem st_L_chord_3 : bc d M_L_chord scr 3 [a0, some (.int x), a2, a3] st h cn sn = bc d M_L_chord scr 4 [a0, some (.int x), a2, a3] (.int x :: st) h cn sn := bc_ldi1 rfl rfl
theorem st_L_chord_7 : bc d M_L_chord scr 7 [a0, a1, a2, a3] (.int x :: st) h cn sn = bc d M_L_chord scr 8 [a0, a1, a2, a3] (.long x.toInt64 :: st) h cn sn := bc_L rfl rfl
theorem st_L_chord_8 : bc d M_L_chord scr 8 [a0, a1, a2, a3] st h cn sn = bM (px_lst 8 st h) (fun p s g => bc d M_L_chord scr p [a0, a1, a2, a3] s g cn sn) := bc_M (en := (.lastore, 1, 0, 0, 0, .null)) rfl rfl rfl rfl rfl rfl px_I_ls
theorem st_L_chord_9 : bc d M_L_chord scr 9 [a0, a1, a2, a3] st h cn sn = bc d M_L_chord scr 15 [a0, a1, a2, a3] st h cn sn := bc_L rfl rfl
theorem st_L_chord_12 : bc d M_L_chord scr 12 [a0, a1, a2, a3] (.ref p :: st) h cn sn = bc d M_L_chord scr 13 [a0, a1, lc_c2 a2, some (.ref p)] st h cn sn := bc_Ls1 (en := (.astore_n 3, 1, 0, 0, 0, .null)) (vs := [a0, a1, a2, a3]) (i := 3) (v := .ref p) rfl rfl rfl
theorem st_L_chord_12t : bc d M_L_chord scr 12 [a0, a1, a2, a3] (.float t :: st) h cn sn = bc d M_L_chord scr 13 [a0, a1, lc_c2 a2, some (.float t)] st h cn sn := bc_Ls1 (en := (.astore_n 3, 1, 0, 0, 0, .null)) (vs := [a0, a1, a2, a3]) (i := 3) (v := .float t) rfl rfl rfl
theorem st_L_chord_13 : bc d M_L_chord scr 13 [a0, a1, a2, a3] st h cn sn = bc d M_L_chord scr 14 [a0, a1, a2, a3] (.int 1 :: st) h cn sn := bc_L rfl rfl
theorem st_L_chord_14 : bc d M_L_chord scr 14 [a0, a1, a2, a3] [.int x] h cn sn = some (.inl (some (.int x)), h, cn, sn) := bc_E rfl rfl rfl rfl rfl rfl rfl
theorem st_L_chord_15 : bc d M_L_chord scr 15 [a0, a1, a2, a3] st h cn sn = bc d M_L_chord scr 16 [a0, a1, a2, a3] (.int 0 :: st) h cn sn := bc_L rfl rfl
theorem st_L_chord_16 : bc d M_L_chord scr 16 [a0, a1, a2, a3] [.int x] h cn sn = some (.inl (some (.int x)), h, cn, sn) := bc_E rfl rfl rfl rfl rfl rfl rfl
theorem st_L_burner_0 : bc d M_L_burner scr 0 [a0, a1, a2, some (.ref p), a4] st h cn sn = bc d M_L_burner scr 1 [a0, a1, a2, some (.ref p), a4] (.ref p :: st) h cn sn := bc_lda1 rfl rfl
theorem st_L_burner_1 : bc d M_L_burner scr 1 [a0, a1, a2, a3, a4] st h cn sn = bc d M_L_burner scr 2 [a0, a1, a2, a3, a4] (.int 0 :: st) h cn sn := bc_L rfl rfl
theorem st_L_burner_2 : bc d M_L_burner scr 2 [some (.ref p), a1, a2, a3, a4] st h cn sn = bc d M_L_burner scr 3 [some (.ref p), a1, a2, a3, a4] (.ref p :: st) h cn sn := bc_lda1 rfl rfl
theorem st_L_burner_3 : bc d M_L_burner scr 3 [a0, some (.int x), a2, a3, a4] st h cn sn = bc d M_L_burner scr 4 [a0, some (.int x), a2, a3, a4] (.int x :: st) h cn sn := bc_ldi1 rfl rfl
theorem st_L_burner_4 : bc d M_L_burner scr 4 [a0, a1, some (.int x), a3, a4] st h cn sn = bc d M_L_burner scr 5 [a0, a1, some (.int x), a3, a4] (.int x :: st) h cn sn := bc_ldi1 rfl rfl
theorem st_L_burner_8 : bc d M_L_burner scr 8 [a0, a1, a2, a3, a4] (.int x :: st) h cn sn = bc d M_L_burner scr 9 [a0, a1, a2, a3, a4] (.long x.toInt64 :: st) h cn sn := bc_L rfl rfl
theorem st_L_burner_9 : bc d M_L_burner scr 9 [a0, a1, a2, a3, a4] st h cn sn = bM (px_lst 9 st h) (fun p s g => bc d M_L_burner scr p [a0, a1, a2, a3, a4] s g cn sn) := bc_M (en := (.lastore, 1, 0, 0, 0, .null)) rfl rfl rfl rfl rfl rfl px_I_ls
theorem st_L_burner_10 : bc d M_L_burner scr 10 [a0, a1, a2, a3, a4] st h cn sn = bc d M_L_burner scr 21 [a0, a1, a2, a3, a4] st h cn sn := bc_L rfl rfl
theorem st_L_burner_13 : bc d M_L_burner scr 13 [a0, a1, a2, a3, a4] (.ref p :: st) h cn sn = bc d M_L_burner scr 15 [a0, a1, a2, lc_c2 a3, some (.ref p)] st h cn sn := bc_Ls1 (en := (.astore 4, 2, 0, 0, 0, .null)) (vs := [a0, a1, a2, a3, a4]) (i := 4) (v := .ref p) rfl rfl rfl
theorem st_L_burner_13t : bc d M_L_burner scr 13 [a0, a1, a2, a3, a4] (.float t :: st) h cn sn = bc d M_L_burner scr 15 [a0, a1, a2, lc_c2 a3, some (.float t)] st h cn sn := bc_Ls1 (en := (.astore 4, 2, 0, 0, 0, .null)) (vs := [a0, a1, a2, a3, a4]) (i := 4) (v := .float t) rfl rfl rfl
theorem st_L_burner_15 : bc d M_L_burner scr 15 [a0, a1, a2, a3, a4] st h cn sn = bc d M_L_burner scr 16 [a0, a1, a2, a3, a4] (.int 1 :: st) h cn sn := bc_L rfl rfl
theorem st_L_burner_16 : bc d M_L_burner scr 16 [a0, a1, a2, a3, a4] [.int x] h cn sn = some (.inl (some (.int x)), h, cn, sn) := bc_E rfl rfl rfl rfl rfl rfl rfl
theorem st_L_burner_17 : bc d M_L_burner scr 17 [a0, a1, a2, a3, a4] (.ref p :: st) h cn sn = bc d M_L_burner scr 19 [a0, a1, a2, lc_c2 a3, some (.ref p)] st h cn sn := bc_Ls1 (en := (.astore 4, 2, 0, 0, 0, .null)) (vs := [a0, a1, a2, a3, a4]) (i := 4) (v := .ref p) rfl rfl rfl
theorem st_L_burner_17t : bc d M_L_burner scr 17 [a0, a1, a2, a3, a4] (.float t :: st) h cn sn = bc d M_L_burner scr 19 [a0, a1, a2, lc_c2 a3, some (.float t)] st h cn sn := bc_Ls1 (en := (.astore 4, 2, 0, 0, 0, .null)) (vs := [a0, a1, a2, a3, a4]) (i := 4) (v := .float t) rfl rfl rfl
theorem st_L_burner_19 : bc d M_L_burner scr 19 [a0, a1, a2, a3, a4] st h cn sn = bc d M_L_burner scr 20 [a0, a1, a2, a3, a4] (.int 2 :: st) h cn sn := bc_L rfl rfl
theorem st_L_burner_20 : bc d M_L_burner scr 20 [a0, a1, a2, a3, a4] [.int x] h cn sn = some (.inl (some (.int x)), h, cn, sn) := bc_E rfl rfl rfl rfl rfl rfl rfl
theorem st_L_burner_21 : bc d M_L_burner scr 21 [a0, a1, a2, a3, a4] st h cn sn = bc d M_L_burner scr 22 [a0, a1, a2, a3, a4] (.int 0 :: st) h cn sn := bc_L rfl rfl
theorem st_L_burner_22 : bc d M_L_burner scr 22 [a0, a1, a2, a3, a4] [.int x] h cn sn = some (.inl (some (.int x)), h, cn, sn) := bc_E rfl rfl rfl rfl rfl rfl rfl
theorem st_L_together_0 : bc d M_L_together scr 0 [a0, a1, a2, a3, a4, some (.ref p), a6] st h cn sn = bc d M_L_together scr 2 [a0, a1, a2, a3, a4, some (.ref p), a6] (.ref p :: st) h cn sn := bc_lda2 rfl rfl
theorem st_L_together_2 : bc d M_L_together scr 2 [a0, a1, a2, a3, a4, a5, a6] st h cn sn = bc d M_L_together scr 3 [a0, a1, a2, a3, a4, a5, a6] (.int 0 :: st) h cn sn := bc_L rfl rfl
theorem st_L_together_3 : bc d M_L_together scr 3 [some (.ref p), a1, a2, a3, a4, a5, a6] st h cn sn = bc d M_L_together scr 4 [some (.ref p), a1, a2, a3, a4, a5, a6] (.ref p :: st) h cn sn := bc_lda1 rfl rfl
theorem st_L_together_4 : bc d M_L_together scr 4 [a0, some (.int x), a2, a3, a4, a5, a6] st h cn sn = bc d M_L_together scr 5 [a0, some (.int x), a2, a3, a4, a5, a6] (.int x :: st) h cn sn := bc_ldi1 rfl rfl
theorem st_L_together_5 : bc d M_L_together scr 5 [a0, a1, some (.int x), a3, a4, a5, a6] st h cn sn = bc d M_L_together scr 6 [a0, a1, some (.int x), a3, a4, a5, a6] (.int x :: st) h cn sn := bc_ldi1 rfl rfl
theorem st_L_together_6 : bc d M_L_together scr 6 [a0, a1, a2, some (.int x), a4, a5, a6] st h cn sn = bc d M_L_together scr 7 [a0, a1, a2, some (.int x), a4, a5, a6] (.int x :: st) h cn sn := bc_ldi1 rfl rfl
theorem st_L_together_7 : bc d M_L_together scr 7 [a0, a1, a2, a3, some (.int x), a5, a6] st h cn sn = bc d M_L_together scr 9 [a0, a1, a2, a3, some (.int x), a5, a6] (.int x :: st) h cn sn := bc_ldi2 rfl rfl
theorem st_L_together_12 : bc d M_L_together scr 12 [a0, a1, a2, a3, a4, a5, a6] (.int x :: st) h cn sn = bc d M_L_together scr 13 [a0, a1, a2, a3, a4, a5, a6] (.long x.toInt64 :: st) h cn sn := bc_L rfl rfl
theorem st_L_together_13 : bc d M_L_together scr 13 [a0, a1, a2, a3, a4, a5, a6] st h cn sn = bM (px_lst 13 st h) (fun p s g => bc d M_L_together scr p [a0, a1, a2, a3, a4, a5, a6] s g cn sn) := bc_M (en := (.lastore, 1, 0, 0, 0, .null)) rfl rfl rfl rfl rfl rfl px_I_ls
theorem st_L_together_14 : bc d M_L_together scr 14 [a0, a1, a2, a3, a4, a5, a6] st h cn sn = bc d M_L_together scr 25 [a0, a1, a2, a3, a4, a5, a6] st h cn sn := bc_L rfl rfl
theorem st_L_together_17 : bc d M_L_together scr 17 [a0, a1, a2, a3, a4, a5, a6] (.ref p :: st) h cn sn = bc d M_L_together scr 19 [a0, a1, a2, a3, a4, lc_c2 a5, some (.ref p)] st h cn sn := bc_Ls1 (en := (.astore 6, 2, 0, 0, 0, .null)) (vs := [a0, a1, a2, a3, a4, a5, a6]) (i := 6) (v := .ref p) rfl rfl rfl
theorem st_L_together_17t : bc d M_L_together scr 17 [a0, a1, a2, a3, a4, a5, a6] (.float t :: st) h cn sn = bc d M_L_together scr 19 [a0, a1, a2, a3, a4, lc_c2 a5, some (.float t)] st h cn sn := bc_Ls1 (en := (.astore 6, 2, 0, 0, 0, .null)) (vs := [a0, a1, a2, a3, a4, a5, a6]) (i := 6) (v := .float t) rfl rfl rfl
theorem st_L_together_19 : bc d M_L_together scr 19 [a0, a1, a2, a3, a4, a5, a6] st h cn sn = bc d M_L_together scr 20 [a0, a1, a2, a3, a4, a5, a6] (.int 1 :: st) h cn sn := bc_L rfl rfl
theorem st_L_together_20 : bc d M_L_together scr 20 [a0, a1, a2, a3, a4, a5, a6] [.int x] h cn sn = some (.inl (some (.int x)), h, cn, sn) := bc_E rfl rfl rfl rfl rfl rfl rfl
theorem st_L_together_21 : bc d M_L_together scr 21 [a0, a1, a2, a3, a4, a5, a6] (.ref p :: st) h cn sn = bc d M_L_together scr 23 [a0, a1, a2, a3, a4, lc_c2 a5, some (.ref p)] st h cn sn := bc_Ls1 (en := (.astore 6, 2, 0, 0, 0, .null)) (vs := [a0, a1, a2, a3, a4, a5, a6]) (i := 6) (v := .ref p) rfl rfl rfl
theorem st_L_together_21t : bc d M_L_together scr 21 [a0, a1, a2, a3, a4, a5, a6] (.float t :: st) h cn sn = bc d M_L_together scr 23 [a0, a1, a2, a3, a4, lc_c2 a5, some (.float t)] st h cn sn := bc_Ls1 (en := (.astore 6, 2, 0, 0, 0, .null)) (vs := [a0, a1, a2, a3, a4, a5, a6]) (i := 6) (v := .float t) rfl rfl rfl
theorem st_L_together_23 : bc d M_L_together scr 23 [a0, a1, a2, a3, a4, a5, a6] st h cn sn = bc d M_L_together scr 24 [a0, a1, a2, a3, a4, a5, a6] (.int 2 :: st) h cn sn := bc_L rfl rfl
theorem st_L_together_24 : bc d M_L_together scr 24 [a0, a1, a2, a3, a4, a5, a6] [.int x] h cn sn = some (.inl (some (.int x)), h, cn, sn) := bc_E rfl rfl rfl rfl rfl rfl rfl
theorem st_L_together_25 : bc d M_L_together scr 25 [a0, a1, a2, a3, a4, a5, a6] st h cn sn = bc d M_L_together scr 26 [a0, a1, a2, a3, a4, a5, a6] (.int 0 :: st) h cn sn := bc_L rfl rfl
theorem st_L_together_26 : bc d M_L_together scr 26 [a0, a1, a2, a3, a4, a5, a6] [.int x] h cn sn = some (.inl (some (.int x)), h, cn, sn) := bc_E rfl rfl rfl rfl rfl rfl rfl
theorem st_L_chalk_0 : bc d M_L_chalk scr 0 [a0, a1, some (.ref p), a3] st h cn sn = bc d M_L_chalk scr 1 [a0, a1, some (.ref p), a3] (.ref p :: st) h cn sn := bc_lda1 rfl rfl
theorem st_L_chalk_1 : bc d M_L_chalk scr 1 [a0, a1, a2, a3] st h cn sn = bc d M_L_chalk scr 2 [a0, a1, a2, a3] (.int 0 :: st) h cn sn := bc_L rfl rfl
theorem st_L_chalk_2 : bc d M_L_chalk scr 2 [some (.ref p), a1, a2, a3] st h cn sn = bc d M_L_chalk scr 3 [some (.ref p), a1, a2, a3] (.ref p :: st) h cn sn := bc_lda1 rfl rfl
theorem st_L_chalk_3 : bc d M_L_chalk scr 3 [a0, some (.int x), a2, a3] st h cn sn = bc d M_L_chalk scr 4 [a0, some (.int x), a2, a3] (.int x :: st) h cn sn := bc_ldi1 rfl rfl
theorem st_L_chalk_7 : bc d M_L_chalk scr 7 [a0, a1, a2, a3] (.int x :: st) h cn sn = bc d M_L_chalk scr 8 [a0, a1, a2, a3] (.long x.toInt64 :: st) h cn sn := bc_L rfl rfl
theorem st_L_chalk_8 : bc d M_L_chalk scr 8 [a0, a1, a2, a3] st h cn sn = bM (px_lst 8 st h) (fun p s g => bc d M_L_chalk scr p [a0, a1, a2, a3] s g cn sn) := bc_M (en := (.lastore, 1, 0, 0, 0, .null)) rfl rfl rfl rfl rfl rfl px_I_ls
theorem st_L_chalk_9 : bc d M_L_chalk scr 9 [a0, a1, a2, a3] st h cn sn = bc d M_L_chalk scr 15 [a0, a1, a2, a3] st h cn sn := bc_L rfl rfl
theorem st_L_chalk_12 : bc d M_L_chalk scr 12 [a0, a1, a2, a3] (.ref p :: st) h cn sn = bc d M_L_chalk scr 13 [a0, a1, lc_c2 a2, some (.ref p)] st h cn sn := bc_Ls1 (en := (.astore_n 3, 1, 0, 0, 0, .null)) (vs := [a0, a1, a2, a3]) (i := 3) (v := .ref p) rfl rfl rfl
theorem st_L_chalk_12t : bc d M_L_chalk scr 12 [a0, a1, a2, a3] (.float t :: st) h cn sn = bc d M_L_chalk scr 13 [a0, a1, lc_c2 a2, some (.float t)] st h cn sn := bc_Ls1 (en := (.astore_n 3, 1, 0, 0, 0, .null)) (vs := [a0, a1, a2, a3]) (i := 3) (v := .float t) rfl rfl rfl
theorem st_L_chalk_13 : bc d M_L_chalk scr 13 [a0, a1, a2, a3] st h cn sn = bc d M_L_chalk scr 14 [a0, a1, a2, a3] (.int 1 :: st) h cn sn := bc_L rfl rfl
theorem st_L_chalk_14 : bc d M_L_chalk scr 14 [a0, a1, a2, a3] [.int x] h cn sn = some (.inl (some (.int x)), h, cn, sn) := bc_E rfl rfl rfl rfl rfl rfl rfl
theorem st_L_chalk_15 : bc d M_L_chalk scr 15 [a0, a1, a2, a3] st h cn sn = bc d M_L_chalk scr 16 [a0, a1, a2, a3] (.int 0 :: st) h cn sn := bc_L rfl rfl
theorem st_L_chalk_16 : bc d M_L_chalk scr 16 [a0, a1, a2, a3] [.int x] h cn sn = some (.inl (some (.int x)), h, cn, sn) := bc_E rfl rfl rfl rfl rfl rfl rfl
theorem st_L_listen_0 : bc d M_L_listen scr 0 [a0, a1, some (.ref p), a3] st h cn sn = bc d M_L_listen scr 1 [a0, a1, some (.ref p), a3] (.ref p :: st) h cn sn := bc_lda1 rfl rfl
theorem st_L_listen_1 : bc d M_L_listen scr 1 [a0, a1, a2, a3] st h cn sn = bc d M_L_listen scr 2 [a0, a1, a2, a3] (.int 0 :: st) h cn sn := bc_L rfl rfl
theorem st_L_listen_2 : bc d M_L_listen scr 2 [some (.ref p), a1, a2, a3] st h cn sn = bc d M_L_listen scr 3 [some (.ref p), a1, a2, a3] (.ref p :: st) h cn sn := bc_lda1 rfl rfl
theorem st_L_listen_3 : bc d M_L_listen scr 3 [a0, some (.int x), a2, a3] st h cn sn = bc d M_L_listen scr 4 [a0, some (.int x), a2, a3] (.int x :: st) h cn sn := bc_ldi1 rfl rfl
theorem st_L_listen_7 : bc d M_L_listen scr 7 [a0, a1, a2, a3] (.int x :: st) h cn sn = bc d M_L_listen scr 8 [a0, a1, a2, a3] (.long x.toInt64 :: st) h cn sn := bc_L rfl rfl
theorem st_L_listen_8 : bc d M_L_listen scr 8 [a0, a1, a2, a3] st h cn sn = bM (px_lst 8 st h) (fun p s g => bc d M_L_listen scr p [a0, a1, a2, a3] s g cn sn) := bc_M (en := (.lastore, 1, 0, 0, 0, .null)) rfl rfl rfl rfl rfl rfl px_I_ls
theorem st_L_listen_9 : bc d M_L_listen scr 9 [a0, a1, a2, a3] st h cn sn = bc d M_L_listen scr 15 [a0, a1, a2, a3] st h cn sn := bc_L rfl rfl
theorem st_L_listen_12 : bc d M_L_listen scr 12 [a0, a1, a2, a3] (.ref p :: st) h cn sn = bc d M_L_listen scr 13 [a0, a1, lc_c2 a2, some (.ref p)] st h cn sn := bc_Ls1 (en := (.astore_n 3, 1, 0, 0, 0, .null)) (vs := [a0, a1, a2, a3]) (i := 3) (v := .ref p) rfl rfl rfl
theorem st_L_listen_12t : bc d M_L_listen scr 12 [a0, a1, a2, a3] (.float t :: st) h cn sn = bc d M_L_listen scr 13 [a0, a1, lc_c2 a2, some (.float t)] st h cn sn := bc_Ls1 (en := (.astore_n 3, 1, 0, 0, 0, .null)) (vs := [a0, a1, a2, a3]) (i := 3) (v := .float t) rfl rfl rfl
theorem st_L_listen_13 : bc d M_L_listen scr 13 [a0, a1, a2, a3] st h cn sn = bc d M_L_listen scr 14 [a0, a1, a2, a3] (.int 1 :: st) h cn sn := bc_L rfl rfl
theorem st_L_listen_14 : bc d M_L_listen scr 14 [a0, a1, a2, a3] [.int x] h cn sn = some (.inl (some (.int x)), h, cn, sn) := bc_E rfl rfl rfl rfl rfl rfl rfl
theorem st_L_listen_15 : bc d M_L_listen scr 15 [a0, a1, a2, a3] st h cn sn = bc d M_L_listen scr 16 [a0, a1, a2, a3] (.int 0 :: st) h cn sn := bc_L rfl rfl
theorem st_L_listen_16 : bc d M_L_listen scr 16 [a0, a1, a2, a3] [.int x] h cn sn = some (.inl (some (.int x)), h, cn, sn) := bc_E rfl rfl rfl rfl rfl rfl rfl
theorem st_L_game_0 : bc d M_L_game scr 0 [a0, a1, a2, a3, some (.ref p), a5] st h cn sn = bc d M_L_game scr 2 [a0, a1, a2, a3, some (.ref p), a5] (.ref p :: st) h cn sn := bc_lda2 rfl rfl
theorem st_L_game_2 : bc d M_L_game scr 2 [a0, a1, a2, a3, a4, a5] st h cn sn = bc d M_L_game scr 3 [a0, a1, a2, a3, a4, a5] (.int 0 :: st) h cn sn := bc_L rfl rfl
theorem st_L_game_3 : bc d M_L_game scr 3 [some (.ref p), a1, a2, a3, a4, a5] st h cn sn = bc d M_L_game scr 4 [some (.ref p), a1, a2, a3, a4, a5] (.ref p :: st) h cn sn := bc_lda1 rfl rfl
theorem st_L_game_4 : bc d M_L_game scr 4 [a0, some (.int x), a2, a3, a4, a5] st h cn sn = bc d M_L_game scr 5 [a0, some (.int x), a2, a3, a4, a5] (.int x :: st) h cn sn := bc_ldi1 rfl rfl
theorem st_L_game_5 : bc d M_L_game scr 5 [a0, a1, some (.int x), a3, a4, a5] st h cn sn = bc d M_L_game scr 6 [a0, a1, some (.int x), a3, a4, a5] (.int x :: st) h cn sn := bc_ldi1 rfl rfl
theorem st_L_game_6 : bc d M_L_game scr 6 [a0, a1, a2, some (.int x), a4, a5] st h cn sn = bc d M_L_game scr 7 [a0, a1, a2, some (.int x), a4, a5] (.int x :: st) h cn sn := bc_ldi1 rfl rfl
theorem st_L_game_10 : bc d M_L_game scr 10 [a0, a1, a2, a3, a4, a5] (.int x :: st) h cn sn = bc d M_L_game scr 11 [a0, a1, a2, a3, a4, a5] (.long x.toInt64 :: st) h cn sn := bc_L rfl rfl
theorem st_L_game_11 : bc d M_L_game scr 11 [a0, a1, a2, a3, a4, a5] st h cn sn = bM (px_lst 11 st h) (fun p s g => bc d M_L_game scr p [a0, a1, a2, a3, a4, a5] s g cn sn) := bc_M (en := (.lastore, 1, 0, 0, 0, .null)) rfl rfl rfl rfl rfl rfl px_I_ls
theorem st_L_game_12 : bc d M_L_game scr 12 [a0, a1, a2, a3, a4, a5] st h cn sn = bc d M_L_game scr 23 [a0, a1, a2, a3, a4, a5] st h cn sn := bc_L rfl rfl
theorem st_L_game_15 : bc d M_L_game scr 15 [a0, a1, a2, a3, a4, a5] (.ref p :: st) h cn sn = bc d M_L_game scr 17 [a0, a1, a2, a3, lc_c2 a4, some (.ref p)] st h cn sn := bc_Ls1 (en := (.astore 5, 2, 0, 0, 0, .null)) (vs := [a0, a1, a2, a3, a4, a5]) (i := 5) (v := .ref p) rfl rfl rfl
theorem st_L_game_15t : bc d M_L_game scr 15 [a0, a1, a2, a3, a4, a5] (.float t :: st) h cn sn = bc d M_L_game scr 17 [a0, a1, a2, a3, lc_c2 a4, some (.float t)] st h cn sn := bc_Ls1 (en := (.astore 5, 2, 0, 0, 0, .null)) (vs := [a0, a1, a2, a3, a4, a5]) (i := 5) (v := .float t) rfl rfl rfl
theorem st_L_game_17 : bc d M_L_game scr 17 [a0, a1, a2, a3, a4, a5] st h cn sn = bc d M_L_game scr 18 [a0, a1, a2, a3, a4, a5] (.int 1 :: st) h cn sn := bc_L rfl rfl
theorem st_L_game_18 : bc d M_L_game scr 18 [a0, a1, a2, a3, a4, a5] [.int x] h cn sn = some (.inl (some (.int x)), h, cn, sn) := bc_E rfl rfl rfl rfl rfl rfl rfl
theorem st_L_game_19 : bc d M_L_game scr 19 [a0, a1, a2, a3, a4, a5] (.ref p :: st) h cn sn = bc d M_L_game scr 21 [a0, a1, a2, a3, lc_c2 a4, some (.ref p)] st h cn sn := bc_Ls1 (en := (.astore 5, 2, 0, 0, 0, .null)) (vs := [a0, a1, a2, a3, a4, a5]) (i := 5) (v := .ref p) rfl rfl rfl
theorem st_L_game_19t : bc d M_L_game scr 19 [a0, a1, a2, a3, a4, a5] (.float t :: st) h cn sn = bc d M_L_game scr 21 [a0, a1, a2, a3, lc_c2 a4, some (.float t)] st h cn sn := bc_Ls1 (en := (.astore 5, 2, 0, 0, 0, .null)) (vs := [a0, a1, a2, a3, a4, a5]) (i := 5) (v := .float t) rfl rfl rfl
theorem st_L_game_21 : bc d M_L_game scr 21 [a0, a1, a2, a3, a4, a5] st h cn sn = bc d M_L_game scr 22 [a0, a1, a2, a3, a4, a5] (.int 2 :: st) h cn sn := bc_L rfl rfl
theorem st_L_game_22 : bc d M_L_game scr 22 [a0, a1, a2, a3, a4, a5] [.int x] h cn sn = some (.inl (some (.int x)), h, cn, sn) := bc_E rfl rfl rfl rfl rfl rfl rfl
theorem st_L_game_23 : bc d M_L_game scr 23 [a0, a1, a2, a3, a4, a5] st h cn sn = bc d M_L_game scr 24 [a0, a1, a2, a3, a4, a5] (.int 0 :: st) h cn sn := bc_L rfl rfl
theorem st_L_game_24 : bc d M_L_game scr 24 [a0, a1, a2, a3, a4, a5] [.int x] h cn sn = some (.inl (some (.int x)), h, cn, sn) := bc_E rfl rfl rfl rfl rfl rfl rfl
theorem st_L_evening_0 : bc d M_L_evening scr 0 [a0, a1, a2, a3, some (.ref p), a5] st h cn sn = bc d M_L_evening scr 2 [a0, a1, a2, a3, some (.ref p), a5] (.ref p :: st) h cn sn := bc_lda2 rfl rfl
theorem st_L_evening_2 : bc d M_L_evening scr 2 [a0, a1, a2, a3, a4, a5] st h cn sn = bc d M_L_evening scr 3 [a0, a1, a2, a3, a4, a5] (.int 0 :: st) h cn sn := bc_L rfl rfl
theorem st_L_evening_3 : bc d M_L_evening scr 3 [some (.ref p), a1, a2, a3, a4, a5] st h cn sn = bc d M_L_evening scr 4 [some (.ref p), a1, a2, a3, a4, a5] (.ref p :: st) h cn sn := bc_lda1 rfl rfl
theorem st_L_evening_4 : bc d M_L_evening scr 4 [a0, some (.int x), a2, a3, a4, a5] st h cn sn = bc d M_L_evening scr 5 [a0, some (.int x), a2, a3, a4, a5] (.int x :: st) h cn sn := bc_ldi1 rfl rfl
theorem st_L_evening_5 : bc d M_L_evening scr 5 [a0, a1, some (.int x), a3, a4, a5] st h cn sn = bc d M_L_evening scr 6 [a0, a1, some (.int x), a3, a4, a5] (.int x :: st) h cn sn := bc_ldi1 rfl rfl
theorem st_L_evening_6 : bc d M_L_evening scr 6 [a0, a1, a2, some (.int x), a4, a5] st h cn sn = bc d M_L_evening scr 7 [a0, a1, a2, some (.int x), a4, a5] (.int x :: st) h cn sn := bc_ldi1 rfl rfl
theorem st_L_evening_10 : bc d M_L_evening scr 10 [a0, a1, a2, a3, a4, a5] (.int x :: st) h cn sn = bc d M_L_evening scr 11 [a0, a1, a2, a3, a4, a5] (.long x.toInt64 :: st) h cn sn := bc_L rfl rfl
theorem st_L_evening_11 : bc d M_L_evening scr 11 [a0, a1, a2, a3, a4, a5] st h cn sn = bM (px_lst 11 st h) (fun p s g => bc d M_L_evening scr p [a0, a1, a2, a3, a4, a5] s g cn sn) := bc_M (en := (.lastore, 1, 0, 0, 0, .null)) rfl rfl rfl rfl rfl rfl px_I_ls
theorem st_L_evening_12 : bc d M_L_evening scr 12 [a0, a1, a2, a3, a4, a5] st h cn sn = bc d M_L_evening scr 23 [a0, a1, a2, a3, a4, a5] st h cn sn := bc_L rfl rfl
theorem st_L_evening_15 : bc d M_L_evening scr 15 [a0, a1, a2, a3, a4, a5] (.ref p :: st) h cn sn = bc d M_L_evening scr 17 [a0, a1, a2, a3, lc_c2 a4, some (.ref p)] st h cn sn := bc_Ls1 (en := (.astore 5, 2, 0, 0, 0, .null)) (vs := [a0, a1, a2, a3, a4, a5]) (i := 5) (v := .ref p) rfl rfl rfl
theorem st_L_evening_15t : bc d M_L_evening scr 15 [a0, a1, a2, a3, a4, a5] (.float t :: st) h cn sn = bc d M_L_evening scr 17 [a0, a1, a2, a3, lc_c2 a4, some (.float t)] st h cn sn := bc_Ls1 (en := (.astore 5, 2, 0, 0, 0, .null)) (vs := [a0, a1, a2, a3, a4, a5]) (i := 5) (v := .float t) rfl rfl rfl
theorem st_L_evening_17 : bc d M_L_evening scr 17 [a0, a1, a2, a3, a4, a5] st h cn sn = bc d M_L_evening scr 18 [a0, a1, a2, a3, a4, a5] (.int 1 :: st) h cn sn := bc_L rfl rfl
theorem st_L_evening_18 : bc d M_L_evening scr 18 [a0, a1, a2, a3, a4, a5] [.int x] h cn sn = some (.inl (some (.int x)), h, cn, sn) := bc_E rfl rfl rfl rfl rfl rfl rfl
theorem st_L_evening_19 : bc d M_L_evening scr 19 [a0, a1, a2, a3, a4, a5] (.ref p :: st) h cn sn = bc d M_L_evening scr 21 [a0, a1, a2, a3, lc_c2 a4, some (.ref p)] st h cn sn := bc_Ls1 (en := (.astore 5, 2, 0, 0, 0, .null)) (vs := [a0, a1, a2, a3, a4, a5]) (i := 5) (v := .ref p) rfl rfl rfl
theorem st_L_evening_19t : bc d M_L_evening scr 19 [a0, a1, a2, a3, a4, a5] (.float t :: st) h cn sn = bc d M_L_evening scr 21 [a0, a1, a2, a3, lc_c2 a4, some (.float t)] st h cn sn := bc_Ls1 (en := (.astore 5, 2, 0, 0, 0, .null)) (vs := [a0, a1, a2, a3, a4, a5]) (i := 5) (v := .float t) rfl rfl rfl
theorem st_L_evening_21 : bc d M_L_evening scr 21 [a0, a1, a2, a3, a4, a5] st h cn sn = bc d M_L_evening scr 22 [a0, a1, a2, a3, a4, a5] (.int 2 :: st) h cn sn := bc_L rfl rfl
theorem st_L_evening_22 : bc d M_L_evening scr 22 [a0, a1, a2, a3, a4, a5] [.int x] h cn sn = some (.inl (some (.int x)), h, cn, sn) := bc_E rfl rfl rfl rfl rfl rfl rfl
theorem st_L_evening_23 : bc d M_L_evening scr 23 [a0, a1, a2, a3, a4, a5] st h cn sn = bc d M_L_evening scr 24 [a0, a1, a2, a3, a4, a5] (.int 0 :: st) h cn sn := bc_L rfl rfl
theorem st_L_evening_24 : bc d M_L_evening scr 24 [a0, a1, a2, a3, a4, a5] [.int x] h cn sn = some (.inl (some (.int x)), h, cn, sn) := bc_E rfl rfl rfl rfl rfl rfl rfl
end STEPS
