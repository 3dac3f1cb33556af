/-! ===== printed by wip/whole/steps.py: steps of methods as equations ===== -/
section STEPS
variable {d : Nat} {scr : Option (Nat × (Nat → Int32))} {st : List Value} {h : px_H} {cn sn : Nat} {x y z x3 x4 x5 x6 x7 x8 x9 x10 x11 x12 x13 x14 : Int32} {u w u3 u4 : Int64} {p p1 p2 p3 p4 p5 p6 p7 : Nat} {t : UInt32} {a0 a1 a2 a3 a4 a5 a6 a7 a8 a9 a10 a11 a12 a13 a14 a15 a16 a17 : Option Value}
set_option maxRecDepth 20000 in
theorem st_L_law_3 : bc d M_L_law scr 3 [a0, a1, a2, a3, a4, a5, a6] (.int x :: st) h cn sn = bc d M_L_law scr 4 [a0, a1, a2, a3, a4, a5, a6] (.int x :: .int x :: st) h cn sn := bc_L rfl rfl
set_option maxRecDepth 20000 in
theorem st_L_law_3r : bc d M_L_law scr 3 [a0, a1, a2, a3, a4, a5, a6] (.ref p :: st) h cn sn = bc d M_L_law scr 4 [a0, a1, a2, a3, a4, a5, a6] (.ref p :: .ref p :: st) h cn sn := bc_L rfl rfl
set_option maxRecDepth 20000 in
theorem st_L_law_7 : bc d M_L_law scr 7 [a0, a1, a2, a3, a4, a5, a6] (.ref p :: st) h cn sn = bc d M_L_law scr 8 [lc_c2 a0, some (.ref p), a2, a3, a4, a5, a6] st h cn sn := bc_Ls1 (en := (.astore_n 1, 1, 0, 0, 0, .null)) (vs := [a0, a1, a2, a3, a4, a5, a6]) (i := 1) (v := .ref p) rfl rfl rfl
set_option maxRecDepth 20000 in
theorem st_L_law_7t : bc d M_L_law scr 7 [a0, a1, a2, a3, a4, a5, a6] (.float t :: st) h cn sn = bc d M_L_law scr 8 [lc_c2 a0, some (.float t), a2, a3, a4, a5, a6] st h cn sn := bc_Ls1 (en := (.astore_n 1, 1, 0, 0, 0, .null)) (vs := [a0, a1, a2, a3, a4, a5, a6]) (i := 1) (v := .float t) rfl rfl rfl
set_option maxRecDepth 20000 in
theorem st_L_law_11 : bc d M_L_law scr 11 [a0, a1, a2, a3, a4, a5, a6] (.int x :: st) h cn sn = bc d M_L_law scr 12 [a0, a1, a2, a3, a4, a5, a6] (.int x :: .int x :: st) h cn sn := bc_L rfl rfl
set_option maxRecDepth 20000 in
theorem st_L_law_11r : bc d M_L_law scr 11 [a0, a1, a2, a3, a4, a5, a6] (.ref p :: st) h cn sn = bc d M_L_law scr 12 [a0, a1, a2, a3, a4, a5, a6] (.ref p :: .ref p :: st) h cn sn := bc_L rfl rfl
set_option maxRecDepth 20000 in
theorem st_L_law_15 : bc d M_L_law scr 15 [a0, a1, a2, a3, a4, a5, a6] (.ref p :: st) h cn sn = bc d M_L_law scr 16 [a0, lc_c2 a1, some (.ref p), a3, a4, a5, a6] st h cn sn := bc_Ls1 (en := (.astore_n 2, 1, 0, 0, 0, .null)) (vs := [a0, a1, a2, a3, a4, a5, a6]) (i := 2) (v := .ref p) rfl rfl rfl
set_option maxRecDepth 20000 in
theorem st_L_law_15t : bc d M_L_law scr 15 [a0, a1, a2, a3, a4, a5, a6] (.float t :: st) h cn sn = bc d M_L_law scr 16 [a0, lc_c2 a1, some (.float t), a3, a4, a5, a6] st h cn sn := bc_Ls1 (en := (.astore_n 2, 1, 0, 0, 0, .null)) (vs := [a0, a1, a2, a3, a4, a5, a6]) (i := 2) (v := .float t) rfl rfl rfl
set_option maxRecDepth 20000 in
theorem st_L_law_16 : bc d M_L_law scr 16 [a0, a1, a2, a3, a4, a5, a6] st h cn sn = bc d M_L_law scr 17 [a0, a1, a2, a3, a4, a5, a6] (.int 1 :: st) h cn sn := bc_L rfl rfl
set_option maxRecDepth 20000 in
theorem st_L_law_19 : bc d M_L_law scr 19 [a0, a1, a2, a3, a4, a5, a6] (.ref p :: st) h cn sn = bc d M_L_law scr 20 [a0, a1, lc_c2 a2, some (.ref p), a4, a5, a6] st h cn sn := bc_Ls1 (en := (.astore_n 3, 1, 0, 0, 0, .null)) (vs := [a0, a1, a2, a3, a4, a5, a6]) (i := 3) (v := .ref p) rfl rfl rfl
set_option maxRecDepth 20000 in
theorem st_L_law_19t : bc d M_L_law scr 19 [a0, a1, a2, a3, a4, a5, a6] (.float t :: st) h cn sn = bc d M_L_law scr 20 [a0, a1, lc_c2 a2, some (.float t), a4, a5, a6] st h cn sn := bc_Ls1 (en := (.astore_n 3, 1, 0, 0, 0, .null)) (vs := [a0, a1, a2, a3, a4, a5, a6]) (i := 3) (v := .float t) rfl rfl rfl
set_option maxRecDepth 20000 in
theorem st_L_law_20 : bc d M_L_law scr 20 [a0, a1, a2, a3, a4, a5, a6] st h cn sn = bc d M_L_law scr 21 [a0, a1, a2, a3, a4, a5, a6] (.int 0 :: st) h cn sn := bc_L rfl rfl
set_option maxRecDepth 20000 in
theorem st_L_law_21 : bc d M_L_law scr 21 [a0, a1, a2, a3, a4, a5, a6] (.int x :: st) h cn sn = bc d M_L_law scr 23 [a0, a1, a2, lc_c2 a3, some (.int x), a5, a6] st h cn sn := bc_Ls1 (en := (.istore 4, 2, 0, 0, 0, .null)) (vs := [a0, a1, a2, a3, a4, a5, a6]) (i := 4) (v := .int x) rfl rfl rfl
set_option maxRecDepth 20000 in
theorem st_L_law_23 : bc d M_L_law scr 23 [a0, a1, a2, a3, some (.int x), a5, a6] st h cn sn = bc d M_L_law scr 25 [a0, a1, a2, a3, some (.int x), a5, a6] (.int x :: st) h cn sn := bc_ldi2 rfl rfl
set_option maxRecDepth 20000 in
theorem st_L_law_25 : bc d M_L_law scr 25 [some (.ref p), a1, a2, a3, a4, a5, a6] st h cn sn = bc d M_L_law scr 26 [some (.ref p), a1, a2, a3, a4, a5, a6] (.ref p :: st) h cn sn := bc_lda1 rfl rfl
set_option maxRecDepth 20000 in
theorem st_L_law_25t : bc d M_L_law scr 25 [some (.float t), a1, a2, a3, a4, a5, a6] st h cn sn = bc d M_L_law scr 26 [some (.float t), a1, a2, a3, a4, a5, a6] (.float t :: st) h cn sn := bc_ldt1 rfl rfl
set_option maxRecDepth 20000 in
theorem st_L_law_26 : bc d M_L_law scr 26 [a0, a1, a2, a3, a4, a5, a6] st h cn sn = bM (px_len scr 26 st h) (fun p s g => bc d M_L_law scr p [a0, a1, a2, a3, a4, a5, a6] s g cn sn) := bc_M (en := (.arraylength, 1, 0, 0, 0, .null)) rfl rfl rfl rfl rfl rfl px_I_ln
set_option maxRecDepth 20000 in
theorem st_L_law_27 : bc d M_L_law scr 27 [a0, a1, a2, a3, a4, a5, a6] st h cn sn = bc d M_L_law scr 29 [a0, a1, a2, a3, a4, a5, a6] (.int 6 :: st) h cn sn := bc_L rfl rfl
set_option maxRecDepth 20000 in
theorem st_L_law_29 : bc d M_L_law scr 29 [a0, a1, a2, a3, a4, a5, a6] (.int y :: .int x :: st) h cn sn = bc d M_L_law scr 30 [a0, a1, a2, a3, a4, a5, a6] (.int (x - y) :: st) h cn sn := bc_L rfl rfl
set_option maxRecDepth 20000 in
theorem st_L_law_30 : bc d M_L_law scr 30 [a0, a1, a2, a3, a4, a5, a6] (.int y :: .int x :: st) h cn sn = if y < x then bc d M_L_law scr 1946 [a0, a1, a2, a3, a4, a5, a6] st h cn sn else bc d M_L_law scr 33 [a0, a1, a2, a3, a4, a5, a6] st h cn sn := (bc_ic rfl).trans bt_gt
set_option maxRecDepth 20000 in
theorem st_L_law_33 : bc d M_L_law scr 33 [some (.ref p), a1, a2, a3, a4, a5, a6] st h cn sn = bc d M_L_law scr 34 [some (.ref p), a1, a2, a3, a4, a5, a6] (.ref p :: st) h cn sn := bc_lda1 rfl rfl
set_option maxRecDepth 20000 in
theorem st_L_law_33t : bc d M_L_law scr 33 [some (.float t), a1, a2, a3, a4, a5, a6] st h cn sn = bc d M_L_law scr 34 [some (.float t), a1, a2, a3, a4, a5, a6] (.float t :: st) h cn sn := bc_ldt1 rfl rfl
set_option maxRecDepth 20000 in
theorem st_L_law_34 : bc d M_L_law scr 34 [a0, a1, a2, a3, some (.int x), a5, a6] st h cn sn = bc d M_L_law scr 36 [a0, a1, a2, a3, some (.int x), a5, a6] (.int x :: st) h cn sn := bc_ldi2 rfl rfl
set_option maxRecDepth 20000 in
theorem st_L_law_36 : bc d M_L_law scr 36 [a0, a1, a2, a3, a4, a5, a6] st h cn sn = bM (px_ald scr 36 st h) (fun p s g => bc d M_L_law scr p [a0, a1, a2, a3, a4, a5, a6] s g cn sn) := bc_M (en := (.iaload, 1, 0, 0, 0, .null)) rfl rfl rfl rfl rfl rfl px_I_il
set_option maxRecDepth 20000 in
theorem st_L_law_37 : bc d M_L_law scr 37 [a0, a1, a2, a3, a4, a5, a6] st h cn sn = bc d M_L_law scr 39 [a0, a1, a2, a3, a4, a5, a6] (.int 63 :: st) h cn sn := bc_L rfl rfl
set_option maxRecDepth 20000 in
theorem st_L_law_39 : bc d M_L_law scr 39 [a0, a1, a2, a3, a4, a5, a6] (.int y :: .int x :: st) h cn sn = bc d M_L_law scr 40 [a0, a1, a2, a3, a4, a5, a6] (.int (x &&& y) :: st) h cn sn := bc_L rfl rfl
set_option maxRecDepth 20000 in
theorem st_L_law_188 : bc d M_L_law scr 188 [a0, some (.ref p), a2, a3, a4, a5, a6] st h cn sn = bc d M_L_law scr 189 [a0, some (.ref p), a2, a3, a4, a5, a6] (.ref p :: st) h cn sn := bc_lda1 rfl rfl
set_option maxRecDepth 20000 in
theorem st_L_law_188t : bc d M_L_law scr 188 [a0, some (.float t), a2, a3, a4, a5, a6] st h cn sn = bc d M_L_law scr 189 [a0, some (.float t), a2, a3, a4, a5, a6] (.float t :: st) h cn sn := bc_ldt1 rfl rfl
set_option maxRecDepth 20000 in
theorem st_L_law_189 : bc d M_L_law scr 189 [some (.ref p), a1, a2, a3, a4, a5, a6] st h cn sn = bc d M_L_law scr 190 [some (.ref p), a1, a2, a3, a4, a5, a6] (.ref p :: st) h cn sn := bc_lda1 rfl rfl
set_option maxRecDepth 20000 in
theorem st_L_law_189t : bc d M_L_law scr 189 [some (.float t), a1, a2, a3, a4, a5, a6] st h cn sn = bc d M_L_law scr 190 [some (.float t), a1, a2, a3, a4, a5, a6] (.float t :: st) h cn sn := bc_ldt1 rfl rfl
set_option maxRecDepth 20000 in
theorem st_L_law_190 : bc d M_L_law scr 190 [a0, a1, a2, a3, some (.int x), a5, a6] st h cn sn = bc d M_L_law scr 192 [a0, a1, a2, a3, some (.int x), a5, a6] (.int x :: st) h cn sn := bc_ldi2 rfl rfl
set_option maxRecDepth 20000 in
theorem st_L_law_192 : bc d M_L_law scr 192 [a0, a1, a2, a3, a4, a5, a6] st h cn sn = bc d M_L_law scr 193 [a0, a1, a2, a3, a4, a5, a6] (.int 1 :: st) h cn sn := bc_L rfl rfl
set_option maxRecDepth 20000 in
theorem st_L_law_193 : bc d M_L_law scr 193 [a0, a1, a2, a3, a4, a5, a6] (.int y :: .int x :: st) h cn sn = bc d M_L_law scr 194 [a0, a1, a2, a3, a4, a5, a6] (.int (x + y) :: st) h cn sn := bc_L rfl rfl
set_option maxRecDepth 20000 in
theorem st_L_law_194 : bc d M_L_law scr 194 [a0, a1, a2, a3, a4, a5, a6] st h cn sn = bM (px_ald scr 194 st h) (fun p s g => bc d M_L_law scr p [a0, a1, a2, a3, a4, a5, a6] s g cn sn) := bc_M (en := (.iaload, 1, 0, 0, 0, .null)) rfl rfl rfl rfl rfl rfl px_I_il
set_option maxRecDepth 20000 in
theorem st_L_law_195 : bc d M_L_law scr 195 [some (.ref p), a1, a2, a3, a4, a5, a6] st h cn sn = bc d M_L_law scr 196 [some (.ref p), a1, a2, a3, a4, a5, a6] (.ref p :: st) h cn sn := bc_lda1 rfl rfl
set_option maxRecDepth 20000 in
theorem st_L_law_195t : bc d M_L_law scr 195 [some (.float t), a1, a2, a3, a4, a5, a6] st h cn sn = bc d M_L_law scr 196 [some (.float t), a1, a2, a3, a4, a5, a6] (.float t :: st) h cn sn := bc_ldt1 rfl rfl
set_option maxRecDepth 20000 in
theorem st_L_law_196 : bc d M_L_law scr 196 [a0, a1, a2, a3, some (.int x), a5, a6] st h cn sn = bc d M_L_law scr 198 [a0, a1, a2, a3, some (.int x), a5, a6] (.int x :: st) h cn sn := bc_ldi2 rfl rfl
set_option maxRecDepth 20000 in
theorem st_L_law_198 : bc d M_L_law scr 198 [a0, a1, a2, a3, a4, a5, a6] st h cn sn = bc d M_L_law scr 199 [a0, a1, a2, a3, a4, a5, a6] (.int 2 :: st) h cn sn := bc_L rfl rfl
set_option maxRecDepth 20000 in
theorem st_L_law_199 : bc d M_L_law scr 199 [a0, a1, a2, a3, a4, a5, a6] (.int y :: .int x :: st) h cn sn = bc d M_L_law scr 200 [a0, a1, a2, a3, a4, a5, a6] (.int (x + y) :: st) h cn sn := bc_L rfl rfl
set_option maxRecDepth 20000 in
theorem st_L_law_200 : bc d M_L_law scr 200 [a0, a1, a2, a3, a4, a5, a6] st h cn sn = bM (px_ald scr 200 st h) (fun p s g => bc d M_L_law scr p [a0, a1, a2, a3, a4, a5, a6] s g cn sn) := bc_M (en := (.iaload, 1, 0, 0, 0, .null)) rfl rfl rfl rfl rfl rfl px_I_il
set_option maxRecDepth 20000 in
theorem st_L_law_201 : bc d M_L_law scr 201 [some (.ref p), a1, a2, a3, a4, a5, a6] st h cn sn = bc d M_L_law scr 202 [some (.ref p), a1, a2, a3, a4, a5, a6] (.ref p :: st) h cn sn := bc_lda1 rfl rfl
set_option maxRecDepth 20000 in
theorem st_L_law_201t : bc d M_L_law scr 201 [some (.float t), a1, a2, a3, a4, a5, a6] st h cn sn = bc d M_L_law scr 202 [some (.float t), a1, a2, a3, a4, a5, a6] (.float t :: st) h cn sn := bc_ldt1 rfl rfl
set_option maxRecDepth 20000 in
theorem st_L_law_202 : bc d M_L_law scr 202 [a0, a1, a2, a3, some (.int x), a5, a6] st h cn sn = bc d M_L_law scr 204 [a0, a1, a2, a3, some (.int x), a5, a6] (.int x :: st) h cn sn := bc_ldi2 rfl rfl
set_option maxRecDepth 20000 in
theorem st_L_law_204 : bc d M_L_law scr 204 [a0, a1, a2, a3, a4, a5, a6] st h cn sn = bc d M_L_law scr 205 [a0, a1, a2, a3, a4, a5, a6] (.int 3 :: st) h cn sn := bc_L rfl rfl
set_option maxRecDepth 20000 in
theorem st_L_law_205 : bc d M_L_law scr 205 [a0, a1, a2, a3, a4, a5, a6] (.int y :: .int x :: st) h cn sn = bc d M_L_law scr 206 [a0, a1, a2, a3, a4, a5, a6] (.int (x + y) :: st) h cn sn := bc_L rfl rfl
set_option maxRecDepth 20000 in
theorem st_L_law_206 : bc d M_L_law scr 206 [a0, a1, a2, a3, a4, a5, a6] st h cn sn = bM (px_ald scr 206 st h) (fun p s g => bc d M_L_law scr p [a0, a1, a2, a3, a4, a5, a6] s g cn sn) := bc_M (en := (.iaload, 1, 0, 0, 0, .null)) rfl rfl rfl rfl rfl rfl px_I_il
set_option maxRecDepth 20000 in
theorem st_L_law_207 : bc d M_L_law scr 207 [some (.ref p), a1, a2, a3, a4, a5, a6] st h cn sn = bc d M_L_law scr 208 [some (.ref p), a1, a2, a3, a4, a5, a6] (.ref p :: st) h cn sn := bc_lda1 rfl rfl
set_option maxRecDepth 20000 in
theorem st_L_law_207t : bc d M_L_law scr 207 [some (.float t), a1, a2, a3, a4, a5, a6] st h cn sn = bc d M_L_law scr 208 [some (.float t), a1, a2, a3, a4, a5, a6] (.float t :: st) h cn sn := bc_ldt1 rfl rfl
set_option maxRecDepth 20000 in
theorem st_L_law_208 : bc d M_L_law scr 208 [a0, a1, a2, a3, some (.int x), a5, a6] st h cn sn = bc d M_L_law scr 210 [a0, a1, a2, a3, some (.int x), a5, a6] (.int x :: st) h cn sn := bc_ldi2 rfl rfl
set_option maxRecDepth 20000 in
theorem st_L_law_210 : bc d M_L_law scr 210 [a0, a1, a2, a3, a4, a5, a6] st h cn sn = bc d M_L_law scr 211 [a0, a1, a2, a3, a4, a5, a6] (.int 4 :: st) h cn sn := bc_L rfl rfl
set_option maxRecDepth 20000 in
theorem st_L_law_211 : bc d M_L_law scr 211 [a0, a1, a2, a3, a4, a5, a6] (.int y :: .int x :: st) h cn sn = bc d M_L_law scr 212 [a0, a1, a2, a3, a4, a5, a6] (.int (x + y) :: st) h cn sn := bc_L rfl rfl
set_option maxRecDepth 20000 in
theorem st_L_law_212 : bc d M_L_law scr 212 [a0, a1, a2, a3, a4, a5, a6] st h cn sn = bM (px_ald scr 212 st h) (fun p s g => bc d M_L_law scr p [a0, a1, a2, a3, a4, a5, a6] s g cn sn) := bc_M (en := (.iaload, 1, 0, 0, 0, .null)) rfl rfl rfl rfl rfl rfl px_I_il
set_option maxRecDepth 20000 in
theorem st_L_law_213 : bc d M_L_law scr 213 [some (.ref p), a1, a2, a3, a4, a5, a6] st h cn sn = bc d M_L_law scr 214 [some (.ref p), a1, a2, a3, a4, a5, a6] (.ref p :: st) h cn sn := bc_lda1 rfl rfl
set_option maxRecDepth 20000 in
theorem st_L_law_213t : bc d M_L_law scr 213 [some (.float t), a1, a2, a3, a4, a5, a6] st h cn sn = bc d M_L_law scr 214 [some (.float t), a1, a2, a3, a4, a5, a6] (.float t :: st) h cn sn := bc_ldt1 rfl rfl
set_option maxRecDepth 20000 in
theorem st_L_law_214 : bc d M_L_law scr 214 [a0, a1, a2, a3, some (.int x), a5, a6] st h cn sn = bc d M_L_law scr 216 [a0, a1, a2, a3, some (.int x), a5, a6] (.int x :: st) h cn sn := bc_ldi2 rfl rfl
set_option maxRecDepth 20000 in
theorem st_L_law_216 : bc d M_L_law scr 216 [a0, a1, a2, a3, a4, a5, a6] st h cn sn = bc d M_L_law scr 217 [a0, a1, a2, a3, a4, a5, a6] (.int 5 :: st) h cn sn := bc_L rfl rfl
set_option maxRecDepth 20000 in
theorem st_L_law_217 : bc d M_L_law scr 217 [a0, a1, a2, a3, a4, a5, a6] (.int y :: .int x :: st) h cn sn = bc d M_L_law scr 218 [a0, a1, a2, a3, a4, a5, a6] (.int (x + y) :: st) h cn sn := bc_L rfl rfl
set_option maxRecDepth 20000 in
theorem st_L_law_218 : bc d M_L_law scr 218 [a0, a1, a2, a3, a4, a5, a6] st h cn sn = bM (px_ald scr 218 st h) (fun p s g => bc d M_L_law scr p [a0, a1, a2, a3, a4, a5, a6] s g cn sn) := bc_M (en := (.iaload, 1, 0, 0, 0, .null)) rfl rfl rfl rfl rfl rfl px_I_il
set_option maxRecDepth 20000 in
theorem st_L_law_219 (hc : hcl h p = some 9) (hs : px_sum st ≤ 8) : bc (d + 1) M_L_law scr 219 [a0, a1, a2, a3, a4, a5, a6] (.int x4 :: .int x3 :: .int z :: .int y :: .int x :: .ref p :: st) h cn sn = bC (bc d M_X9_feed none 0 [some (.ref p), some (.int x), some (.int y), some (.int z), some (.int x3), some (.int x4)] [] h 0 0) (fun v h' c k => bc (d + 1) M_L_law scr 222 [a0, a1, a2, a3, a4, a5, a6] (v.toList ++ st) h' (cn + c) (sn + k)) (fun z h' c k => some (.inr z, h', cn + c, sn + k)) := bc_I rfl rfl rfl rfl rfl rfl rfl (px_I_vir mt_79 rfl hc hs rfl) rfl rfl rfl
set_option maxRecDepth 20000 in
theorem st_L_law_222 : bc d M_L_law scr 222 [a0, a1, some (.ref p), a3, a4, a5, a6] st h cn sn = bc d M_L_law scr 223 [a0, a1, some (.ref p), a3, a4, a5, a6] (.ref p :: st) h cn sn := bc_lda1 rfl rfl
set_option maxRecDepth 20000 in
theorem st_L_law_222t : bc d M_L_law scr 222 [a0, a1, some (.float t), a3, a4, a5, a6] st h cn sn = bc d M_L_law scr 223 [a0, a1, some (.float t), a3, a4, a5, a6] (.float t :: st) h cn sn := bc_ldt1 rfl rfl
set_option maxRecDepth 20000 in
theorem st_L_law_223 : bc d M_L_law scr 223 [some (.ref p), a1, a2, a3, a4, a5, a6] st h cn sn = bc d M_L_law scr 224 [some (.ref p), a1, a2, a3, a4, a5, a6] (.ref p :: st) h cn sn := bc_lda1 rfl rfl
set_option maxRecDepth 20000 in
theorem st_L_law_223t : bc d M_L_law scr 223 [some (.float t), a1, a2, a3, a4, a5, a6] st h cn sn = bc d M_L_law scr 224 [some (.float t), a1, a2, a3, a4, a5, a6] (.float t :: st) h cn sn := bc_ldt1 rfl rfl
set_option maxRecDepth 20000 in
theorem st_L_law_224 : bc d M_L_law scr 224 [a0, a1, a2, a3, some (.int x), a5, a6] st h cn sn = bc d M_L_law scr 226 [a0, a1, a2, a3, some (.int x), a5, a6] (.int x :: st) h cn sn := bc_ldi2 rfl rfl
set_option maxRecDepth 20000 in
theorem st_L_law_226 : bc d M_L_law scr 226 [a0, a1, a2, a3, a4, a5, a6] st h cn sn = bc d M_L_law scr 227 [a0, a1, a2, a3, a4, a5, a6] (.int 1 :: st) h cn sn := bc_L rfl rfl
set_option maxRecDepth 20000 in
theorem st_L_law_227 : bc d M_L_law scr 227 [a0, a1, a2, a3, a4, a5, a6] (.int y :: .int x :: st) h cn sn = bc d M_L_law scr 228 [a0, a1, a2, a3, a4, a5, a6] (.int (x + y) :: st) h cn sn := bc_L rfl rfl
set_option maxRecDepth 20000 in
theorem st_L_law_228 : bc d M_L_law scr 228 [a0, a1, a2, a3, a4, a5, a6] st h cn sn = bM (px_ald scr 228 st h) (fun p s g => bc d M_L_law scr p [a0, a1, a2, a3, a4, a5, a6] s g cn sn) := bc_M (en := (.iaload, 1, 0, 0, 0, .null)) rfl rfl rfl rfl rfl rfl px_I_il
set_option maxRecDepth 20000 in
theorem st_L_law_229 : bc d M_L_law scr 229 [some (.ref p), a1, a2, a3, a4, a5, a6] st h cn sn = bc d M_L_law scr 230 [some (.ref p), a1, a2, a3, a4, a5, a6] (.ref p :: st) h cn sn := bc_lda1 rfl rfl
set_option maxRecDepth 20000 in
theorem st_L_law_229t : bc d M_L_law scr 229 [some (.float t), a1, a2, a3, a4, a5, a6] st h cn sn = bc d M_L_law scr 230 [some (.float t), a1, a2, a3, a4, a5, a6] (.float t :: st) h cn sn := bc_ldt1 rfl rfl
set_option maxRecDepth 20000 in
theorem st_L_law_230 : bc d M_L_law scr 230 [a0, a1, a2, a3, some (.int x), a5, a6] st h cn sn = bc d M_L_law scr 232 [a0, a1, a2, a3, some (.int x), a5, a6] (.int x :: st) h cn sn := bc_ldi2 rfl rfl
set_option maxRecDepth 20000 in
theorem st_L_law_232 : bc d M_L_law scr 232 [a0, a1, a2, a3, a4, a5, a6] st h cn sn = bc d M_L_law scr 233 [a0, a1, a2, a3, a4, a5, a6] (.int 2 :: st) h cn sn := bc_L rfl rfl
set_option maxRecDepth 20000 in
theorem st_L_law_233 : bc d M_L_law scr 233 [a0, a1, a2, a3, a4, a5, a6] (.int y :: .int x :: st) h cn sn = bc d M_L_law scr 234 [a0, a1, a2, a3, a4, a5, a6] (.int (x + y) :: st) h cn sn := bc_L rfl rfl
set_option maxRecDepth 20000 in
theorem st_L_law_234 : bc d M_L_law scr 234 [a0, a1, a2, a3, a4, a5, a6] st h cn sn = bM (px_ald scr 234 st h) (fun p s g => bc d M_L_law scr p [a0, a1, a2, a3, a4, a5, a6] s g cn sn) := bc_M (en := (.iaload, 1, 0, 0, 0, .null)) rfl rfl rfl rfl rfl rfl px_I_il
set_option maxRecDepth 20000 in
theorem st_L_law_235 : bc d M_L_law scr 235 [some (.ref p), a1, a2, a3, a4, a5, a6] st h cn sn = bc d M_L_law scr 236 [some (.ref p), a1, a2, a3, a4, a5, a6] (.ref p :: st) h cn sn := bc_lda1 rfl rfl
set_option maxRecDepth 20000 in
theorem st_L_law_235t : bc d M_L_law scr 235 [some (.float t), a1, a2, a3, a4, a5, a6] st h cn sn = bc d M_L_law scr 236 [some (.float t), a1, a2, a3, a4, a5, a6] (.float t :: st) h cn sn := bc_ldt1 rfl rfl
set_option maxRecDepth 20000 in
theorem st_L_law_236 : bc d M_L_law scr 236 [a0, a1, a2, a3, some (.int x), a5, a6] st h cn sn = bc d M_L_law scr 238 [a0, a1, a2, a3, some (.int x), a5, a6] (.int x :: st) h cn sn := bc_ldi2 rfl rfl
set_option maxRecDepth 20000 in
theorem st_L_law_238 : bc d M_L_law scr 238 [a0, a1, a2, a3, a4, a5, a6] st h cn sn = bc d M_L_law scr 239 [a0, a1, a2, a3, a4, a5, a6] (.int 3 :: st) h cn sn := bc_L rfl rfl
set_option maxRecDepth 20000 in
theorem st_L_law_239 : bc d M_L_law scr 239 [a0, a1, a2, a3, a4, a5, a6] (.int y :: .int x :: st) h cn sn = bc d M_L_law scr 240 [a0, a1, a2, a3, a4, a5, a6] (.int (x + y) :: st) h cn sn := bc_L rfl rfl
set_option maxRecDepth 20000 in
theorem st_L_law_240 : bc d M_L_law scr 240 [a0, a1, a2, a3, a4, a5, a6] st h cn sn = bM (px_ald scr 240 st h) (fun p s g => bc d M_L_law scr p [a0, a1, a2, a3, a4, a5, a6] s g cn sn) := bc_M (en := (.iaload, 1, 0, 0, 0, .null)) rfl rfl rfl rfl rfl rfl px_I_il
set_option maxRecDepth 20000 in
theorem st_L_law_241 : bc d M_L_law scr 241 [some (.ref p), a1, a2, a3, a4, a5, a6] st h cn sn = bc d M_L_law scr 242 [some (.ref p), a1, a2, a3, a4, a5, a6] (.ref p :: st) h cn sn := bc_lda1 rfl rfl
set_option maxRecDepth 20000 in
theorem st_L_law_241t : bc d M_L_law scr 241 [some (.float t), a1, a2, a3, a4, a5, a6] st h cn sn = bc d M_L_law scr 242 [some (.float t), a1, a2, a3, a4, a5, a6] (.float t :: st) h cn sn := bc_ldt1 rfl rfl
set_option maxRecDepth 20000 in
theorem st_L_law_242 : bc d M_L_law scr 242 [a0, a1, a2, a3, some (.int x), a5, a6] st h cn sn = bc d M_L_law scr 244 [a0, a1, a2, a3, some (.int x), a5, a6] (.int x :: st) h cn sn := bc_ldi2 rfl rfl
set_option maxRecDepth 20000 in
theorem st_L_law_244 : bc d M_L_law scr 244 [a0, a1, a2, a3, a4, a5, a6] st h cn sn = bc d M_L_law scr 245 [a0, a1, a2, a3, a4, a5, a6] (.int 4 :: st) h cn sn := bc_L rfl rfl
set_option maxRecDepth 20000 in
theorem st_L_law_245 : bc d M_L_law scr 245 [a0, a1, a2, a3, a4, a5, a6] (.int y :: .int x :: st) h cn sn = bc d M_L_law scr 246 [a0, a1, a2, a3, a4, a5, a6] (.int (x + y) :: st) h cn sn := bc_L rfl rfl
set_option maxRecDepth 20000 in
theorem st_L_law_246 : bc d M_L_law scr 246 [a0, a1, a2, a3, a4, a5, a6] st h cn sn = bM (px_ald scr 246 st h) (fun p s g => bc d M_L_law scr p [a0, a1, a2, a3, a4, a5, a6] s g cn sn) := bc_M (en := (.iaload, 1, 0, 0, 0, .null)) rfl rfl rfl rfl rfl rfl px_I_il
set_option maxRecDepth 20000 in
theorem st_L_law_247 : bc d M_L_law scr 247 [some (.ref p), a1, a2, a3, a4, a5, a6] st h cn sn = bc d M_L_law scr 248 [some (.ref p), a1, a2, a3, a4, a5, a6] (.ref p :: st) h cn sn := bc_lda1 rfl rfl
set_option maxRecDepth 20000 in
theorem st_L_law_247t : bc d M_L_law scr 247 [some (.float t), a1, a2, a3, a4, a5, a6] st h cn sn = bc d M_L_law scr 248 [some (.float t), a1, a2, a3, a4, a5, a6] (.float t :: st) h cn sn := bc_ldt1 rfl rfl
set_option maxRecDepth 20000 in
theorem st_L_law_248 : bc d M_L_law scr 248 [a0, a1, a2, a3, some (.int x), a5, a6] st h cn sn = bc d M_L_law scr 250 [a0, a1, a2, a3, some (.int x), a5, a6] (.int x :: st) h cn sn := bc_ldi2 rfl rfl
set_option maxRecDepth 20000 in
theorem st_L_law_250 : bc d M_L_law scr 250 [a0, a1, a2, a3, a4, a5, a6] st h cn sn = bc d M_L_law scr 251 [a0, a1, a2, a3, a4, a5, a6] (.int 5 :: st) h cn sn := bc_L rfl rfl
set_option maxRecDepth 20000 in
theorem st_L_law_251 : bc d M_L_law scr 251 [a0, a1, a2, a3, a4, a5, a6] (.int y :: .int x :: st) h cn sn = bc d M_L_law scr 252 [a0, a1, a2, a3, a4, a5, a6] (.int (x + y) :: st) h cn sn := bc_L rfl rfl
set_option maxRecDepth 20000 in
theorem st_L_law_252 : bc d M_L_law scr 252 [a0, a1, a2, a3, a4, a5, a6] st h cn sn = bM (px_ald scr 252 st h) (fun p s g => bc d M_L_law scr p [a0, a1, a2, a3, a4, a5, a6] s g cn sn) := bc_M (en := (.iaload, 1, 0, 0, 0, .null)) rfl rfl rfl rfl rfl rfl px_I_il
set_option maxRecDepth 20000 in
theorem st_L_law_253 (hc : hcl h p = some 10) (hs : px_sum st ≤ 8) : bc (d + 1) M_L_law scr 253 [a0, a1, a2, a3, a4, a5, a6] (.int x4 :: .int x3 :: .int z :: .int y :: .int x :: .ref p :: st) h cn sn = bC (bc d M_X10_feed none 0 [some (.ref p), some (.int x), some (.int y), some (.int z), some (.int x3), some (.int x4), none, none] [] h 0 0) (fun v h' c k => bc (d + 1) M_L_law scr 256 [a0, a1, a2, a3, a4, a5, a6] (v.toList ++ st) h' (cn + c) (sn + k)) (fun z h' c k => some (.inr z, h', cn + c, sn + k)) := bc_I rfl rfl rfl rfl rfl rfl rfl (px_I_vir mt_141 rfl hc hs rfl) rfl rfl rfl
set_option maxRecDepth 20000 in
theorem st_L_law_256 : bc d M_L_law scr 256 [a0, a1, a2, a3, a4, a5, a6] (.int y :: .int x :: st) h cn sn = if x = y then bc d M_L_law scr 1940 [a0, a1, a2, a3, a4, a5, a6] st h cn sn else bc d M_L_law scr 259 [a0, a1, a2, a3, a4, a5, a6] st h cn sn := (bc_ic rfl).trans bt_eq
set_option maxRecDepth 20000 in
theorem st_L_law_259 : bc d M_L_law scr 259 [a0, a1, a2, a3, a4, a5, a6] st h cn sn = bc d M_L_law scr 260 [a0, a1, a2, a3, a4, a5, a6] (.int 0 :: st) h cn sn := bc_L rfl rfl
set_option maxRecDepth 20000 in
theorem st_L_law_260 : bc d M_L_law scr 260 [a0, a1, a2, a3, a4, a5, a6] [.int 0] h cn sn = some (.inl (some (.int 0)), h, cn, sn) := bc_E rfl rfl rfl rfl rfl rfl rfl
set_option maxRecDepth 20000 in
theorem st_L_law_260b : bc d M_L_law scr 260 [a0, a1, a2, a3, a4, a5, a6] [.int 1] h cn sn = some (.inl (some (.int 1)), h, cn, sn) := bc_E rfl rfl rfl rfl rfl rfl rfl
set_option maxRecDepth 20000 in
theorem st_L_law_261 : bc d M_L_law scr 261 [a0, some (.ref p), a2, a3, a4, a5, a6] st h cn sn = bc d M_L_law scr 262 [a0, some (.ref p), a2, a3, a4, a5, a6] (.ref p :: st) h cn sn := bc_lda1 rfl rfl
set_option maxRecDepth 20000 in
theorem st_L_law_261t : bc d M_L_law scr 261 [a0, some (.float t), a2, a3, a4, a5, a6] st h cn sn = bc d M_L_law scr 262 [a0, some (.float t), a2, a3, a4, a5, a6] (.float t :: st) h cn sn := bc_ldt1 rfl rfl
set_option maxRecDepth 20000 in
theorem st_L_law_262 : bc d M_L_law scr 262 [some (.ref p), a1, a2, a3, a4, a5, a6] st h cn sn = bc d M_L_law scr 263 [some (.ref p), a1, a2, a3, a4, a5, a6] (.ref p :: st) h cn sn := bc_lda1 rfl rfl
set_option maxRecDepth 20000 in
theorem st_L_law_262t : bc d M_L_law scr 262 [some (.float t), a1, a2, a3, a4, a5, a6] st h cn sn = bc d M_L_law scr 263 [some (.float t), a1, a2, a3, a4, a5, a6] (.float t :: st) h cn sn := bc_ldt1 rfl rfl
set_option maxRecDepth 20000 in
theorem st_L_law_263 : bc d M_L_law scr 263 [a0, a1, a2, a3, some (.int x), a5, a6] st h cn sn = bc d M_L_law scr 265 [a0, a1, a2, a3, some (.int x), a5, a6] (.int x :: st) h cn sn := bc_ldi2 rfl rfl
set_option maxRecDepth 20000 in
theorem st_L_law_265 : bc d M_L_law scr 265 [a0, a1, a2, a3, a4, a5, a6] st h cn sn = bc d M_L_law scr 266 [a0, a1, a2, a3, a4, a5, a6] (.int 1 :: st) h cn sn := bc_L rfl rfl
set_option maxRecDepth 20000 in
theorem st_L_law_266 : bc d M_L_law scr 266 [a0, a1, a2, a3, a4, a5, a6] (.int y :: .int x :: st) h cn sn = bc d M_L_law scr 267 [a0, a1, a2, a3, a4, a5, a6] (.int (x + y) :: st) h cn sn := bc_L rfl rfl
set_option maxRecDepth 20000 in
theorem st_L_law_267 : bc d M_L_law scr 267 [a0, a1, a2, a3, a4, a5, a6] st h cn sn = bM (px_ald scr 267 st h) (fun p s g => bc d M_L_law scr p [a0, a1, a2, a3, a4, a5, a6] s g cn sn) := bc_M (en := (.iaload, 1, 0, 0, 0, .null)) rfl rfl rfl rfl rfl rfl px_I_il
set_option maxRecDepth 20000 in
theorem st_L_law_268 : bc d M_L_law scr 268 [a0, a1, a2, some (.ref p), a4, a5, a6] st h cn sn = bc d M_L_law scr 269 [a0, a1, a2, some (.ref p), a4, a5, a6] (.ref p :: st) h cn sn := bc_lda1 rfl rfl
set_option maxRecDepth 20000 in
theorem st_L_law_268t : bc d M_L_law scr 268 [a0, a1, a2, some (.float t), a4, a5, a6] st h cn sn = bc d M_L_law scr 269 [a0, a1, a2, some (.float t), a4, a5, a6] (.float t :: st) h cn sn := bc_ldt1 rfl rfl
set_option maxRecDepth 20000 in
theorem st_L_law_269 (hs : px_sum st ≤ 8) : bc (d + 1) M_L_law scr 269 [a0, a1, a2, a3, a4, a5, a6] (.ref p2 :: .int x :: .ref p1 :: st) h cn sn = bC (bc d M_L_kitchen none 0 [some (.ref p1), some (.int x), some (.ref p2), none] [] h 0 0) (fun v h' c k => bc (d + 1) M_L_law scr 272 [a0, a1, a2, a3, a4, a5, a6] (v.toList ++ st) h' (cn + c) (sn + k)) (fun z h' c k => some (.inr z, h', cn + c, sn + k)) := bc_I rfl rfl rfl rfl rfl rfl rfl (px_I_sta mt_237 rfl hs rfl) rfl rfl rfl
set_option maxRecDepth 20000 in
theorem st_L_law_272 : bc d M_L_law scr 272 [a0, a1, a2, a3, a4, a5, a6] (.int x :: st) h cn sn = bc d M_L_law scr 274 [a0, a1, a2, a3, lc_c2 a4, some (.int x), a6] st h cn sn := bc_Ls1 (en := (.istore 5, 2, 0, 0, 0, .null)) (vs := [a0, a1, a2, a3, a4, a5, a6]) (i := 5) (v := .int x) rfl rfl rfl
set_option maxRecDepth 20000 in
theorem st_L_law_274 : bc d M_L_law scr 274 [a0, a1, some (.ref p), a3, a4, a5, a6] st h cn sn = bc d M_L_law scr 275 [a0, a1, some (.ref p), a3, a4, a5, a6] (.ref p :: st) h cn sn := bc_lda1 rfl rfl
set_option maxRecDepth 20000 in
theorem st_L_law_274t : bc d M_L_law scr 274 [a0, a1, some (.float t), a3, a4, a5, a6] st h cn sn = bc d M_L_law scr 275 [a0, a1, some (.float t), a3, a4, a5, a6] (.float t :: st) h cn sn := bc_ldt1 rfl rfl
set_option maxRecDepth 20000 in
theorem st_L_law_275 : bc d M_L_law scr 275 [some (.ref p), a1, a2, a3, a4, a5, a6] st h cn sn = bc d M_L_law scr 276 [some (.ref p), a1, a2, a3, a4, a5, a6] (.ref p :: st) h cn sn := bc_lda1 rfl rfl
set_option maxRecDepth 20000 in
theorem st_L_law_275t : bc d M_L_law scr 275 [some (.float t), a1, a2, a3, a4, a5, a6] st h cn sn = bc d M_L_law scr 276 [some (.float t), a1, a2, a3, a4, a5, a6] (.float t :: st) h cn sn := bc_ldt1 rfl rfl
set_option maxRecDepth 20000 in
theorem st_L_law_276 : bc d M_L_law scr 276 [a0, a1, a2, a3, some (.int x), a5, a6] st h cn sn = bc d M_L_law scr 278 [a0, a1, a2, a3, some (.int x), a5, a6] (.int x :: st) h cn sn := bc_ldi2 rfl rfl
set_option maxRecDepth 20000 in
theorem st_L_law_278 : bc d M_L_law scr 278 [a0, a1, a2, a3, a4, a5, a6] st h cn sn = bc d M_L_law scr 279 [a0, a1, a2, a3, a4, a5, a6] (.int 1 :: st) h cn sn := bc_L rfl rfl
set_option maxRecDepth 20000 in
theorem st_L_law_279 : bc d M_L_law scr 279 [a0, a1, a2, a3, a4, a5, a6] (.int y :: .int x :: st) h cn sn = bc d M_L_law scr 280 [a0, a1, a2, a3, a4, a5, a6] (.int (x + y) :: st) h cn sn := bc_L rfl rfl
set_option maxRecDepth 20000 in
theorem st_L_law_280 : bc d M_L_law scr 280 [a0, a1, a2, a3, a4, a5, a6] st h cn sn = bM (px_ald scr 280 st h) (fun p s g => bc d M_L_law scr p [a0, a1, a2, a3, a4, a5, a6] s g cn sn) := bc_M (en := (.iaload, 1, 0, 0, 0, .null)) rfl rfl rfl rfl rfl rfl px_I_il
set_option maxRecDepth 20000 in
theorem st_L_law_281 (hc : hcl h p = some 10) (hs : px_sum st ≤ 8) : bc (d + 1) M_L_law scr 281 [a0, a1, a2, a3, a4, a5, a6] (.int x :: .ref p :: st) h cn sn = bC (bc d M_X10_kitchen none 0 [some (.ref p), some (.int x), none] [] h 0 0) (fun v h' c k => bc (d + 1) M_L_law scr 284 [a0, a1, a2, a3, a4, a5, a6] (v.toList ++ st) h' (cn + c) (sn + k)) (fun z h' c k => some (.inr z, h', cn + c, sn + k)) := bc_I rfl rfl rfl rfl rfl rfl rfl (px_I_vir mt_166 rfl hc hs rfl) rfl rfl rfl
set_option maxRecDepth 20000 in
theorem st_L_law_284 : bc d M_L_law scr 284 [a0, a1, a2, a3, a4, a5, a6] (.int x :: st) h cn sn = bc d M_L_law scr 286 [a0, a1, a2, a3, a4, lc_c2 a5, some (.int x)] st h cn sn := bc_Ls1 (en := (.istore 6, 2, 0, 0, 0, .null)) (vs := [a0, a1, a2, a3, a4, a5, a6]) (i := 6) (v := .int x) rfl rfl rfl
set_option maxRecDepth 20000 in
theorem st_L_law_286 : bc d M_L_law scr 286 [a0, a1, some (.ref p), a3, a4, a5, a6] st h cn sn = bc d M_L_law scr 287 [a0, a1, some (.ref p), a3, a4, a5, a6] (.ref p :: st) h cn sn := bc_lda1 rfl rfl
set_option maxRecDepth 20000 in
theorem st_L_law_286t : bc d M_L_law scr 286 [a0, a1, some (.float t), a3, a4, a5, a6] st h cn sn = bc d M_L_law scr 287 [a0, a1, some (.float t), a3, a4, a5, a6] (.float t :: st) h cn sn := bc_ldt1 rfl rfl
set_option maxRecDepth 20000 in
theorem st_L_law_287 (hc : hcl h p = some 10) (hs : px_sum st ≤ 8) : bc (d + 1) M_L_law scr 287 [a0, a1, a2, a3, a4, a5, a6] (.ref p :: st) h cn sn = bC (bc d M_X10_thrown none 0 [some (.ref p)] [] h 0 0) (fun v h' c k => bc (d + 1) M_L_law scr 290 [a0, a1, a2, a3, a4, a5, a6] (v.toList ++ st) h' (cn + c) (sn + k)) (fun z h' c k => some (.inr z, h', cn + c, sn + k)) := bc_I rfl rfl rfl rfl rfl rfl rfl (px_I_vir mt_133 rfl hc hs rfl) rfl rfl rfl
set_option maxRecDepth 20000 in
theorem st_L_law_290 : bc d M_L_law scr 290 [a0, a1, a2, a3, a4, some (.int x), a6] st h cn sn = bc d M_L_law scr 292 [a0, a1, a2, a3, a4, some (.int x), a6] (.int x :: st) h cn sn := bc_ldi2 rfl rfl
set_option maxRecDepth 20000 in
theorem st_L_law_292 : bc d M_L_law scr 292 [a0, a1, a2, a3, a4, a5, a6] (.int y :: .int x :: st) h cn sn = if x = y then bc d M_L_law scr 297 [a0, a1, a2, a3, a4, a5, a6] st h cn sn else bc d M_L_law scr 295 [a0, a1, a2, a3, a4, a5, a6] st h cn sn := (bc_ic rfl).trans bt_eq
set_option maxRecDepth 20000 in
theorem st_L_law_295 : bc d M_L_law scr 295 [a0, a1, a2, a3, a4, a5, a6] st h cn sn = bc d M_L_law scr 296 [a0, a1, a2, a3, a4, a5, a6] (.int 0 :: st) h cn sn := bc_L rfl rfl
set_option maxRecDepth 20000 in
theorem st_L_law_296 : bc d M_L_law scr 296 [a0, a1, a2, a3, a4, a5, a6] [.int 0] h cn sn = some (.inl (some (.int 0)), h, cn, sn) := bc_E rfl rfl rfl rfl rfl rfl rfl
set_option maxRecDepth 20000 in
theorem st_L_law_296b : bc d M_L_law scr 296 [a0, a1, a2, a3, a4, a5, a6] [.int 1] h cn sn = some (.inl (some (.int 1)), h, cn, sn) := bc_E rfl rfl rfl rfl rfl rfl rfl
set_option maxRecDepth 20000 in
theorem st_L_law_297 : bc d M_L_law scr 297 [a0, a1, a2, a3, a4, some (.int x), a6] st h cn sn = bc d M_L_law scr 299 [a0, a1, a2, a3, a4, some (.int x), a6] (.int x :: st) h cn sn := bc_ldi2 rfl rfl
set_option maxRecDepth 20000 in
theorem st_L_law_299 : bc d M_L_law scr 299 [a0, a1, a2, a3, a4, a5, a6] (.int x :: st) h cn sn = if x = 0 then bc d M_L_law scr 302 [a0, a1, a2, a3, a4, a5, a6] st h cn sn else bc d M_L_law scr 314 [a0, a1, a2, a3, a4, a5, a6] st h cn sn := (bc_if rfl).trans bt_ne
set_option maxRecDepth 20000 in
theorem st_L_law_302 : bc d M_L_law scr 302 [a0, a1, a2, some (.ref p), a4, a5, a6] st h cn sn = bc d M_L_law scr 303 [a0, a1, a2, some (.ref p), a4, a5, a6] (.ref p :: st) h cn sn := bc_lda1 rfl rfl
set_option maxRecDepth 20000 in
theorem st_L_law_302t : bc d M_L_law scr 302 [a0, a1, a2, some (.float t), a4, a5, a6] st h cn sn = bc d M_L_law scr 303 [a0, a1, a2, some (.float t), a4, a5, a6] (.float t :: st) h cn sn := bc_ldt1 rfl rfl
set_option maxRecDepth 20000 in
theorem st_L_law_303 : bc d M_L_law scr 303 [a0, a1, a2, a3, a4, a5, a6] st h cn sn = bc d M_L_law scr 304 [a0, a1, a2, a3, a4, a5, a6] (.int 0 :: st) h cn sn := bc_L rfl rfl
set_option maxRecDepth 20000 in
theorem st_L_law_304 : bc d M_L_law scr 304 [a0, a1, a2, a3, a4, a5, a6] st h cn sn = bM (px_lld 304 st h) (fun p s g => bc d M_L_law scr p [a0, a1, a2, a3, a4, a5, a6] s g cn sn) := bc_M (en := (.laload, 1, 0, 0, 0, .null)) rfl rfl rfl rfl rfl rfl px_I_ll
set_option maxRecDepth 20000 in
theorem st_L_law_305 : bc d M_L_law scr 305 [a0, a1, a2, a3, a4, a5, some (.int x)] st h cn sn = bc d M_L_law scr 307 [a0, a1, a2, a3, a4, a5, some (.int x)] (.int x :: st) h cn sn := bc_ldi2 rfl rfl
set_option maxRecDepth 20000 in
theorem st_L_law_307 : bc d M_L_law scr 307 [a0, a1, a2, a3, a4, a5, a6] (.int x :: st) h cn sn = bc d M_L_law scr 308 [a0, a1, a2, a3, a4, a5, a6] (.long x.toInt64 :: st) h cn sn := bc_L rfl rfl
set_option maxRecDepth 20000 in
theorem st_L_law_308 : bc d M_L_law scr 308 [a0, a1, a2, a3, a4, a5, a6] (.long w :: .long u :: st) h cn sn = bc d M_L_law scr 309 [a0, a1, a2, a3, a4, a5, a6] (.int (lg_cmp u w) :: st) h cn sn := bc_L rfl rfl
set_option maxRecDepth 20000 in
theorem st_L_law_309 : bc d M_L_law scr 309 [a0, a1, a2, a3, a4, a5, a6] (.int x :: st) h cn sn = if x = 0 then bc d M_L_law scr 314 [a0, a1, a2, a3, a4, a5, a6] st h cn sn else bc d M_L_law scr 312 [a0, a1, a2, a3, a4, a5, a6] st h cn sn := (bc_if rfl).trans bt_eq
set_option maxRecDepth 20000 in
theorem st_L_law_312 : bc d M_L_law scr 312 [a0, a1, a2, a3, a4, a5, a6] st h cn sn = bc d M_L_law scr 313 [a0, a1, a2, a3, a4, a5, a6] (.int 0 :: st) h cn sn := bc_L rfl rfl
set_option maxRecDepth 20000 in
theorem st_L_law_313 : bc d M_L_law scr 313 [a0, a1, a2, a3, a4, a5, a6] [.int 0] h cn sn = some (.inl (some (.int 0)), h, cn, sn) := bc_E rfl rfl rfl rfl rfl rfl rfl
set_option maxRecDepth 20000 in
theorem st_L_law_313b : bc d M_L_law scr 313 [a0, a1, a2, a3, a4, a5, a6] [.int 1] h cn sn = some (.inl (some (.int 1)), h, cn, sn) := bc_E rfl rfl rfl rfl rfl rfl rfl
set_option maxRecDepth 20000 in
theorem st_L_law_314 : bc d M_L_law scr 314 [a0, a1, a2, a3, a4, a5, a6] st h cn sn = bc d M_L_law scr 1940 [a0, a1, a2, a3, a4, a5, a6] st h cn sn := bc_L rfl rfl
set_option maxRecDepth 20000 in
theorem st_L_law_317 : bc d M_L_law scr 317 [a0, some (.ref p), a2, a3, a4, a5, a6] st h cn sn = bc d M_L_law scr 318 [a0, some (.ref p), a2, a3, a4, a5, a6] (.ref p :: st) h cn sn := bc_lda1 rfl rfl
set_option maxRecDepth 20000 in
theorem st_L_law_317t : bc d M_L_law scr 317 [a0, some (.float t), a2, a3, a4, a5, a6] st h cn sn = bc d M_L_law scr 318 [a0, some (.float t), a2, a3, a4, a5, a6] (.float t :: st) h cn sn := bc_ldt1 rfl rfl
set_option maxRecDepth 20000 in
theorem st_L_law_318 (hc : hcl h p = some 9) (hs : px_sum st ≤ 8) : bc (d + 1) M_L_law scr 318 [a0, a1, a2, a3, a4, a5, a6] (.ref p :: st) h cn sn = bC (bc d M_X9_fault none 0 [some (.ref p)] [] h 0 0) (fun v h' c k => bc (d + 1) M_L_law scr 321 [a0, a1, a2, a3, a4, a5, a6] (v.toList ++ st) h' (cn + c) (sn + k)) (fun z h' c k => some (.inr z, h', cn + c, sn + k)) := bc_I rfl rfl rfl rfl rfl rfl rfl (px_I_vir mt_81 rfl hc hs rfl) rfl rfl rfl
set_option maxRecDepth 20000 in
theorem st_L_law_321 : bc d M_L_law scr 321 [a0, a1, some (.ref p), a3, a4, a5, a6] st h cn sn = bc d M_L_law scr 322 [a0, a1, some (.ref p), a3, a4, a5, a6] (.ref p :: st) h cn sn := bc_lda1 rfl rfl
set_option maxRecDepth 20000 in
theorem st_L_law_321t : bc d M_L_law scr 321 [a0, a1, some (.float t), a3, a4, a5, a6] st h cn sn = bc d M_L_law scr 322 [a0, a1, some (.float t), a3, a4, a5, a6] (.float t :: st) h cn sn := bc_ldt1 rfl rfl
set_option maxRecDepth 20000 in
theorem st_L_law_322 (hc : hcl h p = some 10) (hs : px_sum st ≤ 8) : bc (d + 1) M_L_law scr 322 [a0, a1, a2, a3, a4, a5, a6] (.ref p :: st) h cn sn = bC (bc d M_X10_fault none 0 [some (.ref p)] [] h 0 0) (fun v h' c k => bc (d + 1) M_L_law scr 325 [a0, a1, a2, a3, a4, a5, a6] (v.toList ++ st) h' (cn + c) (sn + k)) (fun z h' c k => some (.inr z, h', cn + c, sn + k)) := bc_I rfl rfl rfl rfl rfl rfl rfl (px_I_vir mt_169 rfl hc hs rfl) rfl rfl rfl
set_option maxRecDepth 20000 in
theorem st_L_law_325 : bc d M_L_law scr 325 [a0, a1, a2, a3, a4, a5, a6] (.int y :: .int x :: st) h cn sn = if x = y then bc d M_L_law scr 1940 [a0, a1, a2, a3, a4, a5, a6] st h cn sn else bc d M_L_law scr 328 [a0, a1, a2, a3, a4, a5, a6] st h cn sn := (bc_ic rfl).trans bt_eq
set_option maxRecDepth 20000 in
theorem st_L_law_328 : bc d M_L_law scr 328 [a0, a1, a2, a3, a4, a5, a6] st h cn sn = bc d M_L_law scr 329 [a0, a1, a2, a3, a4, a5, a6] (.int 0 :: st) h cn sn := bc_L rfl rfl
set_option maxRecDepth 20000 in
theorem st_L_law_329 : bc d M_L_law scr 329 [a0, a1, a2, a3, a4, a5, a6] [.int 0] h cn sn = some (.inl (some (.int 0)), h, cn, sn) := bc_E rfl rfl rfl rfl rfl rfl rfl
set_option maxRecDepth 20000 in
theorem st_L_law_329b : bc d M_L_law scr 329 [a0, a1, a2, a3, a4, a5, a6] [.int 1] h cn sn = some (.inl (some (.int 1)), h, cn, sn) := bc_E rfl rfl rfl rfl rfl rfl rfl
set_option maxRecDepth 20000 in
theorem st_L_law_330 : bc d M_L_law scr 330 [a0, some (.ref p), a2, a3, a4, a5, a6] st h cn sn = bc d M_L_law scr 331 [a0, some (.ref p), a2, a3, a4, a5, a6] (.ref p :: st) h cn sn := bc_lda1 rfl rfl
set_option maxRecDepth 20000 in
theorem st_L_law_330t : bc d M_L_law scr 330 [a0, some (.float t), a2, a3, a4, a5, a6] st h cn sn = bc d M_L_law scr 331 [a0, some (.float t), a2, a3, a4, a5, a6] (.float t :: st) h cn sn := bc_ldt1 rfl rfl
set_option maxRecDepth 20000 in
theorem st_L_law_331 : bc d M_L_law scr 331 [some (.ref p), a1, a2, a3, a4, a5, a6] st h cn sn = bc d M_L_law scr 332 [some (.ref p), a1, a2, a3, a4, a5, a6] (.ref p :: st) h cn sn := bc_lda1 rfl rfl
set_option maxRecDepth 20000 in
theorem st_L_law_331t : bc d M_L_law scr 331 [some (.float t), a1, a2, a3, a4, a5, a6] st h cn sn = bc d M_L_law scr 332 [some (.float t), a1, a2, a3, a4, a5, a6] (.float t :: st) h cn sn := bc_ldt1 rfl rfl
set_option maxRecDepth 20000 in
theorem st_L_law_332 : bc d M_L_law scr 332 [a0, a1, a2, a3, some (.int x), a5, a6] st h cn sn = bc d M_L_law scr 334 [a0, a1, a2, a3, some (.int x), a5, a6] (.int x :: st) h cn sn := bc_ldi2 rfl rfl
set_option maxRecDepth 20000 in
theorem st_L_law_334 : bc d M_L_law scr 334 [a0, a1, a2, a3, a4, a5, a6] st h cn sn = bc d M_L_law scr 335 [a0, a1, a2, a3, a4, a5, a6] (.int 1 :: st) h cn sn := bc_L rfl rfl
set_option maxRecDepth 20000 in
theorem st_L_law_335 : bc d M_L_law scr 335 [a0, a1, a2, a3, a4, a5, a6] (.int y :: .int x :: st) h cn sn = bc d M_L_law scr 336 [a0, a1, a2, a3, a4, a5, a6] (.int (x + y) :: st) h cn sn := bc_L rfl rfl
set_option maxRecDepth 20000 in
theorem st_L_law_336 : bc d M_L_law scr 336 [a0, a1, a2, a3, a4, a5, a6] st h cn sn = bM (px_ald scr 336 st h) (fun p s g => bc d M_L_law scr p [a0, a1, a2, a3, a4, a5, a6] s g cn sn) := bc_M (en := (.iaload, 1, 0, 0, 0, .null)) rfl rfl rfl rfl rfl rfl px_I_il
set_option maxRecDepth 20000 in
theorem st_L_law_337 : bc d M_L_law scr 337 [a0, a1, a2, some (.ref p), a4, a5, a6] st h cn sn = bc d M_L_law scr 338 [a0, a1, a2, some (.ref p), a4, a5, a6] (.ref p :: st) h cn sn := bc_lda1 rfl rfl
set_option maxRecDepth 20000 in
theorem st_L_law_337t : bc d M_L_law scr 337 [a0, a1, a2, some (.float t), a4, a5, a6] st h cn sn = bc d M_L_law scr 338 [a0, a1, a2, some (.float t), a4, a5, a6] (.float t :: st) h cn sn := bc_ldt1 rfl rfl
set_option maxRecDepth 20000 in
theorem st_L_law_338 (hs : px_sum st ≤ 8) : bc (d + 1) M_L_law scr 338 [a0, a1, a2, a3, a4, a5, a6] (.ref p2 :: .int x :: .ref p1 :: st) h cn sn = bC (bc d M_L_count none 0 [some (.ref p1), some (.int x), some (.ref p2), none] [] h 0 0) (fun v h' c k => bc (d + 1) M_L_law scr 341 [a0, a1, a2, a3, a4, a5, a6] (v.toList ++ st) h' (cn + c) (sn + k)) (fun z h' c k => some (.inr z, h', cn + c, sn + k)) := bc_I rfl rfl rfl rfl rfl rfl rfl (px_I_sta mt_238 rfl hs rfl) rfl rfl rfl
set_option maxRecDepth 20000 in
theorem st_L_law_341 : bc d M_L_law scr 341 [a0, a1, a2, a3, a4, a5, a6] (.int x :: st) h cn sn = bc d M_L_law scr 343 [a0, a1, a2, a3, lc_c2 a4, some (.int x), a6] st h cn sn := bc_Ls1 (en := (.istore 5, 2, 0, 0, 0, .null)) (vs := [a0, a1, a2, a3, a4, a5, a6]) (i := 5) (v := .int x) rfl rfl rfl
set_option maxRecDepth 20000 in
theorem st_L_law_343 : bc d M_L_law scr 343 [a0, a1, some (.ref p), a3, a4, a5, a6] st h cn sn = bc d M_L_law scr 344 [a0, a1, some (.ref p), a3, a4, a5, a6] (.ref p :: st) h cn sn := bc_lda1 rfl rfl
set_option maxRecDepth 20000 in
theorem st_L_law_343t : bc d M_L_law scr 343 [a0, a1, some (.float t), a3, a4, a5, a6] st h cn sn = bc d M_L_law scr 344 [a0, a1, some (.float t), a3, a4, a5, a6] (.float t :: st) h cn sn := bc_ldt1 rfl rfl
set_option maxRecDepth 20000 in
theorem st_L_law_344 : bc d M_L_law scr 344 [some (.ref p), a1, a2, a3, a4, a5, a6] st h cn sn = bc d M_L_law scr 345 [some (.ref p), a1, a2, a3, a4, a5, a6] (.ref p :: st) h cn sn := bc_lda1 rfl rfl
set_option maxRecDepth 20000 in
theorem st_L_law_344t : bc d M_L_law scr 344 [some (.float t), a1, a2, a3, a4, a5, a6] st h cn sn = bc d M_L_law scr 345 [some (.float t), a1, a2, a3, a4, a5, a6] (.float t :: st) h cn sn := bc_ldt1 rfl rfl
set_option maxRecDepth 20000 in
theorem st_L_law_345 : bc d M_L_law scr 345 [a0, a1, a2, a3, some (.int x), a5, a6] st h cn sn = bc d M_L_law scr 347 [a0, a1, a2, a3, some (.int x), a5, a6] (.int x :: st) h cn sn := bc_ldi2 rfl rfl
set_option maxRecDepth 20000 in
theorem st_L_law_347 : bc d M_L_law scr 347 [a0, a1, a2, a3, a4, a5, a6] st h cn sn = bc d M_L_law scr 348 [a0, a1, a2, a3, a4, a5, a6] (.int 1 :: st) h cn sn := bc_L rfl rfl
set_option maxRecDepth 20000 in
theorem st_L_law_348 : bc d M_L_law scr 348 [a0, a1, a2, a3, a4, a5, a6] (.int y :: .int x :: st) h cn sn = bc d M_L_law scr 349 [a0, a1, a2, a3, a4, a5, a6] (.int (x + y) :: st) h cn sn := bc_L rfl rfl
set_option maxRecDepth 20000 in
theorem st_L_law_349 : bc d M_L_law scr 349 [a0, a1, a2, a3, a4, a5, a6] st h cn sn = bM (px_ald scr 349 st h) (fun p s g => bc d M_L_law scr p [a0, a1, a2, a3, a4, a5, a6] s g cn sn) := bc_M (en := (.iaload, 1, 0, 0, 0, .null)) rfl rfl rfl rfl rfl rfl px_I_il
set_option maxRecDepth 20000 in
theorem st_L_law_350 (hc : hcl h p = some 10) (hs : px_sum st ≤ 8) : bc (d + 1) M_L_law scr 350 [a0, a1, a2, a3, a4, a5, a6] (.int x :: .ref p :: st) h cn sn = bC (bc d M_X10_count none 0 [some (.ref p), some (.int x)] [] h 0 0) (fun v h' c k => bc (d + 1) M_L_law scr 353 [a0, a1, a2, a3, a4, a5, a6] (v.toList ++ st) h' (cn + c) (sn + k)) (fun z h' c k => some (.inr z, h', cn + c, sn + k)) := bc_I rfl rfl rfl rfl rfl rfl rfl (px_I_vir mt_189 rfl hc hs rfl) rfl rfl rfl
set_option maxRecDepth 20000 in
theorem st_L_law_353 : bc d M_L_law scr 353 [a0, a1, a2, a3, a4, a5, a6] (.int x :: st) h cn sn = bc d M_L_law scr 355 [a0, a1, a2, a3, a4, lc_c2 a5, some (.int x)] st h cn sn := bc_Ls1 (en := (.istore 6, 2, 0, 0, 0, .null)) (vs := [a0, a1, a2, a3, a4, a5, a6]) (i := 6) (v := .int x) rfl rfl rfl
set_option maxRecDepth 20000 in
theorem st_L_law_355 : bc d M_L_law scr 355 [a0, a1, some (.ref p), a3, a4, a5, a6] st h cn sn = bc d M_L_law scr 356 [a0, a1, some (.ref p), a3, a4, a5, a6] (.ref p :: st) h cn sn := bc_lda1 rfl rfl
set_option maxRecDepth 20000 in
theorem st_L_law_355t : bc d M_L_law scr 355 [a0, a1, some (.float t), a3, a4, a5, a6] st h cn sn = bc d M_L_law scr 356 [a0, a1, some (.float t), a3, a4, a5, a6] (.float t :: st) h cn sn := bc_ldt1 rfl rfl
set_option maxRecDepth 20000 in
theorem st_L_law_356 (hc : hcl h p = some 10) (hs : px_sum st ≤ 8) : bc (d + 1) M_L_law scr 356 [a0, a1, a2, a3, a4, a5, a6] (.ref p :: st) h cn sn = bC (bc d M_X10_thrown none 0 [some (.ref p)] [] h 0 0) (fun v h' c k => bc (d + 1) M_L_law scr 359 [a0, a1, a2, a3, a4, a5, a6] (v.toList ++ st) h' (cn + c) (sn + k)) (fun z h' c k => some (.inr z, h', cn + c, sn + k)) := bc_I rfl rfl rfl rfl rfl rfl rfl (px_I_vir mt_133 rfl hc hs rfl) rfl rfl rfl
set_option maxRecDepth 20000 in
theorem st_L_law_359 : bc d M_L_law scr 359 [a0, a1, a2, a3, a4, some (.int x), a6] st h cn sn = bc d M_L_law scr 361 [a0, a1, a2, a3, a4, some (.int x), a6] (.int x :: st) h cn sn := bc_ldi2 rfl rfl
set_option maxRecDepth 20000 in
theorem st_L_law_361 : bc d M_L_law scr 361 [a0, a1, a2, a3, a4, a5, a6] (.int y :: .int x :: st) h cn sn = if x = y then bc d M_L_law scr 366 [a0, a1, a2, a3, a4, a5, a6] st h cn sn else bc d M_L_law scr 364 [a0, a1, a2, a3, a4, a5, a6] st h cn sn := (bc_ic rfl).trans bt_eq
set_option maxRecDepth 20000 in
theorem st_L_law_364 : bc d M_L_law scr 364 [a0, a1, a2, a3, a4, a5, a6] st h cn sn = bc d M_L_law scr 365 [a0, a1, a2, a3, a4, a5, a6] (.int 0 :: st) h cn sn := bc_L rfl rfl
set_option maxRecDepth 20000 in
theorem st_L_law_365 : bc d M_L_law scr 365 [a0, a1, a2, a3, a4, a5, a6] [.int 0] h cn sn = some (.inl (some (.int 0)), h, cn, sn) := bc_E rfl rfl rfl rfl rfl rfl rfl
set_option maxRecDepth 20000 in
theorem st_L_law_365b : bc d M_L_law scr 365 [a0, a1, a2, a3, a4, a5, a6] [.int 1] h cn sn = some (.inl (some (.int 1)), h, cn, sn) := bc_E rfl rfl rfl rfl rfl rfl rfl
set_option maxRecDepth 20000 in
theorem st_L_law_366 : bc d M_L_law scr 366 [a0, a1, a2, a3, a4, some (.int x), a6] st h cn sn = bc d M_L_law scr 368 [a0, a1, a2, a3, a4, some (.int x), a6] (.int x :: st) h cn sn := bc_ldi2 rfl rfl
set_option maxRecDepth 20000 in
theorem st_L_law_368 : bc d M_L_law scr 368 [a0, a1, a2, a3, a4, a5, a6] (.int x :: st) h cn sn = if x = 0 then bc d M_L_law scr 371 [a0, a1, a2, a3, a4, a5, a6] st h cn sn else bc d M_L_law scr 383 [a0, a1, a2, a3, a4, a5, a6] st h cn sn := (bc_if rfl).trans bt_ne
set_option maxRecDepth 20000 in
theorem st_L_law_371 : bc d M_L_law scr 371 [a0, a1, a2, some (.ref p), a4, a5, a6] st h cn sn = bc d M_L_law scr 372 [a0, a1, a2, some (.ref p), a4, a5, a6] (.ref p :: st) h cn sn := bc_lda1 rfl rfl
set_option maxRecDepth 20000 in
theorem st_L_law_371t : bc d M_L_law scr 371 [a0, a1, a2, some (.float t), a4, a5, a6] st h cn sn = bc d M_L_law scr 372 [a0, a1, a2, some (.float t), a4, a5, a6] (.float t :: st) h cn sn := bc_ldt1 rfl rfl
set_option maxRecDepth 20000 in
theorem st_L_law_372 : bc d M_L_law scr 372 [a0, a1, a2, a3, a4, a5, a6] st h cn sn = bc d M_L_law scr 373 [a0, a1, a2, a3, a4, a5, a6] (.int 0 :: st) h cn sn := bc_L rfl rfl
set_option maxRecDepth 20000 in
theorem st_L_law_373 : bc d M_L_law scr 373 [a0, a1, a2, a3, a4, a5, a6] st h cn sn = bM (px_lld 373 st h) (fun p s g => bc d M_L_law scr p [a0, a1, a2, a3, a4, a5, a6] s g cn sn) := bc_M (en := (.laload, 1, 0, 0, 0, .null)) rfl rfl rfl rfl rfl rfl px_I_ll
set_option maxRecDepth 20000 in
theorem st_L_law_374 : bc d M_L_law scr 374 [a0, a1, a2, a3, a4, a5, some (.int x)] st h cn sn = bc d M_L_law scr 376 [a0, a1, a2, a3, a4, a5, some (.int x)] (.int x :: st) h cn sn := bc_ldi2 rfl rfl
set_option maxRecDepth 20000 in
theorem st_L_law_376 : bc d M_L_law scr 376 [a0, a1, a2, a3, a4, a5, a6] (.int x :: st) h cn sn = bc d M_L_law scr 377 [a0, a1, a2, a3, a4, a5, a6] (.long x.toInt64 :: st) h cn sn := bc_L rfl rfl
set_option maxRecDepth 20000 in
theorem st_L_law_377 : bc d M_L_law scr 377 [a0, a1, a2, a3, a4, a5, a6] (.long w :: .long u :: st) h cn sn = bc d M_L_law scr 378 [a0, a1, a2, a3, a4, a5, a6] (.int (lg_cmp u w) :: st) h cn sn := bc_L rfl rfl
set_option maxRecDepth 20000 in
theorem st_L_law_378 : bc d M_L_law scr 378 [a0, a1, a2, a3, a4, a5, a6] (.int x :: st) h cn sn = if x = 0 then bc d M_L_law scr 383 [a0, a1, a2, a3, a4, a5, a6] st h cn sn else bc d M_L_law scr 381 [a0, a1, a2, a3, a4, a5, a6] st h cn sn := (bc_if rfl).trans bt_eq
set_option maxRecDepth 20000 in
theorem st_L_law_381 : bc d M_L_law scr 381 [a0, a1, a2, a3, a4, a5, a6] st h cn sn = bc d M_L_law scr 382 [a0, a1, a2, a3, a4, a5, a6] (.int 0 :: st) h cn sn := bc_L rfl rfl
set_option maxRecDepth 20000 in
theorem st_L_law_382 : bc d M_L_law scr 382 [a0, a1, a2, a3, a4, a5, a6] [.int 0] h cn sn = some (.inl (some (.int 0)), h, cn, sn) := bc_E rfl rfl rfl rfl rfl rfl rfl
set_option maxRecDepth 20000 in
theorem st_L_law_382b : bc d M_L_law scr 382 [a0, a1, a2, a3, a4, a5, a6] [.int 1] h cn sn = some (.inl (some (.int 1)), h, cn, sn) := bc_E rfl rfl rfl rfl rfl rfl rfl
set_option maxRecDepth 20000 in
theorem st_L_law_383 : bc d M_L_law scr 383 [a0, a1, a2, a3, a4, a5, a6] st h cn sn = bc d M_L_law scr 1940 [a0, a1, a2, a3, a4, a5, a6] st h cn sn := bc_L rfl rfl
set_option maxRecDepth 20000 in
theorem st_L_law_386 : bc d M_L_law scr 386 [a0, some (.ref p), a2, a3, a4, a5, a6] st h cn sn = bc d M_L_law scr 387 [a0, some (.ref p), a2, a3, a4, a5, a6] (.ref p :: st) h cn sn := bc_lda1 rfl rfl
set_option maxRecDepth 20000 in
theorem st_L_law_386t : bc d M_L_law scr 386 [a0, some (.float t), a2, a3, a4, a5, a6] st h cn sn = bc d M_L_law scr 387 [a0, some (.float t), a2, a3, a4, a5, a6] (.float t :: st) h cn sn := bc_ldt1 rfl rfl
set_option maxRecDepth 20000 in
theorem st_L_law_387 : bc d M_L_law scr 387 [some (.ref p), a1, a2, a3, a4, a5, a6] st h cn sn = bc d M_L_law scr 388 [some (.ref p), a1, a2, a3, a4, a5, a6] (.ref p :: st) h cn sn := bc_lda1 rfl rfl
set_option maxRecDepth 20000 in
theorem st_L_law_387t : bc d M_L_law scr 387 [some (.float t), a1, a2, a3, a4, a5, a6] st h cn sn = bc d M_L_law scr 388 [some (.float t), a1, a2, a3, a4, a5, a6] (.float t :: st) h cn sn := bc_ldt1 rfl rfl
set_option maxRecDepth 20000 in
theorem st_L_law_388 : bc d M_L_law scr 388 [a0, a1, a2, a3, some (.int x), a5, a6] st h cn sn = bc d M_L_law scr 390 [a0, a1, a2, a3, some (.int x), a5, a6] (.int x :: st) h cn sn := bc_ldi2 rfl rfl
set_option maxRecDepth 20000 in
theorem st_L_law_390 : bc d M_L_law scr 390 [a0, a1, a2, a3, a4, a5, a6] st h cn sn = bc d M_L_law scr 391 [a0, a1, a2, a3, a4, a5, a6] (.int 1 :: st) h cn sn := bc_L rfl rfl
set_option maxRecDepth 20000 in
theorem st_L_law_391 : bc d M_L_law scr 391 [a0, a1, a2, a3, a4, a5, a6] (.int y :: .int x :: st) h cn sn = bc d M_L_law scr 392 [a0, a1, a2, a3, a4, a5, a6] (.int (x + y) :: st) h cn sn := bc_L rfl rfl
set_option maxRecDepth 20000 in
theorem st_L_law_392 : bc d M_L_law scr 392 [a0, a1, a2, a3, a4, a5, a6] st h cn sn = bM (px_ald scr 392 st h) (fun p s g => bc d M_L_law scr p [a0, a1, a2, a3, a4, a5, a6] s g cn sn) := bc_M (en := (.iaload, 1, 0, 0, 0, .null)) rfl rfl rfl rfl rfl rfl px_I_il
set_option maxRecDepth 20000 in
theorem st_L_law_393 : bc d M_L_law scr 393 [some (.ref p), a1, a2, a3, a4, a5, a6] st h cn sn = bc d M_L_law scr 394 [some (.ref p), a1, a2, a3, a4, a5, a6] (.ref p :: st) h cn sn := bc_lda1 rfl rfl
set_option maxRecDepth 20000 in
theorem st_L_law_393t : bc d M_L_law scr 393 [some (.float t), a1, a2, a3, a4, a5, a6] st h cn sn = bc d M_L_law scr 394 [some (.float t), a1, a2, a3, a4, a5, a6] (.float t :: st) h cn sn := bc_ldt1 rfl rfl
set_option maxRecDepth 20000 in
theorem st_L_law_394 : bc d M_L_law scr 394 [a0, a1, a2, a3, some (.int x), a5, a6] st h cn sn = bc d M_L_law scr 396 [a0, a1, a2, a3, some (.int x), a5, a6] (.int x :: st) h cn sn := bc_ldi2 rfl rfl
set_option maxRecDepth 20000 in
theorem st_L_law_396 : bc d M_L_law scr 396 [a0, a1, a2, a3, a4, a5, a6] st h cn sn = bc d M_L_law scr 397 [a0, a1, a2, a3, a4, a5, a6] (.int 2 :: st) h cn sn := bc_L rfl rfl
set_option maxRecDepth 20000 in
theorem st_L_law_397 : bc d M_L_law scr 397 [a0, a1, a2, a3, a4, a5, a6] (.int y :: .int x :: st) h cn sn = bc d M_L_law scr 398 [a0, a1, a2, a3, a4, a5, a6] (.int (x + y) :: st) h cn sn := bc_L rfl rfl
set_option maxRecDepth 20000 in
theorem st_L_law_398 : bc d M_L_law scr 398 [a0, a1, a2, a3, a4, a5, a6] st h cn sn = bM (px_ald scr 398 st h) (fun p s g => bc d M_L_law scr p [a0, a1, a2, a3, a4, a5, a6] s g cn sn) := bc_M (en := (.iaload, 1, 0, 0, 0, .null)) rfl rfl rfl rfl rfl rfl px_I_il
set_option maxRecDepth 20000 in
theorem st_L_law_399 : bc d M_L_law scr 399 [a0, a1, a2, some (.ref p), a4, a5, a6] st h cn sn = bc d M_L_law scr 400 [a0, a1, a2, some (.ref p), a4, a5, a6] (.ref p :: st) h cn sn := bc_lda1 rfl rfl
set_option maxRecDepth 20000 in
theorem st_L_law_399t : bc d M_L_law scr 399 [a0, a1, a2, some (.float t), a4, a5, a6] st h cn sn = bc d M_L_law scr 400 [a0, a1, a2, some (.float t), a4, a5, a6] (.float t :: st) h cn sn := bc_ldt1 rfl rfl
set_option maxRecDepth 20000 in
theorem st_L_law_400 (hs : px_sum st ≤ 8) : bc (d + 1) M_L_law scr 400 [a0, a1, a2, a3, a4, a5, a6] (.ref p2 :: .int y :: .int x :: .ref p1 :: st) h cn sn = bC (bc d M_L_kettle none 0 [some (.ref p1), some (.int x), some (.int y), some (.ref p2), none] [] h 0 0) (fun v h' c k => bc (d + 1) M_L_law scr 403 [a0, a1, a2, a3, a4, a5, a6] (v.toList ++ st) h' (cn + c) (sn + k)) (fun z h' c k => some (.inr z, h', cn + c, sn + k)) := bc_I rfl rfl rfl rfl rfl rfl rfl (px_I_sta mt_239 rfl hs rfl) rfl rfl rfl
set_option maxRecDepth 20000 in
theorem st_L_law_403 : bc d M_L_law scr 403 [a0, a1, a2, a3, a4, a5, a6] (.int x :: st) h cn sn = bc d M_L_law scr 405 [a0, a1, a2, a3, lc_c2 a4, some (.int x), a6] st h cn sn := bc_Ls1 (en := (.istore 5, 2, 0, 0, 0, .null)) (vs := [a0, a1, a2, a3, a4, a5, a6]) (i := 5) (v := .int x) rfl rfl rfl
set_option maxRecDepth 20000 in
theorem st_L_law_405 : bc d M_L_law scr 405 [a0, a1, some (.ref p), a3, a4, a5, a6] st h cn sn = bc d M_L_law scr 406 [a0, a1, some (.ref p), a3, a4, a5, a6] (.ref p :: st) h cn sn := bc_lda1 rfl rfl
set_option maxRecDepth 20000 in
theorem st_L_law_405t : bc d M_L_law scr 405 [a0, a1, some (.float t), a3, a4, a5, a6] st h cn sn = bc d M_L_law scr 406 [a0, a1, some (.float t), a3, a4, a5, a6] (.float t :: st) h cn sn := bc_ldt1 rfl rfl
set_option maxRecDepth 20000 in
theorem st_L_law_406 : bc d M_L_law scr 406 [some (.ref p), a1, a2, a3, a4, a5, a6] st h cn sn = bc d M_L_law scr 407 [some (.ref p), a1, a2, a3, a4, a5, a6] (.ref p :: st) h cn sn := bc_lda1 rfl rfl
set_option maxRecDepth 20000 in
theorem st_L_law_406t : bc d M_L_law scr 406 [some (.float t), a1, a2, a3, a4, a5, a6] st h cn sn = bc d M_L_law scr 407 [some (.float t), a1, a2, a3, a4, a5, a6] (.float t :: st) h cn sn := bc_ldt1 rfl rfl
set_option maxRecDepth 20000 in
theorem st_L_law_407 : bc d M_L_law scr 407 [a0, a1, a2, a3, some (.int x), a5, a6] st h cn sn = bc d M_L_law scr 409 [a0, a1, a2, a3, some (.int x), a5, a6] (.int x :: st) h cn sn := bc_ldi2 rfl rfl
set_option maxRecDepth 20000 in
theorem st_L_law_409 : bc d M_L_law scr 409 [a0, a1, a2, a3, a4, a5, a6] st h cn sn = bc d M_L_law scr 410 [a0, a1, a2, a3, a4, a5, a6] (.int 1 :: st) h cn sn := bc_L rfl rfl
set_option maxRecDepth 20000 in
theorem st_L_law_410 : bc d M_L_law scr 410 [a0, a1, a2, a3, a4, a5, a6] (.int y :: .int x :: st) h cn sn = bc d M_L_law scr 411 [a0, a1, a2, a3, a4, a5, a6] (.int (x + y) :: st) h cn sn := bc_L rfl rfl
set_option maxRecDepth 20000 in
theorem st_L_law_411 : bc d M_L_law scr 411 [a0, a1, a2, a3, a4, a5, a6] st h cn sn = bM (px_ald scr 411 st h) (fun p s g => bc d M_L_law scr p [a0, a1, a2, a3, a4, a5, a6] s g cn sn) := bc_M (en := (.iaload, 1, 0, 0, 0, .null)) rfl rfl rfl rfl rfl rfl px_I_il
set_option maxRecDepth 20000 in
theorem st_L_law_412 : bc d M_L_law scr 412 [some (.ref p), a1, a2, a3, a4, a5, a6] st h cn sn = bc d M_L_law scr 413 [some (.ref p), a1, a2, a3, a4, a5, a6] (.ref p :: st) h cn sn := bc_lda1 rfl rfl
set_option maxRecDepth 20000 in
theorem st_L_law_412t : bc d M_L_law scr 412 [some (.float t), a1, a2, a3, a4, a5, a6] st h cn sn = bc d M_L_law scr 413 [some (.float t), a1, a2, a3, a4, a5, a6] (.float t :: st) h cn sn := bc_ldt1 rfl rfl
set_option maxRecDepth 20000 in
theorem st_L_law_413 : bc d M_L_law scr 413 [a0, a1, a2, a3, some (.int x), a5, a6] st h cn sn = bc d M_L_law scr 415 [a0, a1, a2, a3, some (.int x), a5, a6] (.int x :: st) h cn sn := bc_ldi2 rfl rfl
set_option maxRecDepth 20000 in
theorem st_L_law_415 : bc d M_L_law scr 415 [a0, a1, a2, a3, a4, a5, a6] st h cn sn = bc d M_L_law scr 416 [a0, a1, a2, a3, a4, a5, a6] (.int 2 :: st) h cn sn := bc_L rfl rfl
set_option maxRecDepth 20000 in
theorem st_L_law_416 : bc d M_L_law scr 416 [a0, a1, a2, a3, a4, a5, a6] (.int y :: .int x :: st) h cn sn = bc d M_L_law scr 417 [a0, a1, a2, a3, a4, a5, a6] (.int (x + y) :: st) h cn sn := bc_L rfl rfl
set_option maxRecDepth 20000 in
theorem st_L_law_417 : bc d M_L_law scr 417 [a0, a1, a2, a3, a4, a5, a6] st h cn sn = bM (px_ald scr 417 st h) (fun p s g => bc d M_L_law scr p [a0, a1, a2, a3, a4, a5, a6] s g cn sn) := bc_M (en := (.iaload, 1, 0, 0, 0, .null)) rfl rfl rfl rfl rfl rfl px_I_il
set_option maxRecDepth 20000 in
theorem st_L_law_418 (hc : hcl h p = some 10) (hs : px_sum st ≤ 8) : bc (d + 1) M_L_law scr 418 [a0, a1, a2, a3, a4, a5, a6] (.int y :: .int x :: .ref p :: st) h cn sn = bC (bc d M_X10_kettle none 0 [some (.ref p), some (.int x), some (.int y)] [] h 0 0) (fun v h' c k => bc (d + 1) M_L_law scr 421 [a0, a1, a2, a3, a4, a5, a6] (v.toList ++ st) h' (cn + c) (sn + k)) (fun z h' c k => some (.inr z, h', cn + c, sn + k)) := bc_I rfl rfl rfl rfl rfl rfl rfl (px_I_vir mt_190 rfl hc hs rfl) rfl rfl rfl
set_option maxRecDepth 20000 in
theorem st_L_law_421 : bc d M_L_law scr 421 [a0, a1, a2, a3, a4, a5, a6] (.int x :: st) h cn sn = bc d M_L_law scr 423 [a0, a1, a2, a3, a4, lc_c2 a5, some (.int x)] st h cn sn := bc_Ls1 (en := (.istore 6, 2, 0, 0, 0, .null)) (vs := [a0, a1, a2, a3, a4, a5, a6]) (i := 6) (v := .int x) rfl rfl rfl
set_option maxRecDepth 20000 in
theorem st_L_law_423 : bc d M_L_law scr 423 [a0, a1, some (.ref p), a3, a4, a5, a6] st h cn sn = bc d M_L_law scr 424 [a0, a1, some (.ref p), a3, a4, a5, a6] (.ref p :: st) h cn sn := bc_lda1 rfl rfl
set_option maxRecDepth 20000 in
theorem st_L_law_423t : bc d M_L_law scr 423 [a0, a1, some (.float t), a3, a4, a5, a6] st h cn sn = bc d M_L_law scr 424 [a0, a1, some (.float t), a3, a4, a5, a6] (.float t :: st) h cn sn := bc_ldt1 rfl rfl
set_option maxRecDepth 20000 in
theorem st_L_law_424 (hc : hcl h p = some 10) (hs : px_sum st ≤ 8) : bc (d + 1) M_L_law scr 424 [a0, a1, a2, a3, a4, a5, a6] (.ref p :: st) h cn sn = bC (bc d M_X10_thrown none 0 [some (.ref p)] [] h 0 0) (fun v h' c k => bc (d + 1) M_L_law scr 427 [a0, a1, a2, a3, a4, a5, a6] (v.toList ++ st) h' (cn + c) (sn + k)) (fun z h' c k => some (.inr z, h', cn + c, sn + k)) := bc_I rfl rfl rfl rfl rfl rfl rfl (px_I_vir mt_133 rfl hc hs rfl) rfl rfl rfl
set_option maxRecDepth 20000 in
theorem st_L_law_427 : bc d M_L_law scr 427 [a0, a1, a2, a3, a4, some (.int x), a6] st h cn sn = bc d M_L_law scr 429 [a0, a1, a2, a3, a4, some (.int x), a6] (.int x :: st) h cn sn := bc_ldi2 rfl rfl
set_option maxRecDepth 20000 in
theorem st_L_law_429 : bc d M_L_law scr 429 [a0, a1, a2, a3, a4, a5, a6] (.int y :: .int x :: st) h cn sn = if x = y then bc d M_L_law scr 434 [a0, a1, a2, a3, a4, a5, a6] st h cn sn else bc d M_L_law scr 432 [a0, a1, a2, a3, a4, a5, a6] st h cn sn := (bc_ic rfl).trans bt_eq
set_option maxRecDepth 20000 in
theorem st_L_law_432 : bc d M_L_law scr 432 [a0, a1, a2, a3, a4, a5, a6] st h cn sn = bc d M_L_law scr 433 [a0, a1, a2, a3, a4, a5, a6] (.int 0 :: st) h cn sn := bc_L rfl rfl
set_option maxRecDepth 20000 in
theorem st_L_law_433 : bc d M_L_law scr 433 [a0, a1, a2, a3, a4, a5, a6] [.int 0] h cn sn = some (.inl (some (.int 0)), h, cn, sn) := bc_E rfl rfl rfl rfl rfl rfl rfl
set_option maxRecDepth 20000 in
theorem st_L_law_433b : bc d M_L_law scr 433 [a0, a1, a2, a3, a4, a5, a6] [.int 1] h cn sn = some (.inl (some (.int 1)), h, cn, sn) := bc_E rfl rfl rfl rfl rfl rfl rfl
set_option maxRecDepth 20000 in
theorem st_L_law_434 : bc d M_L_law scr 434 [a0, a1, a2, a3, a4, some (.int x), a6] st h cn sn = bc d M_L_law scr 436 [a0, a1, a2, a3, a4, some (.int x), a6] (.int x :: st) h cn sn := bc_ldi2 rfl rfl
set_option maxRecDepth 20000 in
theorem st_L_law_436 : bc d M_L_law scr 436 [a0, a1, a2, a3, a4, a5, a6] (.int x :: st) h cn sn = if x = 0 then bc d M_L_law scr 439 [a0, a1, a2, a3, a4, a5, a6] st h cn sn else bc d M_L_law scr 451 [a0, a1, a2, a3, a4, a5, a6] st h cn sn := (bc_if rfl).trans bt_ne
set_option maxRecDepth 20000 in
theorem st_L_law_439 : bc d M_L_law scr 439 [a0, a1, a2, some (.ref p), a4, a5, a6] st h cn sn = bc d M_L_law scr 440 [a0, a1, a2, some (.ref p), a4, a5, a6] (.ref p :: st) h cn sn := bc_lda1 rfl rfl
set_option maxRecDepth 20000 in
theorem st_L_law_439t : bc d M_L_law scr 439 [a0, a1, a2, some (.float t), a4, a5, a6] st h cn sn = bc d M_L_law scr 440 [a0, a1, a2, some (.float t), a4, a5, a6] (.float t :: st) h cn sn := bc_ldt1 rfl rfl
set_option maxRecDepth 20000 in
theorem st_L_law_440 : bc d M_L_law scr 440 [a0, a1, a2, a3, a4, a5, a6] st h cn sn = bc d M_L_law scr 441 [a0, a1, a2, a3, a4, a5, a6] (.int 0 :: st) h cn sn := bc_L rfl rfl
set_option maxRecDepth 20000 in
theorem st_L_law_441 : bc d M_L_law scr 441 [a0, a1, a2, a3, a4, a5, a6] st h cn sn = bM (px_lld 441 st h) (fun p s g => bc d M_L_law scr p [a0, a1, a2, a3, a4, a5, a6] s g cn sn) := bc_M (en := (.laload, 1, 0, 0, 0, .null)) rfl rfl rfl rfl rfl rfl px_I_ll
set_option maxRecDepth 20000 in
theorem st_L_law_442 : bc d M_L_law scr 442 [a0, a1, a2, a3, a4, a5, some (.int x)] st h cn sn = bc d M_L_law scr 444 [a0, a1, a2, a3, a4, a5, some (.int x)] (.int x :: st) h cn sn := bc_ldi2 rfl rfl
set_option maxRecDepth 20000 in
theorem st_L_law_444 : bc d M_L_law scr 444 [a0, a1, a2, a3, a4, a5, a6] (.int x :: st) h cn sn = bc d M_L_law scr 445 [a0, a1, a2, a3, a4, a5, a6] (.long x.toInt64 :: st) h cn sn := bc_L rfl rfl
set_option maxRecDepth 20000 in
theorem st_L_law_445 : bc d M_L_law scr 445 [a0, a1, a2, a3, a4, a5, a6] (.long w :: .long u :: st) h cn sn = bc d M_L_law scr 446 [a0, a1, a2, a3, a4, a5, a6] (.int (lg_cmp u w) :: st) h cn sn := bc_L rfl rfl
set_option maxRecDepth 20000 in
theorem st_L_law_446 : bc d M_L_law scr 446 [a0, a1, a2, a3, a4, a5, a6] (.int x :: st) h cn sn = if x = 0 then bc d M_L_law scr 451 [a0, a1, a2, a3, a4, a5, a6] st h cn sn else bc d M_L_law scr 449 [a0, a1, a2, a3, a4, a5, a6] st h cn sn := (bc_if rfl).trans bt_eq
set_option maxRecDepth 20000 in
theorem st_L_law_449 : bc d M_L_law scr 449 [a0, a1, a2, a3, a4, a5, a6] st h cn sn = bc d M_L_law scr 450 [a0, a1, a2, a3, a4, a5, a6] (.int 0 :: st) h cn sn := bc_L rfl rfl
set_option maxRecDepth 20000 in
theorem st_L_law_450 : bc d M_L_law scr 450 [a0, a1, a2, a3, a4, a5, a6] [.int 0] h cn sn = some (.inl (some (.int 0)), h, cn, sn) := bc_E rfl rfl rfl rfl rfl rfl rfl
set_option maxRecDepth 20000 in
theorem st_L_law_450b : bc d M_L_law scr 450 [a0, a1, a2, a3, a4, a5, a6] [.int 1] h cn sn = some (.inl (some (.int 1)), h, cn, sn) := bc_E rfl rfl rfl rfl rfl rfl rfl
set_option maxRecDepth 20000 in
theorem st_L_law_451 : bc d M_L_law scr 451 [a0, a1, a2, a3, a4, a5, a6] st h cn sn = bc d M_L_law scr 1940 [a0, a1, a2, a3, a4, a5, a6] st h cn sn := bc_L rfl rfl
set_option maxRecDepth 20000 in
theorem st_L_law_454 : bc d M_L_law scr 454 [a0, some (.ref p), a2, a3, a4, a5, a6] st h cn sn = bc d M_L_law scr 455 [a0, some (.ref p), a2, a3, a4, a5, a6] (.ref p :: st) h cn sn := bc_lda1 rfl rfl
set_option maxRecDepth 20000 in
theorem st_L_law_454t : bc d M_L_law scr 454 [a0, some (.float t), a2, a3, a4, a5, a6] st h cn sn = bc d M_L_law scr 455 [a0, some (.float t), a2, a3, a4, a5, a6] (.float t :: st) h cn sn := bc_ldt1 rfl rfl
set_option maxRecDepth 20000 in
theorem st_L_law_455 : bc d M_L_law scr 455 [some (.ref p), a1, a2, a3, a4, a5, a6] st h cn sn = bc d M_L_law scr 456 [some (.ref p), a1, a2, a3, a4, a5, a6] (.ref p :: st) h cn sn := bc_lda1 rfl rfl
set_option maxRecDepth 20000 in
theorem st_L_law_455t : bc d M_L_law scr 455 [some (.float t), a1, a2, a3, a4, a5, a6] st h cn sn = bc d M_L_law scr 456 [some (.float t), a1, a2, a3, a4, a5, a6] (.float t :: st) h cn sn := bc_ldt1 rfl rfl
set_option maxRecDepth 20000 in
theorem st_L_law_456 : bc d M_L_law scr 456 [a0, a1, a2, a3, some (.int x), a5, a6] st h cn sn = bc d M_L_law scr 458 [a0, a1, a2, a3, some (.int x), a5, a6] (.int x :: st) h cn sn := bc_ldi2 rfl rfl
set_option maxRecDepth 20000 in
theorem st_L_law_458 : bc d M_L_law scr 458 [a0, a1, a2, a3, a4, a5, a6] st h cn sn = bc d M_L_law scr 459 [a0, a1, a2, a3, a4, a5, a6] (.int 1 :: st) h cn sn := bc_L rfl rfl
set_option maxRecDepth 20000 in
theorem st_L_law_459 : bc d M_L_law scr 459 [a0, a1, a2, a3, a4, a5, a6] (.int y :: .int x :: st) h cn sn = bc d M_L_law scr 460 [a0, a1, a2, a3, a4, a5, a6] (.int (x + y) :: st) h cn sn := bc_L rfl rfl
set_option maxRecDepth 20000 in
theorem st_L_law_460 : bc d M_L_law scr 460 [a0, a1, a2, a3, a4, a5, a6] st h cn sn = bM (px_ald scr 460 st h) (fun p s g => bc d M_L_law scr p [a0, a1, a2, a3, a4, a5, a6] s g cn sn) := bc_M (en := (.iaload, 1, 0, 0, 0, .null)) rfl rfl rfl rfl rfl rfl px_I_il
set_option maxRecDepth 20000 in
theorem st_L_law_461 : bc d M_L_law scr 461 [some (.ref p), a1, a2, a3, a4, a5, a6] st h cn sn = bc d M_L_law scr 462 [some (.ref p), a1, a2, a3, a4, a5, a6] (.ref p :: st) h cn sn := bc_lda1 rfl rfl
set_option maxRecDepth 20000 in
theorem st_L_law_461t : bc d M_L_law scr 461 [some (.float t), a1, a2, a3, a4, a5, a6] st h cn sn = bc d M_L_law scr 462 [some (.float t), a1, a2, a3, a4, a5, a6] (.float t :: st) h cn sn := bc_ldt1 rfl rfl
set_option maxRecDepth 20000 in
theorem st_L_law_462 : bc d M_L_law scr 462 [a0, a1, a2, a3, some (.int x), a5, a6] st h cn sn = bc d M_L_law scr 464 [a0, a1, a2, a3, some (.int x), a5, a6] (.int x :: st) h cn sn := bc_ldi2 rfl rfl
set_option maxRecDepth 20000 in
theorem st_L_law_464 : bc d M_L_law scr 464 [a0, a1, a2, a3, a4, a5, a6] st h cn sn = bc d M_L_law scr 465 [a0, a1, a2, a3, a4, a5, a6] (.int 2 :: st) h cn sn := bc_L rfl rfl
set_option maxRecDepth 20000 in
theorem st_L_law_465 : bc d M_L_law scr 465 [a0, a1, a2, a3, a4, a5, a6] (.int y :: .int x :: st) h cn sn = bc d M_L_law scr 466 [a0, a1, a2, a3, a4, a5, a6] (.int (x + y) :: st) h cn sn := bc_L rfl rfl
set_option maxRecDepth 20000 in
theorem st_L_law_466 : bc d M_L_law scr 466 [a0, a1, a2, a3, a4, a5, a6] st h cn sn = bM (px_ald scr 466 st h) (fun p s g => bc d M_L_law scr p [a0, a1, a2, a3, a4, a5, a6] s g cn sn) := bc_M (en := (.iaload, 1, 0, 0, 0, .null)) rfl rfl rfl rfl rfl rfl px_I_il
set_option maxRecDepth 20000 in
theorem st_L_law_467 : bc d M_L_law scr 467 [a0, a1, a2, some (.ref p), a4, a5, a6] st h cn sn = bc d M_L_law scr 468 [a0, a1, a2, some (.ref p), a4, a5, a6] (.ref p :: st) h cn sn := bc_lda1 rfl rfl
set_option maxRecDepth 20000 in
theorem st_L_law_467t : bc d M_L_law scr 467 [a0, a1, a2, some (.float t), a4, a5, a6] st h cn sn = bc d M_L_law scr 468 [a0, a1, a2, some (.float t), a4, a5, a6] (.float t :: st) h cn sn := bc_ldt1 rfl rfl
set_option maxRecDepth 20000 in
theorem st_L_law_468 (hs : px_sum st ≤ 8) : bc (d + 1) M_L_law scr 468 [a0, a1, a2, a3, a4, a5, a6] (.ref p2 :: .int y :: .int x :: .ref p1 :: st) h cn sn = bC (bc d M_L_stove none 0 [some (.ref p1), some (.int x), some (.int y), some (.ref p2), none] [] h 0 0) (fun v h' c k => bc (d + 1) M_L_law scr 471 [a0, a1, a2, a3, a4, a5, a6] (v.toList ++ st) h' (cn + c) (sn + k)) (fun z h' c k => some (.inr z, h', cn + c, sn + k)) := bc_I rfl rfl rfl rfl rfl rfl rfl (px_I_sta mt_240 rfl hs rfl) rfl rfl rfl
set_option maxRecDepth 20000 in
theorem st_L_law_471 : bc d M_L_law scr 471 [a0, a1, a2, a3, a4, a5, a6] (.int x :: st) h cn sn = bc d M_L_law scr 473 [a0, a1, a2, a3, lc_c2 a4, some (.int x), a6] st h cn sn := bc_Ls1 (en := (.istore 5, 2, 0, 0, 0, .null)) (vs := [a0, a1, a2, a3, a4, a5, a6]) (i := 5) (v := .int x) rfl rfl rfl
set_option maxRecDepth 20000 in
theorem st_L_law_473 : bc d M_L_law scr 473 [a0, a1, some (.ref p), a3, a4, a5, a6] st h cn sn = bc d M_L_law scr 474 [a0, a1, some (.ref p), a3, a4, a5, a6] (.ref p :: st) h cn sn := bc_lda1 rfl rfl
set_option maxRecDepth 20000 in
theorem st_L_law_473t : bc d M_L_law scr 473 [a0, a1, some (.float t), a3, a4, a5, a6] st h cn sn = bc d M_L_law scr 474 [a0, a1, some (.float t), a3, a4, a5, a6] (.float t :: st) h cn sn := bc_ldt1 rfl rfl
set_option maxRecDepth 20000 in
theorem st_L_law_474 : bc d M_L_law scr 474 [some (.ref p), a1, a2, a3, a4, a5, a6] st h cn sn = bc d M_L_law scr 475 [some (.ref p), a1, a2, a3, a4, a5, a6] (.ref p :: st) h cn sn := bc_lda1 rfl rfl
set_option maxRecDepth 20000 in
theorem st_L_law_474t : bc d M_L_law scr 474 [some (.float t), a1, a2, a3, a4, a5, a6] st h cn sn = bc d M_L_law scr 475 [some (.float t), a1, a2, a3, a4, a5, a6] (.float t :: st) h cn sn := bc_ldt1 rfl rfl
set_option maxRecDepth 20000 in
theorem st_L_law_475 : bc d M_L_law scr 475 [a0, a1, a2, a3, some (.int x), a5, a6] st h cn sn = bc d M_L_law scr 477 [a0, a1, a2, a3, some (.int x), a5, a6] (.int x :: st) h cn sn := bc_ldi2 rfl rfl
set_option maxRecDepth 20000 in
theorem st_L_law_477 : bc d M_L_law scr 477 [a0, a1, a2, a3, a4, a5, a6] st h cn sn = bc d M_L_law scr 478 [a0, a1, a2, a3, a4, a5, a6] (.int 1 :: st) h cn sn := bc_L rfl rfl
set_option maxRecDepth 20000 in
theorem st_L_law_478 : bc d M_L_law scr 478 [a0, a1, a2, a3, a4, a5, a6] (.int y :: .int x :: st) h cn sn = bc d M_L_law scr 479 [a0, a1, a2, a3, a4, a5, a6] (.int (x + y) :: st) h cn sn := bc_L rfl rfl
set_option maxRecDepth 20000 in
theorem st_L_law_479 : bc d M_L_law scr 479 [a0, a1, a2, a3, a4, a5, a6] st h cn sn = bM (px_ald scr 479 st h) (fun p s g => bc d M_L_law scr p [a0, a1, a2, a3, a4, a5, a6] s g cn sn) := bc_M (en := (.iaload, 1, 0, 0, 0, .null)) rfl rfl rfl rfl rfl rfl px_I_il
set_option maxRecDepth 20000 in
theorem st_L_law_480 : bc d M_L_law scr 480 [some (.ref p), a1, a2, a3, a4, a5, a6] st h cn sn = bc d M_L_law scr 481 [some (.ref p), a1, a2, a3, a4, a5, a6] (.ref p :: st) h cn sn := bc_lda1 rfl rfl
set_option maxRecDepth 20000 in
theorem st_L_law_480t : bc d M_L_law scr 480 [some (.float t), a1, a2, a3, a4, a5, a6] st h cn sn = bc d M_L_law scr 481 [some (.float t), a1, a2, a3, a4, a5, a6] (.float t :: st) h cn sn := bc_ldt1 rfl rfl
set_option maxRecDepth 20000 in
theorem st_L_law_481 : bc d M_L_law scr 481 [a0, a1, a2, a3, some (.int x), a5, a6] st h cn sn = bc d M_L_law scr 483 [a0, a1, a2, a3, some (.int x), a5, a6] (.int x :: st) h cn sn := bc_ldi2 rfl rfl
set_option maxRecDepth 20000 in
theorem st_L_law_483 : bc d M_L_law scr 483 [a0, a1, a2, a3, a4, a5, a6] st h cn sn = bc d M_L_law scr 484 [a0, a1, a2, a3, a4, a5, a6] (.int 2 :: st) h cn sn := bc_L rfl rfl
set_option maxRecDepth 20000 in
theorem st_L_law_484 : bc d M_L_law scr 484 [a0, a1, a2, a3, a4, a5, a6] (.int y :: .int x :: st) h cn sn = bc d M_L_law scr 485 [a0, a1, a2, a3, a4, a5, a6] (.int (x + y) :: st) h cn sn := bc_L rfl rfl
set_option maxRecDepth 20000 in
theorem st_L_law_485 : bc d M_L_law scr 485 [a0, a1, a2, a3, a4, a5, a6] st h cn sn = bM (px_ald scr 485 st h) (fun p s g => bc d M_L_law scr p [a0, a1, a2, a3, a4, a5, a6] s g cn sn) := bc_M (en := (.iaload, 1, 0, 0, 0, .null)) rfl rfl rfl rfl rfl rfl px_I_il
set_option maxRecDepth 20000 in
theorem st_L_law_486 (hc : hcl h p = some 10) (hs : px_sum st ≤ 8) : bc (d + 1) M_L_law scr 486 [a0, a1, a2, a3, a4, a5, a6] (.int y :: .int x :: .ref p :: st) h cn sn = bC (bc d M_X10_stove none 0 [some (.ref p), some (.int x), some (.int y)] [] h 0 0) (fun v h' c k => bc (d + 1) M_L_law scr 489 [a0, a1, a2, a3, a4, a5, a6] (v.toList ++ st) h' (cn + c) (sn + k)) (fun z h' c k => some (.inr z, h', cn + c, sn + k)) := bc_I rfl rfl rfl rfl rfl rfl rfl (px_I_vir mt_192 rfl hc hs rfl) rfl rfl rfl
set_option maxRecDepth 20000 in
theorem st_L_law_489 : bc d M_L_law scr 489 [a0, a1, a2, a3, a4, a5, a6] (.int x :: st) h cn sn = bc d M_L_law scr 491 [a0, a1, a2, a3, a4, lc_c2 a5, some (.int x)] st h cn sn := bc_Ls1 (en := (.istore 6, 2, 0, 0, 0, .null)) (vs := [a0, a1, a2, a3, a4, a5, a6]) (i := 6) (v := .int x) rfl rfl rfl
set_option maxRecDepth 20000 in
theorem st_L_law_491 : bc d M_L_law scr 491 [a0, a1, some (.ref p), a3, a4, a5, a6] st h cn sn = bc d M_L_law scr 492 [a0, a1, some (.ref p), a3, a4, a5, a6] (.ref p :: st) h cn sn := bc_lda1 rfl rfl
set_option maxRecDepth 20000 in
theorem st_L_law_491t : bc d M_L_law scr 491 [a0, a1, some (.float t), a3, a4, a5, a6] st h cn sn = bc d M_L_law scr 492 [a0, a1, some (.float t), a3, a4, a5, a6] (.float t :: st) h cn sn := bc_ldt1 rfl rfl
set_option maxRecDepth 20000 in
theorem st_L_law_492 (hc : hcl h p = some 10) (hs : px_sum st ≤ 8) : bc (d + 1) M_L_law scr 492 [a0, a1, a2, a3, a4, a5, a6] (.ref p :: st) h cn sn = bC (bc d M_X10_thrown none 0 [some (.ref p)] [] h 0 0) (fun v h' c k => bc (d + 1) M_L_law scr 495 [a0, a1, a2, a3, a4, a5, a6] (v.toList ++ st) h' (cn + c) (sn + k)) (fun z h' c k => some (.inr z, h', cn + c, sn + k)) := bc_I rfl rfl rfl rfl rfl rfl rfl (px_I_vir mt_133 rfl hc hs rfl) rfl rfl rfl
set_option maxRecDepth 20000 in
theorem st_L_law_495 : bc d M_L_law scr 495 [a0, a1, a2, a3, a4, some (.int x), a6] st h cn sn = bc d M_L_law scr 497 [a0, a1, a2, a3, a4, some (.int x), a6] (.int x :: st) h cn sn := bc_ldi2 rfl rfl
set_option maxRecDepth 20000 in
theorem st_L_law_497 : bc d M_L_law scr 497 [a0, a1, a2, a3, a4, a5, a6] (.int y :: .int x :: st) h cn sn = if x = y then bc d M_L_law scr 502 [a0, a1, a2, a3, a4, a5, a6] st h cn sn else bc d M_L_law scr 500 [a0, a1, a2, a3, a4, a5, a6] st h cn sn := (bc_ic rfl).trans bt_eq
set_option maxRecDepth 20000 in
theorem st_L_law_500 : bc d M_L_law scr 500 [a0, a1, a2, a3, a4, a5, a6] st h cn sn = bc d M_L_law scr 501 [a0, a1, a2, a3, a4, a5, a6] (.int 0 :: st) h cn sn := bc_L rfl rfl
set_option maxRecDepth 20000 in
theorem st_L_law_501 : bc d M_L_law scr 501 [a0, a1, a2, a3, a4, a5, a6] [.int 0] h cn sn = some (.inl (some (.int 0)), h, cn, sn) := bc_E rfl rfl rfl rfl rfl rfl rfl
set_option maxRecDepth 20000 in
theorem st_L_law_501b : bc d M_L_law scr 501 [a0, a1, a2, a3, a4, a5, a6] [.int 1] h cn sn = some (.inl (some (.int 1)), h, cn, sn) := bc_E rfl rfl rfl rfl rfl rfl rfl
set_option maxRecDepth 20000 in
theorem st_L_law_502 : bc d M_L_law scr 502 [a0, a1, a2, a3, a4, some (.int x), a6] st h cn sn = bc d M_L_law scr 504 [a0, a1, a2, a3, a4, some (.int x), a6] (.int x :: st) h cn sn := bc_ldi2 rfl rfl
set_option maxRecDepth 20000 in
theorem st_L_law_504 : bc d M_L_law scr 504 [a0, a1, a2, a3, a4, a5, a6] (.int x :: st) h cn sn = if x = 0 then bc d M_L_law scr 507 [a0, a1, a2, a3, a4, a5, a6] st h cn sn else bc d M_L_law scr 519 [a0, a1, a2, a3, a4, a5, a6] st h cn sn := (bc_if rfl).trans bt_ne
set_option maxRecDepth 20000 in
theorem st_L_law_507 : bc d M_L_law scr 507 [a0, a1, a2, some (.ref p), a4, a5, a6] st h cn sn = bc d M_L_law scr 508 [a0, a1, a2, some (.ref p), a4, a5, a6] (.ref p :: st) h cn sn := bc_lda1 rfl rfl
set_option maxRecDepth 20000 in
theorem st_L_law_507t : bc d M_L_law scr 507 [a0, a1, a2, some (.float t), a4, a5, a6] st h cn sn = bc d M_L_law scr 508 [a0, a1, a2, some (.float t), a4, a5, a6] (.float t :: st) h cn sn := bc_ldt1 rfl rfl
set_option maxRecDepth 20000 in
theorem st_L_law_508 : bc d M_L_law scr 508 [a0, a1, a2, a3, a4, a5, a6] st h cn sn = bc d M_L_law scr 509 [a0, a1, a2, a3, a4, a5, a6] (.int 0 :: st) h cn sn := bc_L rfl rfl
set_option maxRecDepth 20000 in
theorem st_L_law_509 : bc d M_L_law scr 509 [a0, a1, a2, a3, a4, a5, a6] st h cn sn = bM (px_lld 509 st h) (fun p s g => bc d M_L_law scr p [a0, a1, a2, a3, a4, a5, a6] s g cn sn) := bc_M (en := (.laload, 1, 0, 0, 0, .null)) rfl rfl rfl rfl rfl rfl px_I_ll
set_option maxRecDepth 20000 in
theorem st_L_law_510 : bc d M_L_law scr 510 [a0, a1, a2, a3, a4, a5, some (.int x)] st h cn sn = bc d M_L_law scr 512 [a0, a1, a2, a3, a4, a5, some (.int x)] (.int x :: st) h cn sn := bc_ldi2 rfl rfl
set_option maxRecDepth 20000 in
theorem st_L_law_512 : bc d M_L_law scr 512 [a0, a1, a2, a3, a4, a5, a6] (.int x :: st) h cn sn = bc d M_L_law scr 513 [a0, a1, a2, a3, a4, a5, a6] (.long x.toInt64 :: st) h cn sn := bc_L rfl rfl
set_option maxRecDepth 20000 in
theorem st_L_law_513 : bc d M_L_law scr 513 [a0, a1, a2, a3, a4, a5, a6] (.long w :: .long u :: st) h cn sn = bc d M_L_law scr 514 [a0, a1, a2, a3, a4, a5, a6] (.int (lg_cmp u w) :: st) h cn sn := bc_L rfl rfl
set_option maxRecDepth 20000 in
theorem st_L_law_514 : bc d M_L_law scr 514 [a0, a1, a2, a3, a4, a5, a6] (.int x :: st) h cn sn = if x = 0 then bc d M_L_law scr 519 [a0, a1, a2, a3, a4, a5, a6] st h cn sn else bc d M_L_law scr 517 [a0, a1, a2, a3, a4, a5, a6] st h cn sn := (bc_if rfl).trans bt_eq
set_option maxRecDepth 20000 in
theorem st_L_law_517 : bc d M_L_law scr 517 [a0, a1, a2, a3, a4, a5, a6] st h cn sn = bc d M_L_law scr 518 [a0, a1, a2, a3, a4, a5, a6] (.int 0 :: st) h cn sn := bc_L rfl rfl
set_option maxRecDepth 20000 in
theorem st_L_law_518 : bc d M_L_law scr 518 [a0, a1, a2, a3, a4, a5, a6] [.int 0] h cn sn = some (.inl (some (.int 0)), h, cn, sn) := bc_E rfl rfl rfl rfl rfl rfl rfl
set_option maxRecDepth 20000 in
theorem st_L_law_518b : bc d M_L_law scr 518 [a0, a1, a2, a3, a4, a5, a6] [.int 1] h cn sn = some (.inl (some (.int 1)), h, cn, sn) := bc_E rfl rfl rfl rfl rfl rfl rfl
set_option maxRecDepth 20000 in
theorem st_L_law_519 : bc d M_L_law scr 519 [a0, a1, a2, a3, a4, a5, a6] st h cn sn = bc d M_L_law scr 1940 [a0, a1, a2, a3, a4, a5, a6] st h cn sn := bc_L rfl rfl
set_option maxRecDepth 20000 in
theorem st_L_law_522 : bc d M_L_law scr 522 [a0, some (.ref p), a2, a3, a4, a5, a6] st h cn sn = bc d M_L_law scr 523 [a0, some (.ref p), a2, a3, a4, a5, a6] (.ref p :: st) h cn sn := bc_lda1 rfl rfl
set_option maxRecDepth 20000 in
theorem st_L_law_522t : bc d M_L_law scr 522 [a0, some (.float t), a2, a3, a4, a5, a6] st h cn sn = bc d M_L_law scr 523 [a0, some (.float t), a2, a3, a4, a5, a6] (.float t :: st) h cn sn := bc_ldt1 rfl rfl
set_option maxRecDepth 20000 in
theorem st_L_law_523 : bc d M_L_law scr 523 [some (.ref p), a1, a2, a3, a4, a5, a6] st h cn sn = bc d M_L_law scr 524 [some (.ref p), a1, a2, a3, a4, a5, a6] (.ref p :: st) h cn sn := bc_lda1 rfl rfl
set_option maxRecDepth 20000 in
theorem st_L_law_523t : bc d M_L_law scr 523 [some (.float t), a1, a2, a3, a4, a5, a6] st h cn sn = bc d M_L_law scr 524 [some (.float t), a1, a2, a3, a4, a5, a6] (.float t :: st) h cn sn := bc_ldt1 rfl rfl
set_option maxRecDepth 20000 in
theorem st_L_law_524 : bc d M_L_law scr 524 [a0, a1, a2, a3, some (.int x), a5, a6] st h cn sn = bc d M_L_law scr 526 [a0, a1, a2, a3, some (.int x), a5, a6] (.int x :: st) h cn sn := bc_ldi2 rfl rfl
set_option maxRecDepth 20000 in
theorem st_L_law_526 : bc d M_L_law scr 526 [a0, a1, a2, a3, a4, a5, a6] st h cn sn = bc d M_L_law scr 527 [a0, a1, a2, a3, a4, a5, a6] (.int 1 :: st) h cn sn := bc_L rfl rfl
set_option maxRecDepth 20000 in
theorem st_L_law_527 : bc d M_L_law scr 527 [a0, a1, a2, a3, a4, a5, a6] (.int y :: .int x :: st) h cn sn = bc d M_L_law scr 528 [a0, a1, a2, a3, a4, a5, a6] (.int (x + y) :: st) h cn sn := bc_L rfl rfl
set_option maxRecDepth 20000 in
theorem st_L_law_528 : bc d M_L_law scr 528 [a0, a1, a2, a3, a4, a5, a6] st h cn sn = bM (px_ald scr 528 st h) (fun p s g => bc d M_L_law scr p [a0, a1, a2, a3, a4, a5, a6] s g cn sn) := bc_M (en := (.iaload, 1, 0, 0, 0, .null)) rfl rfl rfl rfl rfl rfl px_I_il
set_option maxRecDepth 20000 in
theorem st_L_law_529 : bc d M_L_law scr 529 [some (.ref p), a1, a2, a3, a4, a5, a6] st h cn sn = bc d M_L_law scr 530 [some (.ref p), a1, a2, a3, a4, a5, a6] (.ref p :: st) h cn sn := bc_lda1 rfl rfl
set_option maxRecDepth 20000 in
theorem st_L_law_529t : bc d M_L_law scr 529 [some (.float t), a1, a2, a3, a4, a5, a6] st h cn sn = bc d M_L_law scr 530 [some (.float t), a1, a2, a3, a4, a5, a6] (.float t :: st) h cn sn := bc_ldt1 rfl rfl
set_option maxRecDepth 20000 in
theorem st_L_law_530 : bc d M_L_law scr 530 [a0, a1, a2, a3, some (.int x), a5, a6] st h cn sn = bc d M_L_law scr 532 [a0, a1, a2, a3, some (.int x), a5, a6] (.int x :: st) h cn sn := bc_ldi2 rfl rfl
set_option maxRecDepth 20000 in
theorem st_L_law_532 : bc d M_L_law scr 532 [a0, a1, a2, a3, a4, a5, a6] st h cn sn = bc d M_L_law scr 533 [a0, a1, a2, a3, a4, a5, a6] (.int 2 :: st) h cn sn := bc_L rfl rfl
set_option maxRecDepth 20000 in
theorem st_L_law_533 : bc d M_L_law scr 533 [a0, a1, a2, a3, a4, a5, a6] (.int y :: .int x :: st) h cn sn = bc d M_L_law scr 534 [a0, a1, a2, a3, a4, a5, a6] (.int (x + y) :: st) h cn sn := bc_L rfl rfl
set_option maxRecDepth 20000 in
theorem st_L_law_534 : bc d M_L_law scr 534 [a0, a1, a2, a3, a4, a5, a6] st h cn sn = bM (px_ald scr 534 st h) (fun p s g => bc d M_L_law scr p [a0, a1, a2, a3, a4, a5, a6] s g cn sn) := bc_M (en := (.iaload, 1, 0, 0, 0, .null)) rfl rfl rfl rfl rfl rfl px_I_il
set_option maxRecDepth 20000 in
theorem st_L_law_535 : bc d M_L_law scr 535 [a0, a1, a2, some (.ref p), a4, a5, a6] st h cn sn = bc d M_L_law scr 536 [a0, a1, a2, some (.ref p), a4, a5, a6] (.ref p :: st) h cn sn := bc_lda1 rfl rfl
set_option maxRecDepth 20000 in
theorem st_L_law_535t : bc d M_L_law scr 535 [a0, a1, a2, some (.float t), a4, a5, a6] st h cn sn = bc d M_L_law scr 536 [a0, a1, a2, some (.float t), a4, a5, a6] (.float t :: st) h cn sn := bc_ldt1 rfl rfl
set_option maxRecDepth 20000 in
theorem st_L_law_536 (hs : px_sum st ≤ 8) : bc (d + 1) M_L_law scr 536 [a0, a1, a2, a3, a4, a5, a6] (.ref p2 :: .int y :: .int x :: .ref p1 :: st) h cn sn = bC (bc d M_L_dish none 0 [some (.ref p1), some (.int x), some (.int y), some (.ref p2), none] [] h 0 0) (fun v h' c k => bc (d + 1) M_L_law scr 539 [a0, a1, a2, a3, a4, a5, a6] (v.toList ++ st) h' (cn + c) (sn + k)) (fun z h' c k => some (.inr z, h', cn + c, sn + k)) := bc_I rfl rfl rfl rfl rfl rfl rfl (px_I_sta mt_241 rfl hs rfl) rfl rfl rfl
set_option maxRecDepth 20000 in
theorem st_L_law_539 : bc d M_L_law scr 539 [a0, a1, a2, a3, a4, a5, a6] (.int x :: st) h cn sn = bc d M_L_law scr 541 [a0, a1, a2, a3, lc_c2 a4, some (.int x), a6] st h cn sn := bc_Ls1 (en := (.istore 5, 2, 0, 0, 0, .null)) (vs := [a0, a1, a2, a3, a4, a5, a6]) (i := 5) (v := .int x) rfl rfl rfl
set_option maxRecDepth 20000 in
theorem st_L_law_541 : bc d M_L_law scr 541 [a0, a1, some (.ref p), a3, a4, a5, a6] st h cn sn = bc d M_L_law scr 542 [a0, a1, some (.ref p), a3, a4, a5, a6] (.ref p :: st) h cn sn := bc_lda1 rfl rfl
set_option maxRecDepth 20000 in
theorem st_L_law_541t : bc d M_L_law scr 541 [a0, a1, some (.float t), a3, a4, a5, a6] st h cn sn = bc d M_L_law scr 542 [a0, a1, some (.float t), a3, a4, a5, a6] (.float t :: st) h cn sn := bc_ldt1 rfl rfl
set_option maxRecDepth 20000 in
theorem st_L_law_542 : bc d M_L_law scr 542 [some (.ref p), a1, a2, a3, a4, a5, a6] st h cn sn = bc d M_L_law scr 543 [some (.ref p), a1, a2, a3, a4, a5, a6] (.ref p :: st) h cn sn := bc_lda1 rfl rfl
set_option maxRecDepth 20000 in
theorem st_L_law_542t : bc d M_L_law scr 542 [some (.float t), a1, a2, a3, a4, a5, a6] st h cn sn = bc d M_L_law scr 543 [some (.float t), a1, a2, a3, a4, a5, a6] (.float t :: st) h cn sn := bc_ldt1 rfl rfl
set_option maxRecDepth 20000 in
theorem st_L_law_543 : bc d M_L_law scr 543 [a0, a1, a2, a3, some (.int x), a5, a6] st h cn sn = bc d M_L_law scr 545 [a0, a1, a2, a3, some (.int x), a5, a6] (.int x :: st) h cn sn := bc_ldi2 rfl rfl
set_option maxRecDepth 20000 in
theorem st_L_law_545 : bc d M_L_law scr 545 [a0, a1, a2, a3, a4, a5, a6] st h cn sn = bc d M_L_law scr 546 [a0, a1, a2, a3, a4, a5, a6] (.int 1 :: st) h cn sn := bc_L rfl rfl
set_option maxRecDepth 20000 in
theorem st_L_law_546 : bc d M_L_law scr 546 [a0, a1, a2, a3, a4, a5, a6] (.int y :: .int x :: st) h cn sn = bc d M_L_law scr 547 [a0, a1, a2, a3, a4, a5, a6] (.int (x + y) :: st) h cn sn := bc_L rfl rfl
set_option maxRecDepth 20000 in
theorem st_L_law_547 : bc d M_L_law scr 547 [a0, a1, a2, a3, a4, a5, a6] st h cn sn = bM (px_ald scr 547 st h) (fun p s g => bc d M_L_law scr p [a0, a1, a2, a3, a4, a5, a6] s g cn sn) := bc_M (en := (.iaload, 1, 0, 0, 0, .null)) rfl rfl rfl rfl rfl rfl px_I_il
set_option maxRecDepth 20000 in
theorem st_L_law_548 : bc d M_L_law scr 548 [some (.ref p), a1, a2, a3, a4, a5, a6] st h cn sn = bc d M_L_law scr 549 [some (.ref p), a1, a2, a3, a4, a5, a6] (.ref p :: st) h cn sn := bc_lda1 rfl rfl
set_option maxRecDepth 20000 in
theorem st_L_law_548t : bc d M_L_law scr 548 [some (.float t), a1, a2, a3, a4, a5, a6] st h cn sn = bc d M_L_law scr 549 [some (.float t), a1, a2, a3, a4, a5, a6] (.float t :: st) h cn sn := bc_ldt1 rfl rfl
set_option maxRecDepth 20000 in
theorem st_L_law_549 : bc d M_L_law scr 549 [a0, a1, a2, a3, some (.int x), a5, a6] st h cn sn = bc d M_L_law scr 551 [a0, a1, a2, a3, some (.int x), a5, a6] (.int x :: st) h cn sn := bc_ldi2 rfl rfl
set_option maxRecDepth 20000 in
theorem st_L_law_551 : bc d M_L_law scr 551 [a0, a1, a2, a3, a4, a5, a6] st h cn sn = bc d M_L_law scr 552 [a0, a1, a2, a3, a4, a5, a6] (.int 2 :: st) h cn sn := bc_L rfl rfl
set_option maxRecDepth 20000 in
theorem st_L_law_552 : bc d M_L_law scr 552 [a0, a1, a2, a3, a4, a5, a6] (.int y :: .int x :: st) h cn sn = bc d M_L_law scr 553 [a0, a1, a2, a3, a4, a5, a6] (.int (x + y) :: st) h cn sn := bc_L rfl rfl
set_option maxRecDepth 20000 in
theorem st_L_law_553 : bc d M_L_law scr 553 [a0, a1, a2, a3, a4, a5, a6] st h cn sn = bM (px_ald scr 553 st h) (fun p s g => bc d M_L_law scr p [a0, a1, a2, a3, a4, a5, a6] s g cn sn) := bc_M (en := (.iaload, 1, 0, 0, 0, .null)) rfl rfl rfl rfl rfl rfl px_I_il
set_option maxRecDepth 20000 in
theorem st_L_law_554 (hc : hcl h p = some 10) (hs : px_sum st ≤ 8) : bc (d + 1) M_L_law scr 554 [a0, a1, a2, a3, a4, a5, a6] (.int y :: .int x :: .ref p :: st) h cn sn = bC (bc d M_X10_dish none 0 [some (.ref p), some (.int x), some (.int y)] [] h 0 0) (fun v h' c k => bc (d + 1) M_L_law scr 557 [a0, a1, a2, a3, a4, a5, a6] (v.toList ++ st) h' (cn + c) (sn + k)) (fun z h' c k => some (.inr z, h', cn + c, sn + k)) := bc_I rfl rfl rfl rfl rfl rfl rfl (px_I_vir mt_193 rfl hc hs rfl) rfl rfl rfl
set_option maxRecDepth 20000 in
theorem st_L_law_557 : bc d M_L_law scr 557 [a0, a1, a2, a3, a4, a5, a6] (.int x :: st) h cn sn = bc d M_L_law scr 559 [a0, a1, a2, a3, a4, lc_c2 a5, some (.int x)] st h cn sn := bc_Ls1 (en := (.istore 6, 2, 0, 0, 0, .null)) (vs := [a0, a1, a2, a3, a4, a5, a6]) (i := 6) (v := .int x) rfl rfl rfl
set_option maxRecDepth 20000 in
theorem st_L_law_559 : bc d M_L_law scr 559 [a0, a1, some (.ref p), a3, a4, a5, a6] st h cn sn = bc d M_L_law scr 560 [a0, a1, some (.ref p), a3, a4, a5, a6] (.ref p :: st) h cn sn := bc_lda1 rfl rfl
set_option maxRecDepth 20000 in
theorem st_L_law_559t : bc d M_L_law scr 559 [a0, a1, some (.float t), a3, a4, a5, a6] st h cn sn = bc d M_L_law scr 560 [a0, a1, some (.float t), a3, a4, a5, a6] (.float t :: st) h cn sn := bc_ldt1 rfl rfl
set_option maxRecDepth 20000 in
theorem st_L_law_560 (hc : hcl h p = some 10) (hs : px_sum st ≤ 8) : bc (d + 1) M_L_law scr 560 [a0, a1, a2, a3, a4, a5, a6] (.ref p :: st) h cn sn = bC (bc d M_X10_thrown none 0 [some (.ref p)] [] h 0 0) (fun v h' c k => bc (d + 1) M_L_law scr 563 [a0, a1, a2, a3, a4, a5, a6] (v.toList ++ st) h' (cn + c) (sn + k)) (fun z h' c k => some (.inr z, h', cn + c, sn + k)) := bc_I rfl rfl rfl rfl rfl rfl rfl (px_I_vir mt_133 rfl hc hs rfl) rfl rfl rfl
set_option maxRecDepth 20000 in
theorem st_L_law_563 : bc d M_L_law scr 563 [a0, a1, a2, a3, a4, some (.int x), a6] st h cn sn = bc d M_L_law scr 565 [a0, a1, a2, a3, a4, some (.int x), a6] (.int x :: st) h cn sn := bc_ldi2 rfl rfl
set_option maxRecDepth 20000 in
theorem st_L_law_565 : bc d M_L_law scr 565 [a0, a1, a2, a3, a4, a5, a6] (.int y :: .int x :: st) h cn sn = if x = y then bc d M_L_law scr 570 [a0, a1, a2, a3, a4, a5, a6] st h cn sn else bc d M_L_law scr 568 [a0, a1, a2, a3, a4, a5, a6] st h cn sn := (bc_ic rfl).trans bt_eq
set_option maxRecDepth 20000 in
theorem st_L_law_568 : bc d M_L_law scr 568 [a0, a1, a2, a3, a4, a5, a6] st h cn sn = bc d M_L_law scr 569 [a0, a1, a2, a3, a4, a5, a6] (.int 0 :: st) h cn sn := bc_L rfl rfl
set_option maxRecDepth 20000 in
theorem st_L_law_569 : bc d M_L_law scr 569 [a0, a1, a2, a3, a4, a5, a6] [.int 0] h cn sn = some (.inl (some (.int 0)), h, cn, sn) := bc_E rfl rfl rfl rfl rfl rfl rfl
set_option maxRecDepth 20000 in
theorem st_L_law_569b : bc d M_L_law scr 569 [a0, a1, a2, a3, a4, a5, a6] [.int 1] h cn sn = some (.inl (some (.int 1)), h, cn, sn) := bc_E rfl rfl rfl rfl rfl rfl rfl
set_option maxRecDepth 20000 in
theorem st_L_law_570 : bc d M_L_law scr 570 [a0, a1, a2, a3, a4, some (.int x), a6] st h cn sn = bc d M_L_law scr 572 [a0, a1, a2, a3, a4, some (.int x), a6] (.int x :: st) h cn sn := bc_ldi2 rfl rfl
set_option maxRecDepth 20000 in
theorem st_L_law_572 : bc d M_L_law scr 572 [a0, a1, a2, a3, a4, a5, a6] (.int x :: st) h cn sn = if x = 0 then bc d M_L_law scr 575 [a0, a1, a2, a3, a4, a5, a6] st h cn sn else bc d M_L_law scr 587 [a0, a1, a2, a3, a4, a5, a6] st h cn sn := (bc_if rfl).trans bt_ne
set_option maxRecDepth 20000 in
theorem st_L_law_575 : bc d M_L_law scr 575 [a0, a1, a2, some (.ref p), a4, a5, a6] st h cn sn = bc d M_L_law scr 576 [a0, a1, a2, some (.ref p), a4, a5, a6] (.ref p :: st) h cn sn := bc_lda1 rfl rfl
set_option maxRecDepth 20000 in
theorem st_L_law_575t : bc d M_L_law scr 575 [a0, a1, a2, some (.float t), a4, a5, a6] st h cn sn = bc d M_L_law scr 576 [a0, a1, a2, some (.float t), a4, a5, a6] (.float t :: st) h cn sn := bc_ldt1 rfl rfl
set_option maxRecDepth 20000 in
theorem st_L_law_576 : bc d M_L_law scr 576 [a0, a1, a2, a3, a4, a5, a6] st h cn sn = bc d M_L_law scr 577 [a0, a1, a2, a3, a4, a5, a6] (.int 0 :: st) h cn sn := bc_L rfl rfl
set_option maxRecDepth 20000 in
theorem st_L_law_577 : bc d M_L_law scr 577 [a0, a1, a2, a3, a4, a5, a6] st h cn sn = bM (px_lld 577 st h) (fun p s g => bc d M_L_law scr p [a0, a1, a2, a3, a4, a5, a6] s g cn sn) := bc_M (en := (.laload, 1, 0, 0, 0, .null)) rfl rfl rfl rfl rfl rfl px_I_ll
set_option maxRecDepth 20000 in
theorem st_L_law_578 : bc d M_L_law scr 578 [a0, a1, a2, a3, a4, a5, some (.int x)] st h cn sn = bc d M_L_law scr 580 [a0, a1, a2, a3, a4, a5, some (.int x)] (.int x :: st) h cn sn := bc_ldi2 rfl rfl
set_option maxRecDepth 20000 in
theorem st_L_law_580 : bc d M_L_law scr 580 [a0, a1, a2, a3, a4, a5, a6] (.int x :: st) h cn sn = bc d M_L_law scr 581 [a0, a1, a2, a3, a4, a5, a6] (.long x.toInt64 :: st) h cn sn := bc_L rfl rfl
set_option maxRecDepth 20000 in
theorem st_L_law_581 : bc d M_L_law scr 581 [a0, a1, a2, a3, a4, a5, a6] (.long w :: .long u :: st) h cn sn = bc d M_L_law scr 582 [a0, a1, a2, a3, a4, a5, a6] (.int (lg_cmp u w) :: st) h cn sn := bc_L rfl rfl
set_option maxRecDepth 20000 in
theorem st_L_law_582 : bc d M_L_law scr 582 [a0, a1, a2, a3, a4, a5, a6] (.int x :: st) h cn sn = if x = 0 then bc d M_L_law scr 587 [a0, a1, a2, a3, a4, a5, a6] st h cn sn else bc d M_L_law scr 585 [a0, a1, a2, a3, a4, a5, a6] st h cn sn := (bc_if rfl).trans bt_eq
set_option maxRecDepth 20000 in
theorem st_L_law_585 : bc d M_L_law scr 585 [a0, a1, a2, a3, a4, a5, a6] st h cn sn = bc d M_L_law scr 586 [a0, a1, a2, a3, a4, a5, a6] (.int 0 :: st) h cn sn := bc_L rfl rfl
set_option maxRecDepth 20000 in
theorem st_L_law_586 : bc d M_L_law scr 586 [a0, a1, a2, a3, a4, a5, a6] [.int 0] h cn sn = some (.inl (some (.int 0)), h, cn, sn) := bc_E rfl rfl rfl rfl rfl rfl rfl
set_option maxRecDepth 20000 in
theorem st_L_law_586b : bc d M_L_law scr 586 [a0, a1, a2, a3, a4, a5, a6] [.int 1] h cn sn = some (.inl (some (.int 1)), h, cn, sn) := bc_E rfl rfl rfl rfl rfl rfl rfl
set_option maxRecDepth 20000 in
theorem st_L_law_587 : bc d M_L_law scr 587 [a0, a1, a2, a3, a4, a5, a6] st h cn sn = bc d M_L_law scr 1940 [a0, a1, a2, a3, a4, a5, a6] st h cn sn := bc_L rfl rfl
set_option maxRecDepth 20000 in
theorem st_L_law_590 : bc d M_L_law scr 590 [a0, some (.ref p), a2, a3, a4, a5, a6] st h cn sn = bc d M_L_law scr 591 [a0, some (.ref p), a2, a3, a4, a5, a6] (.ref p :: st) h cn sn := bc_lda1 rfl rfl
set_option maxRecDepth 20000 in
theorem st_L_law_590t : bc d M_L_law scr 590 [a0, some (.float t), a2, a3, a4, a5, a6] st h cn sn = bc d M_L_law scr 591 [a0, some (.float t), a2, a3, a4, a5, a6] (.float t :: st) h cn sn := bc_ldt1 rfl rfl
set_option maxRecDepth 20000 in
theorem st_L_law_591 : bc d M_L_law scr 591 [some (.ref p), a1, a2, a3, a4, a5, a6] st h cn sn = bc d M_L_law scr 592 [some (.ref p), a1, a2, a3, a4, a5, a6] (.ref p :: st) h cn sn := bc_lda1 rfl rfl
set_option maxRecDepth 20000 in
theorem st_L_law_591t : bc d M_L_law scr 591 [some (.float t), a1, a2, a3, a4, a5, a6] st h cn sn = bc d M_L_law scr 592 [some (.float t), a1, a2, a3, a4, a5, a6] (.float t :: st) h cn sn := bc_ldt1 rfl rfl
set_option maxRecDepth 20000 in
theorem st_L_law_592 : bc d M_L_law scr 592 [a0, a1, a2, a3, some (.int x), a5, a6] st h cn sn = bc d M_L_law scr 594 [a0, a1, a2, a3, some (.int x), a5, a6] (.int x :: st) h cn sn := bc_ldi2 rfl rfl
set_option maxRecDepth 20000 in
theorem st_L_law_594 : bc d M_L_law scr 594 [a0, a1, a2, a3, a4, a5, a6] st h cn sn = bc d M_L_law scr 595 [a0, a1, a2, a3, a4, a5, a6] (.int 1 :: st) h cn sn := bc_L rfl rfl
set_option maxRecDepth 20000 in
theorem st_L_law_595 : bc d M_L_law scr 595 [a0, a1, a2, a3, a4, a5, a6] (.int y :: .int x :: st) h cn sn = bc d M_L_law scr 596 [a0, a1, a2, a3, a4, a5, a6] (.int (x + y) :: st) h cn sn := bc_L rfl rfl
set_option maxRecDepth 20000 in
theorem st_L_law_596 : bc d M_L_law scr 596 [a0, a1, a2, a3, a4, a5, a6] st h cn sn = bM (px_ald scr 596 st h) (fun p s g => bc d M_L_law scr p [a0, a1, a2, a3, a4, a5, a6] s g cn sn) := bc_M (en := (.iaload, 1, 0, 0, 0, .null)) rfl rfl rfl rfl rfl rfl px_I_il
set_option maxRecDepth 20000 in
theorem st_L_law_597 (hc : hcl h p = some 9) (hs : px_sum st ≤ 8) : bc (d + 1) M_L_law scr 597 [a0, a1, a2, a3, a4, a5, a6] (.int x :: .ref p :: st) h cn sn = bC (bc d M_X9_minutes none 0 [some (.ref p), some (.int x), none] [] h 0 0) (fun v h' c k => bc (d + 1) M_L_law scr 600 [a0, a1, a2, a3, a4, a5, a6] (v.toList ++ st) h' (cn + c) (sn + k)) (fun z h' c k => some (.inr z, h', cn + c, sn + k)) := bc_I rfl rfl rfl rfl rfl rfl rfl (px_I_vir mt_86 rfl hc hs rfl) rfl rfl rfl
set_option maxRecDepth 20000 in
theorem st_L_law_600 : bc d M_L_law scr 600 [a0, a1, some (.ref p), a3, a4, a5, a6] st h cn sn = bc d M_L_law scr 601 [a0, a1, some (.ref p), a3, a4, a5, a6] (.ref p :: st) h cn sn := bc_lda1 rfl rfl
set_option maxRecDepth 20000 in
theorem st_L_law_600t : bc d M_L_law scr 600 [a0, a1, some (.float t), a3, a4, a5, a6] st h cn sn = bc d M_L_law scr 601 [a0, a1, some (.float t), a3, a4, a5, a6] (.float t :: st) h cn sn := bc_ldt1 rfl rfl
set_option maxRecDepth 20000 in
theorem st_L_law_601 : bc d M_L_law scr 601 [some (.ref p), a1, a2, a3, a4, a5, a6] st h cn sn = bc d M_L_law scr 602 [some (.ref p), a1, a2, a3, a4, a5, a6] (.ref p :: st) h cn sn := bc_lda1 rfl rfl
set_option maxRecDepth 20000 in
theorem st_L_law_601t : bc d M_L_law scr 601 [some (.float t), a1, a2, a3, a4, a5, a6] st h cn sn = bc d M_L_law scr 602 [some (.float t), a1, a2, a3, a4, a5, a6] (.float t :: st) h cn sn := bc_ldt1 rfl rfl
set_option maxRecDepth 20000 in
theorem st_L_law_602 : bc d M_L_law scr 602 [a0, a1, a2, a3, some (.int x), a5, a6] st h cn sn = bc d M_L_law scr 604 [a0, a1, a2, a3, some (.int x), a5, a6] (.int x :: st) h cn sn := bc_ldi2 rfl rfl
set_option maxRecDepth 20000 in
theorem st_L_law_604 : bc d M_L_law scr 604 [a0, a1, a2, a3, a4, a5, a6] st h cn sn = bc d M_L_law scr 605 [a0, a1, a2, a3, a4, a5, a6] (.int 1 :: st) h cn sn := bc_L rfl rfl
set_option maxRecDepth 20000 in
theorem st_L_law_605 : bc d M_L_law scr 605 [a0, a1, a2, a3, a4, a5, a6] (.int y :: .int x :: st) h cn sn = bc d M_L_law scr 606 [a0, a1, a2, a3, a4, a5, a6] (.int (x + y) :: st) h cn sn := bc_L rfl rfl
set_option maxRecDepth 20000 in
theorem st_L_law_606 : bc d M_L_law scr 606 [a0, a1, a2, a3, a4, a5, a6] st h cn sn = bM (px_ald scr 606 st h) (fun p s g => bc d M_L_law scr p [a0, a1, a2, a3, a4, a5, a6] s g cn sn) := bc_M (en := (.iaload, 1, 0, 0, 0, .null)) rfl rfl rfl rfl rfl rfl px_I_il
set_option maxRecDepth 20000 in
theorem st_L_law_607 (hc : hcl h p = some 10) (hs : px_sum st ≤ 8) : bc (d + 1) M_L_law scr 607 [a0, a1, a2, a3, a4, a5, a6] (.int x :: .ref p :: st) h cn sn = bC (bc d M_X10_minutes none 0 [some (.ref p), some (.int x), none] [] h 0 0) (fun v h' c k => bc (d + 1) M_L_law scr 610 [a0, a1, a2, a3, a4, a5, a6] (v.toList ++ st) h' (cn + c) (sn + k)) (fun z h' c k => some (.inr z, h', cn + c, sn + k)) := bc_I rfl rfl rfl rfl rfl rfl rfl (px_I_vir mt_196 rfl hc hs rfl) rfl rfl rfl
set_option maxRecDepth 20000 in
theorem st_L_law_610 : bc d M_L_law scr 610 [a0, a1, a2, a3, a4, a5, a6] (.int y :: .int x :: st) h cn sn = if x = y then bc d M_L_law scr 1940 [a0, a1, a2, a3, a4, a5, a6] st h cn sn else bc d M_L_law scr 613 [a0, a1, a2, a3, a4, a5, a6] st h cn sn := (bc_ic rfl).trans bt_eq
set_option maxRecDepth 20000 in
theorem st_L_law_613 : bc d M_L_law scr 613 [a0, a1, a2, a3, a4, a5, a6] st h cn sn = bc d M_L_law scr 614 [a0, a1, a2, a3, a4, a5, a6] (.int 0 :: st) h cn sn := bc_L rfl rfl
set_option maxRecDepth 20000 in
theorem st_L_law_614 : bc d M_L_law scr 614 [a0, a1, a2, a3, a4, a5, a6] [.int 0] h cn sn = some (.inl (some (.int 0)), h, cn, sn) := bc_E rfl rfl rfl rfl rfl rfl rfl
set_option maxRecDepth 20000 in
theorem st_L_law_614b : bc d M_L_law scr 614 [a0, a1, a2, a3, a4, a5, a6] [.int 1] h cn sn = some (.inl (some (.int 1)), h, cn, sn) := bc_E rfl rfl rfl rfl rfl rfl rfl
set_option maxRecDepth 20000 in
theorem st_L_law_615 : bc d M_L_law scr 615 [a0, some (.ref p), a2, a3, a4, a5, a6] st h cn sn = bc d M_L_law scr 616 [a0, some (.ref p), a2, a3, a4, a5, a6] (.ref p :: st) h cn sn := bc_lda1 rfl rfl
set_option maxRecDepth 20000 in
theorem st_L_law_615t : bc d M_L_law scr 615 [a0, some (.float t), a2, a3, a4, a5, a6] st h cn sn = bc d M_L_law scr 616 [a0, some (.float t), a2, a3, a4, a5, a6] (.float t :: st) h cn sn := bc_ldt1 rfl rfl
set_option maxRecDepth 20000 in
theorem st_L_law_616 : bc d M_L_law scr 616 [some (.ref p), a1, a2, a3, a4, a5, a6] st h cn sn = bc d M_L_law scr 617 [some (.ref p), a1, a2, a3, a4, a5, a6] (.ref p :: st) h cn sn := bc_lda1 rfl rfl
set_option maxRecDepth 20000 in
theorem st_L_law_616t : bc d M_L_law scr 616 [some (.float t), a1, a2, a3, a4, a5, a6] st h cn sn = bc d M_L_law scr 617 [some (.float t), a1, a2, a3, a4, a5, a6] (.float t :: st) h cn sn := bc_ldt1 rfl rfl
set_option maxRecDepth 20000 in
theorem st_L_law_617 : bc d M_L_law scr 617 [a0, a1, a2, a3, some (.int x), a5, a6] st h cn sn = bc d M_L_law scr 619 [a0, a1, a2, a3, some (.int x), a5, a6] (.int x :: st) h cn sn := bc_ldi2 rfl rfl
set_option maxRecDepth 20000 in
theorem st_L_law_619 : bc d M_L_law scr 619 [a0, a1, a2, a3, a4, a5, a6] st h cn sn = bc d M_L_law scr 620 [a0, a1, a2, a3, a4, a5, a6] (.int 1 :: st) h cn sn := bc_L rfl rfl
set_option maxRecDepth 20000 in
theorem st_L_law_620 : bc d M_L_law scr 620 [a0, a1, a2, a3, a4, a5, a6] (.int y :: .int x :: st) h cn sn = bc d M_L_law scr 621 [a0, a1, a2, a3, a4, a5, a6] (.int (x + y) :: st) h cn sn := bc_L rfl rfl
set_option maxRecDepth 20000 in
theorem st_L_law_621 : bc d M_L_law scr 621 [a0, a1, a2, a3, a4, a5, a6] st h cn sn = bM (px_ald scr 621 st h) (fun p s g => bc d M_L_law scr p [a0, a1, a2, a3, a4, a5, a6] s g cn sn) := bc_M (en := (.iaload, 1, 0, 0, 0, .null)) rfl rfl rfl rfl rfl rfl px_I_il
set_option maxRecDepth 20000 in
theorem st_L_law_622 : bc d M_L_law scr 622 [some (.ref p), a1, a2, a3, a4, a5, a6] st h cn sn = bc d M_L_law scr 623 [some (.ref p), a1, a2, a3, a4, a5, a6] (.ref p :: st) h cn sn := bc_lda1 rfl rfl
set_option maxRecDepth 20000 in
theorem st_L_law_622t : bc d M_L_law scr 622 [some (.float t), a1, a2, a3, a4, a5, a6] st h cn sn = bc d M_L_law scr 623 [some (.float t), a1, a2, a3, a4, a5, a6] (.float t :: st) h cn sn := bc_ldt1 rfl rfl
set_option maxRecDepth 20000 in
theorem st_L_law_623 : bc d M_L_law scr 623 [a0, a1, a2, a3, some (.int x), a5, a6] st h cn sn = bc d M_L_law scr 625 [a0, a1, a2, a3, some (.int x), a5, a6] (.int x :: st) h cn sn := bc_ldi2 rfl rfl
set_option maxRecDepth 20000 in
theorem st_L_law_625 : bc d M_L_law scr 625 [a0, a1, a2, a3, a4, a5, a6] st h cn sn = bc d M_L_law scr 626 [a0, a1, a2, a3, a4, a5, a6] (.int 2 :: st) h cn sn := bc_L rfl rfl
set_option maxRecDepth 20000 in
theorem st_L_law_626 : bc d M_L_law scr 626 [a0, a1, a2, a3, a4, a5, a6] (.int y :: .int x :: st) h cn sn = bc d M_L_law scr 627 [a0, a1, a2, a3, a4, a5, a6] (.int (x + y) :: st) h cn sn := bc_L rfl rfl
set_option maxRecDepth 20000 in
theorem st_L_law_627 : bc d M_L_law scr 627 [a0, a1, a2, a3, a4, a5, a6] st h cn sn = bM (px_ald scr 627 st h) (fun p s g => bc d M_L_law scr p [a0, a1, a2, a3, a4, a5, a6] s g cn sn) := bc_M (en := (.iaload, 1, 0, 0, 0, .null)) rfl rfl rfl rfl rfl rfl px_I_il
set_option maxRecDepth 20000 in
theorem st_L_law_628 : bc d M_L_law scr 628 [a0, a1, a2, some (.ref p), a4, a5, a6] st h cn sn = bc d M_L_law scr 629 [a0, a1, a2, some (.ref p), a4, a5, a6] (.ref p :: st) h cn sn := bc_lda1 rfl rfl
set_option maxRecDepth 20000 in
theorem st_L_law_628t : bc d M_L_law scr 628 [a0, a1, a2, some (.float t), a4, a5, a6] st h cn sn = bc d M_L_law scr 629 [a0, a1, a2, some (.float t), a4, a5, a6] (.float t :: st) h cn sn := bc_ldt1 rfl rfl
set_option maxRecDepth 20000 in
theorem st_L_law_629 (hs : px_sum st ≤ 8) : bc (d + 1) M_L_law scr 629 [a0, a1, a2, a3, a4, a5, a6] (.ref p2 :: .int y :: .int x :: .ref p1 :: st) h cn sn = bC (bc d M_L_put none 0 [some (.ref p1), some (.int x), some (.int y), some (.ref p2), none] [] h 0 0) (fun v h' c k => bc (d + 1) M_L_law scr 632 [a0, a1, a2, a3, a4, a5, a6] (v.toList ++ st) h' (cn + c) (sn + k)) (fun z h' c k => some (.inr z, h', cn + c, sn + k)) := bc_I rfl rfl rfl rfl rfl rfl rfl (px_I_sta mt_242 rfl hs rfl) rfl rfl rfl
set_option maxRecDepth 20000 in
theorem st_L_law_632 : bc d M_L_law scr 632 [a0, a1, a2, a3, a4, a5, a6] (.int x :: st) h cn sn = bc d M_L_law scr 634 [a0, a1, a2, a3, lc_c2 a4, some (.int x), a6] st h cn sn := bc_Ls1 (en := (.istore 5, 2, 0, 0, 0, .null)) (vs := [a0, a1, a2, a3, a4, a5, a6]) (i := 5) (v := .int x) rfl rfl rfl
set_option maxRecDepth 20000 in
theorem st_L_law_634 : bc d M_L_law scr 634 [a0, a1, some (.ref p), a3, a4, a5, a6] st h cn sn = bc d M_L_law scr 635 [a0, a1, some (.ref p), a3, a4, a5, a6] (.ref p :: st) h cn sn := bc_lda1 rfl rfl
set_option maxRecDepth 20000 in
theorem st_L_law_634t : bc d M_L_law scr 634 [a0, a1, some (.float t), a3, a4, a5, a6] st h cn sn = bc d M_L_law scr 635 [a0, a1, some (.float t), a3, a4, a5, a6] (.float t :: st) h cn sn := bc_ldt1 rfl rfl
set_option maxRecDepth 20000 in
theorem st_L_law_635 : bc d M_L_law scr 635 [some (.ref p), a1, a2, a3, a4, a5, a6] st h cn sn = bc d M_L_law scr 636 [some (.ref p), a1, a2, a3, a4, a5, a6] (.ref p :: st) h cn sn := bc_lda1 rfl rfl
set_option maxRecDepth 20000 in
theorem st_L_law_635t : bc d M_L_law scr 635 [some (.float t), a1, a2, a3, a4, a5, a6] st h cn sn = bc d M_L_law scr 636 [some (.float t), a1, a2, a3, a4, a5, a6] (.float t :: st) h cn sn := bc_ldt1 rfl rfl
set_option maxRecDepth 20000 in
theorem st_L_law_636 : bc d M_L_law scr 636 [a0, a1, a2, a3, some (.int x), a5, a6] st h cn sn = bc d M_L_law scr 638 [a0, a1, a2, a3, some (.int x), a5, a6] (.int x :: st) h cn sn := bc_ldi2 rfl rfl
set_option maxRecDepth 20000 in
theorem st_L_law_638 : bc d M_L_law scr 638 [a0, a1, a2, a3, a4, a5, a6] st h cn sn = bc d M_L_law scr 639 [a0, a1, a2, a3, a4, a5, a6] (.int 1 :: st) h cn sn := bc_L rfl rfl
set_option maxRecDepth 20000 in
theorem st_L_law_639 : bc d M_L_law scr 639 [a0, a1, a2, a3, a4, a5, a6] (.int y :: .int x :: st) h cn sn = bc d M_L_law scr 640 [a0, a1, a2, a3, a4, a5, a6] (.int (x + y) :: st) h cn sn := bc_L rfl rfl
set_option maxRecDepth 20000 in
theorem st_L_law_640 : bc d M_L_law scr 640 [a0, a1, a2, a3, a4, a5, a6] st h cn sn = bM (px_ald scr 640 st h) (fun p s g => bc d M_L_law scr p [a0, a1, a2, a3, a4, a5, a6] s g cn sn) := bc_M (en := (.iaload, 1, 0, 0, 0, .null)) rfl rfl rfl rfl rfl rfl px_I_il
set_option maxRecDepth 20000 in
theorem st_L_law_641 : bc d M_L_law scr 641 [some (.ref p), a1, a2, a3, a4, a5, a6] st h cn sn = bc d M_L_law scr 642 [some (.ref p), a1, a2, a3, a4, a5, a6] (.ref p :: st) h cn sn := bc_lda1 rfl rfl
set_option maxRecDepth 20000 in
theorem st_L_law_641t : bc d M_L_law scr 641 [some (.float t), a1, a2, a3, a4, a5, a6] st h cn sn = bc d M_L_law scr 642 [some (.float t), a1, a2, a3, a4, a5, a6] (.float t :: st) h cn sn := bc_ldt1 rfl rfl
set_option maxRecDepth 20000 in
theorem st_L_law_642 : bc d M_L_law scr 642 [a0, a1, a2, a3, some (.int x), a5, a6] st h cn sn = bc d M_L_law scr 644 [a0, a1, a2, a3, some (.int x), a5, a6] (.int x :: st) h cn sn := bc_ldi2 rfl rfl
set_option maxRecDepth 20000 in
theorem st_L_law_644 : bc d M_L_law scr 644 [a0, a1, a2, a3, a4, a5, a6] st h cn sn = bc d M_L_law scr 645 [a0, a1, a2, a3, a4, a5, a6] (.int 2 :: st) h cn sn := bc_L rfl rfl
set_option maxRecDepth 20000 in
theorem st_L_law_645 : bc d M_L_law scr 645 [a0, a1, a2, a3, a4, a5, a6] (.int y :: .int x :: st) h cn sn = bc d M_L_law scr 646 [a0, a1, a2, a3, a4, a5, a6] (.int (x + y) :: st) h cn sn := bc_L rfl rfl
set_option maxRecDepth 20000 in
theorem st_L_law_646 : bc d M_L_law scr 646 [a0, a1, a2, a3, a4, a5, a6] st h cn sn = bM (px_ald scr 646 st h) (fun p s g => bc d M_L_law scr p [a0, a1, a2, a3, a4, a5, a6] s g cn sn) := bc_M (en := (.iaload, 1, 0, 0, 0, .null)) rfl rfl rfl rfl rfl rfl px_I_il
set_option maxRecDepth 20000 in
theorem st_L_law_647 (hc : hcl h p = some 10) (hs : px_sum st ≤ 8) : bc (d + 1) M_L_law scr 647 [a0, a1, a2, a3, a4, a5, a6] (.int y :: .int x :: .ref p :: st) h cn sn = bC (bc d M_X10_put none 0 [some (.ref p), some (.int x), some (.int y)] [] h 0 0) (fun v h' c k => bc (d + 1) M_L_law scr 650 [a0, a1, a2, a3, a4, a5, a6] (v.toList ++ st) h' (cn + c) (sn + k)) (fun z h' c k => some (.inr z, h', cn + c, sn + k)) := bc_I rfl rfl rfl rfl rfl rfl rfl (px_I_vir mt_197 rfl hc hs rfl) rfl rfl rfl
set_option maxRecDepth 20000 in
theorem st_L_law_650 : bc d M_L_law scr 650 [a0, a1, a2, a3, a4, a5, a6] (.int x :: st) h cn sn = bc d M_L_law scr 652 [a0, a1, a2, a3, a4, lc_c2 a5, some (.int x)] st h cn sn := bc_Ls1 (en := (.istore 6, 2, 0, 0, 0, .null)) (vs := [a0, a1, a2, a3, a4, a5, a6]) (i := 6) (v := .int x) rfl rfl rfl
set_option maxRecDepth 20000 in
theorem st_L_law_652 : bc d M_L_law scr 652 [a0, a1, some (.ref p), a3, a4, a5, a6] st h cn sn = bc d M_L_law scr 653 [a0, a1, some (.ref p), a3, a4, a5, a6] (.ref p :: st) h cn sn := bc_lda1 rfl rfl
set_option maxRecDepth 20000 in
theorem st_L_law_652t : bc d M_L_law scr 652 [a0, a1, some (.float t), a3, a4, a5, a6] st h cn sn = bc d M_L_law scr 653 [a0, a1, some (.float t), a3, a4, a5, a6] (.float t :: st) h cn sn := bc_ldt1 rfl rfl
set_option maxRecDepth 20000 in
theorem st_L_law_653 (hc : hcl h p = some 10) (hs : px_sum st ≤ 8) : bc (d + 1) M_L_law scr 653 [a0, a1, a2, a3, a4, a5, a6] (.ref p :: st) h cn sn = bC (bc d M_X10_thrown none 0 [some (.ref p)] [] h 0 0) (fun v h' c k => bc (d + 1) M_L_law scr 656 [a0, a1, a2, a3, a4, a5, a6] (v.toList ++ st) h' (cn + c) (sn + k)) (fun z h' c k => some (.inr z, h', cn + c, sn + k)) := bc_I rfl rfl rfl rfl rfl rfl rfl (px_I_vir mt_133 rfl hc hs rfl) rfl rfl rfl
set_option maxRecDepth 20000 in
theorem st_L_law_656 : bc d M_L_law scr 656 [a0, a1, a2, a3, a4, some (.int x), a6] st h cn sn = bc d M_L_law scr 658 [a0, a1, a2, a3, a4, some (.int x), a6] (.int x :: st) h cn sn := bc_ldi2 rfl rfl
set_option maxRecDepth 20000 in
theorem st_L_law_658 : bc d M_L_law scr 658 [a0, a1, a2, a3, a4, a5, a6] (.int y :: .int x :: st) h cn sn = if x = y then bc d M_L_law scr 663 [a0, a1, a2, a3, a4, a5, a6] st h cn sn else bc d M_L_law scr 661 [a0, a1, a2, a3, a4, a5, a6] st h cn sn := (bc_ic rfl).trans bt_eq
set_option maxRecDepth 20000 in
theorem st_L_law_661 : bc d M_L_law scr 661 [a0, a1, a2, a3, a4, a5, a6] st h cn sn = bc d M_L_law scr 662 [a0, a1, a2, a3, a4, a5, a6] (.int 0 :: st) h cn sn := bc_L rfl rfl
set_option maxRecDepth 20000 in
theorem st_L_law_662 : bc d M_L_law scr 662 [a0, a1, a2, a3, a4, a5, a6] [.int 0] h cn sn = some (.inl (some (.int 0)), h, cn, sn) := bc_E rfl rfl rfl rfl rfl rfl rfl
set_option maxRecDepth 20000 in
theorem st_L_law_662b : bc d M_L_law scr 662 [a0, a1, a2, a3, a4, a5, a6] [.int 1] h cn sn = some (.inl (some (.int 1)), h, cn, sn) := bc_E rfl rfl rfl rfl rfl rfl rfl
set_option maxRecDepth 20000 in
theorem st_L_law_663 : bc d M_L_law scr 663 [a0, a1, a2, a3, a4, some (.int x), a6] st h cn sn = bc d M_L_law scr 665 [a0, a1, a2, a3, a4, some (.int x), a6] (.int x :: st) h cn sn := bc_ldi2 rfl rfl
set_option maxRecDepth 20000 in
theorem st_L_law_665 : bc d M_L_law scr 665 [a0, a1, a2, a3, a4, a5, a6] (.int x :: st) h cn sn = if x = 0 then bc d M_L_law scr 668 [a0, a1, a2, a3, a4, a5, a6] st h cn sn else bc d M_L_law scr 687 [a0, a1, a2, a3, a4, a5, a6] st h cn sn := (bc_if rfl).trans bt_ne
set_option maxRecDepth 20000 in
theorem st_L_law_668 : bc d M_L_law scr 668 [a0, a1, a2, some (.ref p), a4, a5, a6] st h cn sn = bc d M_L_law scr 669 [a0, a1, a2, some (.ref p), a4, a5, a6] (.ref p :: st) h cn sn := bc_lda1 rfl rfl
set_option maxRecDepth 20000 in
theorem st_L_law_668t : bc d M_L_law scr 668 [a0, a1, a2, some (.float t), a4, a5, a6] st h cn sn = bc d M_L_law scr 669 [a0, a1, a2, some (.float t), a4, a5, a6] (.float t :: st) h cn sn := bc_ldt1 rfl rfl
set_option maxRecDepth 20000 in
theorem st_L_law_669 : bc d M_L_law scr 669 [a0, a1, a2, a3, a4, a5, a6] st h cn sn = bc d M_L_law scr 670 [a0, a1, a2, a3, a4, a5, a6] (.int 0 :: st) h cn sn := bc_L rfl rfl
set_option maxRecDepth 20000 in
theorem st_L_law_670 : bc d M_L_law scr 670 [a0, a1, a2, a3, a4, a5, a6] st h cn sn = bM (px_lld 670 st h) (fun p s g => bc d M_L_law scr p [a0, a1, a2, a3, a4, a5, a6] s g cn sn) := bc_M (en := (.laload, 1, 0, 0, 0, .null)) rfl rfl rfl rfl rfl rfl px_I_ll
set_option maxRecDepth 20000 in
theorem st_L_law_671 : bc d M_L_law scr 671 [a0, a1, a2, a3, a4, a5, some (.int x)] st h cn sn = bc d M_L_law scr 673 [a0, a1, a2, a3, a4, a5, some (.int x)] (.int x :: st) h cn sn := bc_ldi2 rfl rfl
set_option maxRecDepth 20000 in
theorem st_L_law_673 : bc d M_L_law scr 673 [a0, a1, a2, a3, a4, a5, a6] (.int x :: st) h cn sn = if x = 0 then bc d M_L_law scr 680 [a0, a1, a2, a3, a4, a5, a6] st h cn sn else bc d M_L_law scr 676 [a0, a1, a2, a3, a4, a5, a6] st h cn sn := (bc_if rfl).trans bt_eq
set_option maxRecDepth 20000 in
theorem st_L_law_676 : bc d M_L_law scr 676 [a0, a1, a2, a3, a4, a5, a6] st h cn sn = bc d M_L_law scr 677 [a0, a1, a2, a3, a4, a5, a6] (.long 1 :: st) h cn sn := bc_L rfl rfl
set_option maxRecDepth 20000 in
theorem st_L_law_677 : bc d M_L_law scr 677 [a0, a1, a2, a3, a4, a5, a6] st h cn sn = bc d M_L_law scr 681 [a0, a1, a2, a3, a4, a5, a6] st h cn sn := bc_L rfl rfl
set_option maxRecDepth 20000 in
theorem st_L_law_680 : bc d M_L_law scr 680 [a0, a1, a2, a3, a4, a5, a6] st h cn sn = bc d M_L_law scr 681 [a0, a1, a2, a3, a4, a5, a6] (.long 0 :: st) h cn sn := bc_L rfl rfl
set_option maxRecDepth 20000 in
theorem st_L_law_681 : bc d M_L_law scr 681 [a0, a1, a2, a3, a4, a5, a6] (.long w :: .long u :: st) h cn sn = bc d M_L_law scr 682 [a0, a1, a2, a3, a4, a5, a6] (.int (lg_cmp u w) :: st) h cn sn := bc_L rfl rfl
set_option maxRecDepth 20000 in
theorem st_L_law_682 : bc d M_L_law scr 682 [a0, a1, a2, a3, a4, a5, a6] (.int x :: st) h cn sn = if x = 0 then bc d M_L_law scr 687 [a0, a1, a2, a3, a4, a5, a6] st h cn sn else bc d M_L_law scr 685 [a0, a1, a2, a3, a4, a5, a6] st h cn sn := (bc_if rfl).trans bt_eq
set_option maxRecDepth 20000 in
theorem st_L_law_685 : bc d M_L_law scr 685 [a0, a1, a2, a3, a4, a5, a6] st h cn sn = bc d M_L_law scr 686 [a0, a1, a2, a3, a4, a5, a6] (.int 0 :: st) h cn sn := bc_L rfl rfl
set_option maxRecDepth 20000 in
theorem st_L_law_686 : bc d M_L_law scr 686 [a0, a1, a2, a3, a4, a5, a6] [.int 0] h cn sn = some (.inl (some (.int 0)), h, cn, sn) := bc_E rfl rfl rfl rfl rfl rfl rfl
set_option maxRecDepth 20000 in
theorem st_L_law_686b : bc d M_L_law scr 686 [a0, a1, a2, a3, a4, a5, a6] [.int 1] h cn sn = some (.inl (some (.int 1)), h, cn, sn) := bc_E rfl rfl rfl rfl rfl rfl rfl
set_option maxRecDepth 20000 in
theorem st_L_law_687 : bc d M_L_law scr 687 [a0, a1, a2, a3, a4, a5, a6] st h cn sn = bc d M_L_law scr 1940 [a0, a1, a2, a3, a4, a5, a6] st h cn sn := bc_L rfl rfl
set_option maxRecDepth 20000 in
theorem st_L_law_690 : bc d M_L_law scr 690 [a0, some (.ref p), a2, a3, a4, a5, a6] st h cn sn = bc d M_L_law scr 691 [a0, some (.ref p), a2, a3, a4, a5, a6] (.ref p :: st) h cn sn := bc_lda1 rfl rfl
set_option maxRecDepth 20000 in
theorem st_L_law_690t : bc d M_L_law scr 690 [a0, some (.float t), a2, a3, a4, a5, a6] st h cn sn = bc d M_L_law scr 691 [a0, some (.float t), a2, a3, a4, a5, a6] (.float t :: st) h cn sn := bc_ldt1 rfl rfl
set_option maxRecDepth 20000 in
theorem st_L_law_691 : bc d M_L_law scr 691 [some (.ref p), a1, a2, a3, a4, a5, a6] st h cn sn = bc d M_L_law scr 692 [some (.ref p), a1, a2, a3, a4, a5, a6] (.ref p :: st) h cn sn := bc_lda1 rfl rfl
set_option maxRecDepth 20000 in
theorem st_L_law_691t : bc d M_L_law scr 691 [some (.float t), a1, a2, a3, a4, a5, a6] st h cn sn = bc d M_L_law scr 692 [some (.float t), a1, a2, a3, a4, a5, a6] (.float t :: st) h cn sn := bc_ldt1 rfl rfl
set_option maxRecDepth 20000 in
theorem st_L_law_692 : bc d M_L_law scr 692 [a0, a1, a2, a3, some (.int x), a5, a6] st h cn sn = bc d M_L_law scr 694 [a0, a1, a2, a3, some (.int x), a5, a6] (.int x :: st) h cn sn := bc_ldi2 rfl rfl
set_option maxRecDepth 20000 in
theorem st_L_law_694 : bc d M_L_law scr 694 [a0, a1, a2, a3, a4, a5, a6] st h cn sn = bc d M_L_law scr 695 [a0, a1, a2, a3, a4, a5, a6] (.int 1 :: st) h cn sn := bc_L rfl rfl
set_option maxRecDepth 20000 in
theorem st_L_law_695 : bc d M_L_law scr 695 [a0, a1, a2, a3, a4, a5, a6] (.int y :: .int x :: st) h cn sn = bc d M_L_law scr 696 [a0, a1, a2, a3, a4, a5, a6] (.int (x + y) :: st) h cn sn := bc_L rfl rfl
set_option maxRecDepth 20000 in
theorem st_L_law_696 : bc d M_L_law scr 696 [a0, a1, a2, a3, a4, a5, a6] st h cn sn = bM (px_ald scr 696 st h) (fun p s g => bc d M_L_law scr p [a0, a1, a2, a3, a4, a5, a6] s g cn sn) := bc_M (en := (.iaload, 1, 0, 0, 0, .null)) rfl rfl rfl rfl rfl rfl px_I_il
set_option maxRecDepth 20000 in
theorem st_L_law_697 : bc d M_L_law scr 697 [a0, a1, a2, some (.ref p), a4, a5, a6] st h cn sn = bc d M_L_law scr 698 [a0, a1, a2, some (.ref p), a4, a5, a6] (.ref p :: st) h cn sn := bc_lda1 rfl rfl
set_option maxRecDepth 20000 in
theorem st_L_law_697t : bc d M_L_law scr 697 [a0, a1, a2, some (.float t), a4, a5, a6] st h cn sn = bc d M_L_law scr 698 [a0, a1, a2, some (.float t), a4, a5, a6] (.float t :: st) h cn sn := bc_ldt1 rfl rfl
set_option maxRecDepth 20000 in
theorem st_L_law_698 (hs : px_sum st ≤ 8) : bc (d + 1) M_L_law scr 698 [a0, a1, a2, a3, a4, a5, a6] (.ref p2 :: .int x :: .ref p1 :: st) h cn sn = bC (bc d M_L_lift none 0 [some (.ref p1), some (.int x), some (.ref p2), none] [] h 0 0) (fun v h' c k => bc (d + 1) M_L_law scr 701 [a0, a1, a2, a3, a4, a5, a6] (v.toList ++ st) h' (cn + c) (sn + k)) (fun z h' c k => some (.inr z, h', cn + c, sn + k)) := bc_I rfl rfl rfl rfl rfl rfl rfl (px_I_sta mt_243 rfl hs rfl) rfl rfl rfl
set_option maxRecDepth 20000 in
theorem st_L_law_701 : bc d M_L_law scr 701 [a0, a1, a2, a3, a4, a5, a6] (.int x :: st) h cn sn = bc d M_L_law scr 703 [a0, a1, a2, a3, lc_c2 a4, some (.int x), a6] st h cn sn := bc_Ls1 (en := (.istore 5, 2, 0, 0, 0, .null)) (vs := [a0, a1, a2, a3, a4, a5, a6]) (i := 5) (v := .int x) rfl rfl rfl
set_option maxRecDepth 20000 in
theorem st_L_law_703 : bc d M_L_law scr 703 [a0, a1, some (.ref p), a3, a4, a5, a6] st h cn sn = bc d M_L_law scr 704 [a0, a1, some (.ref p), a3, a4, a5, a6] (.ref p :: st) h cn sn := bc_lda1 rfl rfl
set_option maxRecDepth 20000 in
theorem st_L_law_703t : bc d M_L_law scr 703 [a0, a1, some (.float t), a3, a4, a5, a6] st h cn sn = bc d M_L_law scr 704 [a0, a1, some (.float t), a3, a4, a5, a6] (.float t :: st) h cn sn := bc_ldt1 rfl rfl
set_option maxRecDepth 20000 in
theorem st_L_law_704 : bc d M_L_law scr 704 [some (.ref p), a1, a2, a3, a4, a5, a6] st h cn sn = bc d M_L_law scr 705 [some (.ref p), a1, a2, a3, a4, a5, a6] (.ref p :: st) h cn sn := bc_lda1 rfl rfl
set_option maxRecDepth 20000 in
theorem st_L_law_704t : bc d M_L_law scr 704 [some (.float t), a1, a2, a3, a4, a5, a6] st h cn sn = bc d M_L_law scr 705 [some (.float t), a1, a2, a3, a4, a5, a6] (.float t :: st) h cn sn := bc_ldt1 rfl rfl
set_option maxRecDepth 20000 in
theorem st_L_law_705 : bc d M_L_law scr 705 [a0, a1, a2, a3, some (.int x), a5, a6] st h cn sn = bc d M_L_law scr 707 [a0, a1, a2, a3, some (.int x), a5, a6] (.int x :: st) h cn sn := bc_ldi2 rfl rfl
set_option maxRecDepth 20000 in
theorem st_L_law_707 : bc d M_L_law scr 707 [a0, a1, a2, a3, a4, a5, a6] st h cn sn = bc d M_L_law scr 708 [a0, a1, a2, a3, a4, a5, a6] (.int 1 :: st) h cn sn := bc_L rfl rfl
set_option maxRecDepth 20000 in
theorem st_L_law_708 : bc d M_L_law scr 708 [a0, a1, a2, a3, a4, a5, a6] (.int y :: .int x :: st) h cn sn = bc d M_L_law scr 709 [a0, a1, a2, a3, a4, a5, a6] (.int (x + y) :: st) h cn sn := bc_L rfl rfl
set_option maxRecDepth 20000 in
theorem st_L_law_709 : bc d M_L_law scr 709 [a0, a1, a2, a3, a4, a5, a6] st h cn sn = bM (px_ald scr 709 st h) (fun p s g => bc d M_L_law scr p [a0, a1, a2, a3, a4, a5, a6] s g cn sn) := bc_M (en := (.iaload, 1, 0, 0, 0, .null)) rfl rfl rfl rfl rfl rfl px_I_il
set_option maxRecDepth 20000 in
theorem st_L_law_710 (hc : hcl h p = some 10) (hs : px_sum st ≤ 8) : bc (d + 1) M_L_law scr 710 [a0, a1, a2, a3, a4, a5, a6] (.int x :: .ref p :: st) h cn sn = bC (bc d M_X10_lift none 0 [some (.ref p), some (.int x), none] [] h 0 0) (fun v h' c k => bc (d + 1) M_L_law scr 713 [a0, a1, a2, a3, a4, a5, a6] (v.toList ++ st) h' (cn + c) (sn + k)) (fun z h' c k => some (.inr z, h', cn + c, sn + k)) := bc_I rfl rfl rfl rfl rfl rfl rfl (px_I_vir mt_198 rfl hc hs rfl) rfl rfl rfl
set_option maxRecDepth 20000 in
theorem st_L_law_713 : bc d M_L_law scr 713 [a0, a1, a2, a3, a4, a5, a6] (.int x :: st) h cn sn = bc d M_L_law scr 715 [a0, a1, a2, a3, a4, lc_c2 a5, some (.int x)] st h cn sn := bc_Ls1 (en := (.istore 6, 2, 0, 0, 0, .null)) (vs := [a0, a1, a2, a3, a4, a5, a6]) (i := 6) (v := .int x) rfl rfl rfl
set_option maxRecDepth 20000 in
theorem st_L_law_715 : bc d M_L_law scr 715 [a0, a1, some (.ref p), a3, a4, a5, a6] st h cn sn = bc d M_L_law scr 716 [a0, a1, some (.ref p), a3, a4, a5, a6] (.ref p :: st) h cn sn := bc_lda1 rfl rfl
set_option maxRecDepth 20000 in
theorem st_L_law_715t : bc d M_L_law scr 715 [a0, a1, some (.float t), a3, a4, a5, a6] st h cn sn = bc d M_L_law scr 716 [a0, a1, some (.float t), a3, a4, a5, a6] (.float t :: st) h cn sn := bc_ldt1 rfl rfl
set_option maxRecDepth 20000 in
theorem st_L_law_716 (hc : hcl h p = some 10) (hs : px_sum st ≤ 8) : bc (d + 1) M_L_law scr 716 [a0, a1, a2, a3, a4, a5, a6] (.ref p :: st) h cn sn = bC (bc d M_X10_thrown none 0 [some (.ref p)] [] h 0 0) (fun v h' c k => bc (d + 1) M_L_law scr 719 [a0, a1, a2, a3, a4, a5, a6] (v.toList ++ st) h' (cn + c) (sn + k)) (fun z h' c k => some (.inr z, h', cn + c, sn + k)) := bc_I rfl rfl rfl rfl rfl rfl rfl (px_I_vir mt_133 rfl hc hs rfl) rfl rfl rfl
set_option maxRecDepth 20000 in
theorem st_L_law_719 : bc d M_L_law scr 719 [a0, a1, a2, a3, a4, some (.int x), a6] st h cn sn = bc d M_L_law scr 721 [a0, a1, a2, a3, a4, some (.int x), a6] (.int x :: st) h cn sn := bc_ldi2 rfl rfl
set_option maxRecDepth 20000 in
theorem st_L_law_721 : bc d M_L_law scr 721 [a0, a1, a2, a3, a4, a5, a6] (.int y :: .int x :: st) h cn sn = if x = y then bc d M_L_law scr 726 [a0, a1, a2, a3, a4, a5, a6] st h cn sn else bc d M_L_law scr 724 [a0, a1, a2, a3, a4, a5, a6] st h cn sn := (bc_ic rfl).trans bt_eq
set_option maxRecDepth 20000 in
theorem st_L_law_724 : bc d M_L_law scr 724 [a0, a1, a2, a3, a4, a5, a6] st h cn sn = bc d M_L_law scr 725 [a0, a1, a2, a3, a4, a5, a6] (.int 0 :: st) h cn sn := bc_L rfl rfl
set_option maxRecDepth 20000 in
theorem st_L_law_725 : bc d M_L_law scr 725 [a0, a1, a2, a3, a4, a5, a6] [.int 0] h cn sn = some (.inl (some (.int 0)), h, cn, sn) := bc_E rfl rfl rfl rfl rfl rfl rfl
set_option maxRecDepth 20000 in
theorem st_L_law_725b : bc d M_L_law scr 725 [a0, a1, a2, a3, a4, a5, a6] [.int 1] h cn sn = some (.inl (some (.int 1)), h, cn, sn) := bc_E rfl rfl rfl rfl rfl rfl rfl
set_option maxRecDepth 20000 in
theorem st_L_law_726 : bc d M_L_law scr 726 [a0, a1, a2, a3, a4, some (.int x), a6] st h cn sn = bc d M_L_law scr 728 [a0, a1, a2, a3, a4, some (.int x), a6] (.int x :: st) h cn sn := bc_ldi2 rfl rfl
set_option maxRecDepth 20000 in
theorem st_L_law_728 : bc d M_L_law scr 728 [a0, a1, a2, a3, a4, a5, a6] (.int x :: st) h cn sn = if x = 0 then bc d M_L_law scr 731 [a0, a1, a2, a3, a4, a5, a6] st h cn sn else bc d M_L_law scr 743 [a0, a1, a2, a3, a4, a5, a6] st h cn sn := (bc_if rfl).trans bt_ne
set_option maxRecDepth 20000 in
theorem st_L_law_731 : bc d M_L_law scr 731 [a0, a1, a2, some (.ref p), a4, a5, a6] st h cn sn = bc d M_L_law scr 732 [a0, a1, a2, some (.ref p), a4, a5, a6] (.ref p :: st) h cn sn := bc_lda1 rfl rfl
set_option maxRecDepth 20000 in
theorem st_L_law_731t : bc d M_L_law scr 731 [a0, a1, a2, some (.float t), a4, a5, a6] st h cn sn = bc d M_L_law scr 732 [a0, a1, a2, some (.float t), a4, a5, a6] (.float t :: st) h cn sn := bc_ldt1 rfl rfl
set_option maxRecDepth 20000 in
theorem st_L_law_732 : bc d M_L_law scr 732 [a0, a1, a2, a3, a4, a5, a6] st h cn sn = bc d M_L_law scr 733 [a0, a1, a2, a3, a4, a5, a6] (.int 0 :: st) h cn sn := bc_L rfl rfl
set_option maxRecDepth 20000 in
theorem st_L_law_733 : bc d M_L_law scr 733 [a0, a1, a2, a3, a4, a5, a6] st h cn sn = bM (px_lld 733 st h) (fun p s g => bc d M_L_law scr p [a0, a1, a2, a3, a4, a5, a6] s g cn sn) := bc_M (en := (.laload, 1, 0, 0, 0, .null)) rfl rfl rfl rfl rfl rfl px_I_ll
set_option maxRecDepth 20000 in
theorem st_L_law_734 : bc d M_L_law scr 734 [a0, a1, a2, a3, a4, a5, some (.int x)] st h cn sn = bc d M_L_law scr 736 [a0, a1, a2, a3, a4, a5, some (.int x)] (.int x :: st) h cn sn := bc_ldi2 rfl rfl
set_option maxRecDepth 20000 in
theorem st_L_law_736 : bc d M_L_law scr 736 [a0, a1, a2, a3, a4, a5, a6] (.int x :: st) h cn sn = bc d M_L_law scr 737 [a0, a1, a2, a3, a4, a5, a6] (.long x.toInt64 :: st) h cn sn := bc_L rfl rfl
set_option maxRecDepth 20000 in
theorem st_L_law_737 : bc d M_L_law scr 737 [a0, a1, a2, a3, a4, a5, a6] (.long w :: .long u :: st) h cn sn = bc d M_L_law scr 738 [a0, a1, a2, a3, a4, a5, a6] (.int (lg_cmp u w) :: st) h cn sn := bc_L rfl rfl
set_option maxRecDepth 20000 in
theorem st_L_law_738 : bc d M_L_law scr 738 [a0, a1, a2, a3, a4, a5, a6] (.int x :: st) h cn sn = if x = 0 then bc d M_L_law scr 743 [a0, a1, a2, a3, a4, a5, a6] st h cn sn else bc d M_L_law scr 741 [a0, a1, a2, a3, a4, a5, a6] st h cn sn := (bc_if rfl).trans bt_eq
set_option maxRecDepth 20000 in
theorem st_L_law_741 : bc d M_L_law scr 741 [a0, a1, a2, a3, a4, a5, a6] st h cn sn = bc d M_L_law scr 742 [a0, a1, a2, a3, a4, a5, a6] (.int 0 :: st) h cn sn := bc_L rfl rfl
set_option maxRecDepth 20000 in
theorem st_L_law_742 : bc d M_L_law scr 742 [a0, a1, a2, a3, a4, a5, a6] [.int 0] h cn sn = some (.inl (some (.int 0)), h, cn, sn) := bc_E rfl rfl rfl rfl rfl rfl rfl
set_option maxRecDepth 20000 in
theorem st_L_law_742b : bc d M_L_law scr 742 [a0, a1, a2, a3, a4, a5, a6] [.int 1] h cn sn = some (.inl (some (.int 1)), h, cn, sn) := bc_E rfl rfl rfl rfl rfl rfl rfl
set_option maxRecDepth 20000 in
theorem st_L_law_743 : bc d M_L_law scr 743 [a0, a1, a2, a3, a4, a5, a6] st h cn sn = bc d M_L_law scr 1940 [a0, a1, a2, a3, a4, a5, a6] st h cn sn := bc_L rfl rfl
set_option maxRecDepth 20000 in
theorem st_L_law_746 : bc d M_L_law scr 746 [a0, some (.ref p), a2, a3, a4, a5, a6] st h cn sn = bc d M_L_law scr 747 [a0, some (.ref p), a2, a3, a4, a5, a6] (.ref p :: st) h cn sn := bc_lda1 rfl rfl
set_option maxRecDepth 20000 in
theorem st_L_law_746t : bc d M_L_law scr 746 [a0, some (.float t), a2, a3, a4, a5, a6] st h cn sn = bc d M_L_law scr 747 [a0, some (.float t), a2, a3, a4, a5, a6] (.float t :: st) h cn sn := bc_ldt1 rfl rfl
set_option maxRecDepth 20000 in
theorem st_L_law_747 : bc d M_L_law scr 747 [some (.ref p), a1, a2, a3, a4, a5, a6] st h cn sn = bc d M_L_law scr 748 [some (.ref p), a1, a2, a3, a4, a5, a6] (.ref p :: st) h cn sn := bc_lda1 rfl rfl
set_option maxRecDepth 20000 in
theorem st_L_law_747t : bc d M_L_law scr 747 [some (.float t), a1, a2, a3, a4, a5, a6] st h cn sn = bc d M_L_law scr 748 [some (.float t), a1, a2, a3, a4, a5, a6] (.float t :: st) h cn sn := bc_ldt1 rfl rfl
set_option maxRecDepth 20000 in
theorem st_L_law_748 : bc d M_L_law scr 748 [a0, a1, a2, a3, some (.int x), a5, a6] st h cn sn = bc d M_L_law scr 750 [a0, a1, a2, a3, some (.int x), a5, a6] (.int x :: st) h cn sn := bc_ldi2 rfl rfl
set_option maxRecDepth 20000 in
theorem st_L_law_750 : bc d M_L_law scr 750 [a0, a1, a2, a3, a4, a5, a6] st h cn sn = bc d M_L_law scr 751 [a0, a1, a2, a3, a4, a5, a6] (.int 1 :: st) h cn sn := bc_L rfl rfl
set_option maxRecDepth 20000 in
theorem st_L_law_751 : bc d M_L_law scr 751 [a0, a1, a2, a3, a4, a5, a6] (.int y :: .int x :: st) h cn sn = bc d M_L_law scr 752 [a0, a1, a2, a3, a4, a5, a6] (.int (x + y) :: st) h cn sn := bc_L rfl rfl
set_option maxRecDepth 20000 in
theorem st_L_law_752 : bc d M_L_law scr 752 [a0, a1, a2, a3, a4, a5, a6] st h cn sn = bM (px_ald scr 752 st h) (fun p s g => bc d M_L_law scr p [a0, a1, a2, a3, a4, a5, a6] s g cn sn) := bc_M (en := (.iaload, 1, 0, 0, 0, .null)) rfl rfl rfl rfl rfl rfl px_I_il
set_option maxRecDepth 20000 in
theorem st_L_law_753 : bc d M_L_law scr 753 [some (.ref p), a1, a2, a3, a4, a5, a6] st h cn sn = bc d M_L_law scr 754 [some (.ref p), a1, a2, a3, a4, a5, a6] (.ref p :: st) h cn sn := bc_lda1 rfl rfl
set_option maxRecDepth 20000 in
theorem st_L_law_753t : bc d M_L_law scr 753 [some (.float t), a1, a2, a3, a4, a5, a6] st h cn sn = bc d M_L_law scr 754 [some (.float t), a1, a2, a3, a4, a5, a6] (.float t :: st) h cn sn := bc_ldt1 rfl rfl
set_option maxRecDepth 20000 in
theorem st_L_law_754 : bc d M_L_law scr 754 [a0, a1, a2, a3, some (.int x), a5, a6] st h cn sn = bc d M_L_law scr 756 [a0, a1, a2, a3, some (.int x), a5, a6] (.int x :: st) h cn sn := bc_ldi2 rfl rfl
set_option maxRecDepth 20000 in
theorem st_L_law_756 : bc d M_L_law scr 756 [a0, a1, a2, a3, a4, a5, a6] st h cn sn = bc d M_L_law scr 757 [a0, a1, a2, a3, a4, a5, a6] (.int 2 :: st) h cn sn := bc_L rfl rfl
set_option maxRecDepth 20000 in
theorem st_L_law_757 : bc d M_L_law scr 757 [a0, a1, a2, a3, a4, a5, a6] (.int y :: .int x :: st) h cn sn = bc d M_L_law scr 758 [a0, a1, a2, a3, a4, a5, a6] (.int (x + y) :: st) h cn sn := bc_L rfl rfl
set_option maxRecDepth 20000 in
theorem st_L_law_758 : bc d M_L_law scr 758 [a0, a1, a2, a3, a4, a5, a6] st h cn sn = bM (px_ald scr 758 st h) (fun p s g => bc d M_L_law scr p [a0, a1, a2, a3, a4, a5, a6] s g cn sn) := bc_M (en := (.iaload, 1, 0, 0, 0, .null)) rfl rfl rfl rfl rfl rfl px_I_il
set_option maxRecDepth 20000 in
theorem st_L_law_759 : bc d M_L_law scr 759 [a0, a1, a2, some (.ref p), a4, a5, a6] st h cn sn = bc d M_L_law scr 760 [a0, a1, a2, some (.ref p), a4, a5, a6] (.ref p :: st) h cn sn := bc_lda1 rfl rfl
set_option maxRecDepth 20000 in
theorem st_L_law_759t : bc d M_L_law scr 759 [a0, a1, a2, some (.float t), a4, a5, a6] st h cn sn = bc d M_L_law scr 760 [a0, a1, a2, some (.float t), a4, a5, a6] (.float t :: st) h cn sn := bc_ldt1 rfl rfl
set_option maxRecDepth 20000 in
theorem st_L_law_760 (hs : px_sum st ≤ 8) : bc (d + 1) M_L_law scr 760 [a0, a1, a2, a3, a4, a5, a6] (.ref p2 :: .int y :: .int x :: .ref p1 :: st) h cn sn = bC (bc d M_L_pour none 0 [some (.ref p1), some (.int x), some (.int y), some (.ref p2), none] [] h 0 0) (fun v h' c k => bc (d + 1) M_L_law scr 763 [a0, a1, a2, a3, a4, a5, a6] (v.toList ++ st) h' (cn + c) (sn + k)) (fun z h' c k => some (.inr z, h', cn + c, sn + k)) := bc_I rfl rfl rfl rfl rfl rfl rfl (px_I_sta mt_244 rfl hs rfl) rfl rfl rfl
set_option maxRecDepth 20000 in
theorem st_L_law_763 : bc d M_L_law scr 763 [a0, a1, a2, a3, a4, a5, a6] (.int x :: st) h cn sn = bc d M_L_law scr 765 [a0, a1, a2, a3, lc_c2 a4, some (.int x), a6] st h cn sn := bc_Ls1 (en := (.istore 5, 2, 0, 0, 0, .null)) (vs := [a0, a1, a2, a3, a4, a5, a6]) (i := 5) (v := .int x) rfl rfl rfl
set_option maxRecDepth 20000 in
theorem st_L_law_765 : bc d M_L_law scr 765 [a0, a1, some (.ref p), a3, a4, a5, a6] st h cn sn = bc d M_L_law scr 766 [a0, a1, some (.ref p), a3, a4, a5, a6] (.ref p :: st) h cn sn := bc_lda1 rfl rfl
set_option maxRecDepth 20000 in
theorem st_L_law_765t : bc d M_L_law scr 765 [a0, a1, some (.float t), a3, a4, a5, a6] st h cn sn = bc d M_L_law scr 766 [a0, a1, some (.float t), a3, a4, a5, a6] (.float t :: st) h cn sn := bc_ldt1 rfl rfl
set_option maxRecDepth 20000 in
theorem st_L_law_766 : bc d M_L_law scr 766 [some (.ref p), a1, a2, a3, a4, a5, a6] st h cn sn = bc d M_L_law scr 767 [some (.ref p), a1, a2, a3, a4, a5, a6] (.ref p :: st) h cn sn := bc_lda1 rfl rfl
set_option maxRecDepth 20000 in
theorem st_L_law_766t : bc d M_L_law scr 766 [some (.float t), a1, a2, a3, a4, a5, a6] st h cn sn = bc d M_L_law scr 767 [some (.float t), a1, a2, a3, a4, a5, a6] (.float t :: st) h cn sn := bc_ldt1 rfl rfl
set_option maxRecDepth 20000 in
theorem st_L_law_767 : bc d M_L_law scr 767 [a0, a1, a2, a3, some (.int x), a5, a6] st h cn sn = bc d M_L_law scr 769 [a0, a1, a2, a3, some (.int x), a5, a6] (.int x :: st) h cn sn := bc_ldi2 rfl rfl
set_option maxRecDepth 20000 in
theorem st_L_law_769 : bc d M_L_law scr 769 [a0, a1, a2, a3, a4, a5, a6] st h cn sn = bc d M_L_law scr 770 [a0, a1, a2, a3, a4, a5, a6] (.int 1 :: st) h cn sn := bc_L rfl rfl
set_option maxRecDepth 20000 in
theorem st_L_law_770 : bc d M_L_law scr 770 [a0, a1, a2, a3, a4, a5, a6] (.int y :: .int x :: st) h cn sn = bc d M_L_law scr 771 [a0, a1, a2, a3, a4, a5, a6] (.int (x + y) :: st) h cn sn := bc_L rfl rfl
set_option maxRecDepth 20000 in
theorem st_L_law_771 : bc d M_L_law scr 771 [a0, a1, a2, a3, a4, a5, a6] st h cn sn = bM (px_ald scr 771 st h) (fun p s g => bc d M_L_law scr p [a0, a1, a2, a3, a4, a5, a6] s g cn sn) := bc_M (en := (.iaload, 1, 0, 0, 0, .null)) rfl rfl rfl rfl rfl rfl px_I_il
set_option maxRecDepth 20000 in
theorem st_L_law_772 : bc d M_L_law scr 772 [some (.ref p), a1, a2, a3, a4, a5, a6] st h cn sn = bc d M_L_law scr 773 [some (.ref p), a1, a2, a3, a4, a5, a6] (.ref p :: st) h cn sn := bc_lda1 rfl rfl
set_option maxRecDepth 20000 in
theorem st_L_law_772t : bc d M_L_law scr 772 [some (.float t), a1, a2, a3, a4, a5, a6] st h cn sn = bc d M_L_law scr 773 [some (.float t), a1, a2, a3, a4, a5, a6] (.float t :: st) h cn sn := bc_ldt1 rfl rfl
set_option maxRecDepth 20000 in
theorem st_L_law_773 : bc d M_L_law scr 773 [a0, a1, a2, a3, some (.int x), a5, a6] st h cn sn = bc d M_L_law scr 775 [a0, a1, a2, a3, some (.int x), a5, a6] (.int x :: st) h cn sn := bc_ldi2 rfl rfl
set_option maxRecDepth 20000 in
theorem st_L_law_775 : bc d M_L_law scr 775 [a0, a1, a2, a3, a4, a5, a6] st h cn sn = bc d M_L_law scr 776 [a0, a1, a2, a3, a4, a5, a6] (.int 2 :: st) h cn sn := bc_L rfl rfl
set_option maxRecDepth 20000 in
theorem st_L_law_776 : bc d M_L_law scr 776 [a0, a1, a2, a3, a4, a5, a6] (.int y :: .int x :: st) h cn sn = bc d M_L_law scr 777 [a0, a1, a2, a3, a4, a5, a6] (.int (x + y) :: st) h cn sn := bc_L rfl rfl
set_option maxRecDepth 20000 in
theorem st_L_law_777 : bc d M_L_law scr 777 [a0, a1, a2, a3, a4, a5, a6] st h cn sn = bM (px_ald scr 777 st h) (fun p s g => bc d M_L_law scr p [a0, a1, a2, a3, a4, a5, a6] s g cn sn) := bc_M (en := (.iaload, 1, 0, 0, 0, .null)) rfl rfl rfl rfl rfl rfl px_I_il
set_option maxRecDepth 20000 in
theorem st_L_law_778 (hc : hcl h p = some 10) (hs : px_sum st ≤ 8) : bc (d + 1) M_L_law scr 778 [a0, a1, a2, a3, a4, a5, a6] (.int y :: .int x :: .ref p :: st) h cn sn = bC (bc d M_X10_pour none 0 [some (.ref p), some (.int x), some (.int y)] [] h 0 0) (fun v h' c k => bc (d + 1) M_L_law scr 781 [a0, a1, a2, a3, a4, a5, a6] (v.toList ++ st) h' (cn + c) (sn + k)) (fun z h' c k => some (.inr z, h', cn + c, sn + k)) := bc_I rfl rfl rfl rfl rfl rfl rfl (px_I_vir mt_199 rfl hc hs rfl) rfl rfl rfl
set_option maxRecDepth 20000 in
theorem st_L_law_781 : bc d M_L_law scr 781 [a0, a1, a2, a3, a4, a5, a6] (.int x :: st) h cn sn = bc d M_L_law scr 783 [a0, a1, a2, a3, a4, lc_c2 a5, some (.int x)] st h cn sn := bc_Ls1 (en := (.istore 6, 2, 0, 0, 0, .null)) (vs := [a0, a1, a2, a3, a4, a5, a6]) (i := 6) (v := .int x) rfl rfl rfl
set_option maxRecDepth 20000 in
theorem st_L_law_783 : bc d M_L_law scr 783 [a0, a1, some (.ref p), a3, a4, a5, a6] st h cn sn = bc d M_L_law scr 784 [a0, a1, some (.ref p), a3, a4, a5, a6] (.ref p :: st) h cn sn := bc_lda1 rfl rfl
set_option maxRecDepth 20000 in
theorem st_L_law_783t : bc d M_L_law scr 783 [a0, a1, some (.float t), a3, a4, a5, a6] st h cn sn = bc d M_L_law scr 784 [a0, a1, some (.float t), a3, a4, a5, a6] (.float t :: st) h cn sn := bc_ldt1 rfl rfl
set_option maxRecDepth 20000 in
theorem st_L_law_784 (hc : hcl h p = some 10) (hs : px_sum st ≤ 8) : bc (d + 1) M_L_law scr 784 [a0, a1, a2, a3, a4, a5, a6] (.ref p :: st) h cn sn = bC (bc d M_X10_thrown none 0 [some (.ref p)] [] h 0 0) (fun v h' c k => bc (d + 1) M_L_law scr 787 [a0, a1, a2, a3, a4, a5, a6] (v.toList ++ st) h' (cn + c) (sn + k)) (fun z h' c k => some (.inr z, h', cn + c, sn + k)) := bc_I rfl rfl rfl rfl rfl rfl rfl (px_I_vir mt_133 rfl hc hs rfl) rfl rfl rfl
set_option maxRecDepth 20000 in
theorem st_L_law_787 : bc d M_L_law scr 787 [a0, a1, a2, a3, a4, some (.int x), a6] st h cn sn = bc d M_L_law scr 789 [a0, a1, a2, a3, a4, some (.int x), a6] (.int x :: st) h cn sn := bc_ldi2 rfl rfl
set_option maxRecDepth 20000 in
theorem st_L_law_789 : bc d M_L_law scr 789 [a0, a1, a2, a3, a4, a5, a6] (.int y :: .int x :: st) h cn sn = if x = y then bc d M_L_law scr 794 [a0, a1, a2, a3, a4, a5, a6] st h cn sn else bc d M_L_law scr 792 [a0, a1, a2, a3, a4, a5, a6] st h cn sn := (bc_ic rfl).trans bt_eq
set_option maxRecDepth 20000 in
theorem st_L_law_792 : bc d M_L_law scr 792 [a0, a1, a2, a3, a4, a5, a6] st h cn sn = bc d M_L_law scr 793 [a0, a1, a2, a3, a4, a5, a6] (.int 0 :: st) h cn sn := bc_L rfl rfl
set_option maxRecDepth 20000 in
theorem st_L_law_793 : bc d M_L_law scr 793 [a0, a1, a2, a3, a4, a5, a6] [.int 0] h cn sn = some (.inl (some (.int 0)), h, cn, sn) := bc_E rfl rfl rfl rfl rfl rfl rfl
set_option maxRecDepth 20000 in
theorem st_L_law_793b : bc d M_L_law scr 793 [a0, a1, a2, a3, a4, a5, a6] [.int 1] h cn sn = some (.inl (some (.int 1)), h, cn, sn) := bc_E rfl rfl rfl rfl rfl rfl rfl
set_option maxRecDepth 20000 in
theorem st_L_law_794 : bc d M_L_law scr 794 [a0, a1, a2, a3, a4, some (.int x), a6] st h cn sn = bc d M_L_law scr 796 [a0, a1, a2, a3, a4, some (.int x), a6] (.int x :: st) h cn sn := bc_ldi2 rfl rfl
set_option maxRecDepth 20000 in
theorem st_L_law_796 : bc d M_L_law scr 796 [a0, a1, a2, a3, a4, a5, a6] (.int x :: st) h cn sn = if x = 0 then bc d M_L_law scr 799 [a0, a1, a2, a3, a4, a5, a6] st h cn sn else bc d M_L_law scr 811 [a0, a1, a2, a3, a4, a5, a6] st h cn sn := (bc_if rfl).trans bt_ne
set_option maxRecDepth 20000 in
theorem st_L_law_799 : bc d M_L_law scr 799 [a0, a1, a2, some (.ref p), a4, a5, a6] st h cn sn = bc d M_L_law scr 800 [a0, a1, a2, some (.ref p), a4, a5, a6] (.ref p :: st) h cn sn := bc_lda1 rfl rfl
set_option maxRecDepth 20000 in
theorem st_L_law_799t : bc d M_L_law scr 799 [a0, a1, a2, some (.float t), a4, a5, a6] st h cn sn = bc d M_L_law scr 800 [a0, a1, a2, some (.float t), a4, a5, a6] (.float t :: st) h cn sn := bc_ldt1 rfl rfl
set_option maxRecDepth 20000 in
theorem st_L_law_800 : bc d M_L_law scr 800 [a0, a1, a2, a3, a4, a5, a6] st h cn sn = bc d M_L_law scr 801 [a0, a1, a2, a3, a4, a5, a6] (.int 0 :: st) h cn sn := bc_L rfl rfl
set_option maxRecDepth 20000 in
theorem st_L_law_801 : bc d M_L_law scr 801 [a0, a1, a2, a3, a4, a5, a6] st h cn sn = bM (px_lld 801 st h) (fun p s g => bc d M_L_law scr p [a0, a1, a2, a3, a4, a5, a6] s g cn sn) := bc_M (en := (.laload, 1, 0, 0, 0, .null)) rfl rfl rfl rfl rfl rfl px_I_ll
set_option maxRecDepth 20000 in
theorem st_L_law_802 : bc d M_L_law scr 802 [a0, a1, a2, a3, a4, a5, some (.int x)] st h cn sn = bc d M_L_law scr 804 [a0, a1, a2, a3, a4, a5, some (.int x)] (.int x :: st) h cn sn := bc_ldi2 rfl rfl
set_option maxRecDepth 20000 in
theorem st_L_law_804 : bc d M_L_law scr 804 [a0, a1, a2, a3, a4, a5, a6] (.int x :: st) h cn sn = bc d M_L_law scr 805 [a0, a1, a2, a3, a4, a5, a6] (.long x.toInt64 :: st) h cn sn := bc_L rfl rfl
set_option maxRecDepth 20000 in
theorem st_L_law_805 : bc d M_L_law scr 805 [a0, a1, a2, a3, a4, a5, a6] (.long w :: .long u :: st) h cn sn = bc d M_L_law scr 806 [a0, a1, a2, a3, a4, a5, a6] (.int (lg_cmp u w) :: st) h cn sn := bc_L rfl rfl
set_option maxRecDepth 20000 in
theorem st_L_law_806 : bc d M_L_law scr 806 [a0, a1, a2, a3, a4, a5, a6] (.int x :: st) h cn sn = if x = 0 then bc d M_L_law scr 811 [a0, a1, a2, a3, a4, a5, a6] st h cn sn else bc d M_L_law scr 809 [a0, a1, a2, a3, a4, a5, a6] st h cn sn := (bc_if rfl).trans bt_eq
set_option maxRecDepth 20000 in
theorem st_L_law_809 : bc d M_L_law scr 809 [a0, a1, a2, a3, a4, a5, a6] st h cn sn = bc d M_L_law scr 810 [a0, a1, a2, a3, a4, a5, a6] (.int 0 :: st) h cn sn := bc_L rfl rfl
set_option maxRecDepth 20000 in
theorem st_L_law_810 : bc d M_L_law scr 810 [a0, a1, a2, a3, a4, a5, a6] [.int 0] h cn sn = some (.inl (some (.int 0)), h, cn, sn) := bc_E rfl rfl rfl rfl rfl rfl rfl
set_option maxRecDepth 20000 in
theorem st_L_law_810b : bc d M_L_law scr 810 [a0, a1, a2, a3, a4, a5, a6] [.int 1] h cn sn = some (.inl (some (.int 1)), h, cn, sn) := bc_E rfl rfl rfl rfl rfl rfl rfl
set_option maxRecDepth 20000 in
theorem st_L_law_811 : bc d M_L_law scr 811 [a0, a1, a2, a3, a4, a5, a6] st h cn sn = bc d M_L_law scr 1940 [a0, a1, a2, a3, a4, a5, a6] st h cn sn := bc_L rfl rfl
set_option maxRecDepth 20000 in
theorem st_L_law_814 : bc d M_L_law scr 814 [a0, some (.ref p), a2, a3, a4, a5, a6] st h cn sn = bc d M_L_law scr 815 [a0, some (.ref p), a2, a3, a4, a5, a6] (.ref p :: st) h cn sn := bc_lda1 rfl rfl
set_option maxRecDepth 20000 in
theorem st_L_law_814t : bc d M_L_law scr 814 [a0, some (.float t), a2, a3, a4, a5, a6] st h cn sn = bc d M_L_law scr 815 [a0, some (.float t), a2, a3, a4, a5, a6] (.float t :: st) h cn sn := bc_ldt1 rfl rfl
set_option maxRecDepth 20000 in
theorem st_L_law_815 : bc d M_L_law scr 815 [some (.ref p), a1, a2, a3, a4, a5, a6] st h cn sn = bc d M_L_law scr 816 [some (.ref p), a1, a2, a3, a4, a5, a6] (.ref p :: st) h cn sn := bc_lda1 rfl rfl
set_option maxRecDepth 20000 in
theorem st_L_law_815t : bc d M_L_law scr 815 [some (.float t), a1, a2, a3, a4, a5, a6] st h cn sn = bc d M_L_law scr 816 [some (.float t), a1, a2, a3, a4, a5, a6] (.float t :: st) h cn sn := bc_ldt1 rfl rfl
set_option maxRecDepth 20000 in
theorem st_L_law_816 : bc d M_L_law scr 816 [a0, a1, a2, a3, some (.int x), a5, a6] st h cn sn = bc d M_L_law scr 818 [a0, a1, a2, a3, some (.int x), a5, a6] (.int x :: st) h cn sn := bc_ldi2 rfl rfl
set_option maxRecDepth 20000 in
theorem st_L_law_818 : bc d M_L_law scr 818 [a0, a1, a2, a3, a4, a5, a6] st h cn sn = bc d M_L_law scr 819 [a0, a1, a2, a3, a4, a5, a6] (.int 1 :: st) h cn sn := bc_L rfl rfl
set_option maxRecDepth 20000 in
theorem st_L_law_819 : bc d M_L_law scr 819 [a0, a1, a2, a3, a4, a5, a6] (.int y :: .int x :: st) h cn sn = bc d M_L_law scr 820 [a0, a1, a2, a3, a4, a5, a6] (.int (x + y) :: st) h cn sn := bc_L rfl rfl
set_option maxRecDepth 20000 in
theorem st_L_law_820 : bc d M_L_law scr 820 [a0, a1, a2, a3, a4, a5, a6] st h cn sn = bM (px_ald scr 820 st h) (fun p s g => bc d M_L_law scr p [a0, a1, a2, a3, a4, a5, a6] s g cn sn) := bc_M (en := (.iaload, 1, 0, 0, 0, .null)) rfl rfl rfl rfl rfl rfl px_I_il
set_option maxRecDepth 20000 in
theorem st_L_law_821 : bc d M_L_law scr 821 [a0, a1, a2, some (.ref p), a4, a5, a6] st h cn sn = bc d M_L_law scr 822 [a0, a1, a2, some (.ref p), a4, a5, a6] (.ref p :: st) h cn sn := bc_lda1 rfl rfl
set_option maxRecDepth 20000 in
theorem st_L_law_821t : bc d M_L_law scr 821 [a0, a1, a2, some (.float t), a4, a5, a6] st h cn sn = bc d M_L_law scr 822 [a0, a1, a2, some (.float t), a4, a5, a6] (.float t :: st) h cn sn := bc_ldt1 rfl rfl
set_option maxRecDepth 20000 in
theorem st_L_law_822 (hs : px_sum st ≤ 8) : bc (d + 1) M_L_law scr 822 [a0, a1, a2, a3, a4, a5, a6] (.ref p2 :: .int x :: .ref p1 :: st) h cn sn = bC (bc d M_L_scrape none 0 [some (.ref p1), some (.int x), some (.ref p2), none] [] h 0 0) (fun v h' c k => bc (d + 1) M_L_law scr 825 [a0, a1, a2, a3, a4, a5, a6] (v.toList ++ st) h' (cn + c) (sn + k)) (fun z h' c k => some (.inr z, h', cn + c, sn + k)) := bc_I rfl rfl rfl rfl rfl rfl rfl (px_I_sta mt_245 rfl hs rfl) rfl rfl rfl
set_option maxRecDepth 20000 in
theorem st_L_law_825 : bc d M_L_law scr 825 [a0, a1, a2, a3, a4, a5, a6] (.int x :: st) h cn sn = bc d M_L_law scr 827 [a0, a1, a2, a3, lc_c2 a4, some (.int x), a6] st h cn sn := bc_Ls1 (en := (.istore 5, 2, 0, 0, 0, .null)) (vs := [a0, a1, a2, a3, a4, a5, a6]) (i := 5) (v := .int x) rfl rfl rfl
set_option maxRecDepth 20000 in
theorem st_L_law_827 : bc d M_L_law scr 827 [a0, a1, some (.ref p), a3, a4, a5, a6] st h cn sn = bc d M_L_law scr 828 [a0, a1, some (.ref p), a3, a4, a5, a6] (.ref p :: st) h cn sn := bc_lda1 rfl rfl
set_option maxRecDepth 20000 in
theorem st_L_law_827t : bc d M_L_law scr 827 [a0, a1, some (.float t), a3, a4, a5, a6] st h cn sn = bc d M_L_law scr 828 [a0, a1, some (.float t), a3, a4, a5, a6] (.float t :: st) h cn sn := bc_ldt1 rfl rfl
set_option maxRecDepth 20000 in
theorem st_L_law_828 : bc d M_L_law scr 828 [some (.ref p), a1, a2, a3, a4, a5, a6] st h cn sn = bc d M_L_law scr 829 [some (.ref p), a1, a2, a3, a4, a5, a6] (.ref p :: st) h cn sn := bc_lda1 rfl rfl
set_option maxRecDepth 20000 in
theorem st_L_law_828t : bc d M_L_law scr 828 [some (.float t), a1, a2, a3, a4, a5, a6] st h cn sn = bc d M_L_law scr 829 [some (.float t), a1, a2, a3, a4, a5, a6] (.float t :: st) h cn sn := bc_ldt1 rfl rfl
set_option maxRecDepth 20000 in
theorem st_L_law_829 : bc d M_L_law scr 829 [a0, a1, a2, a3, some (.int x), a5, a6] st h cn sn = bc d M_L_law scr 831 [a0, a1, a2, a3, some (.int x), a5, a6] (.int x :: st) h cn sn := bc_ldi2 rfl rfl
set_option maxRecDepth 20000 in
theorem st_L_law_831 : bc d M_L_law scr 831 [a0, a1, a2, a3, a4, a5, a6] st h cn sn = bc d M_L_law scr 832 [a0, a1, a2, a3, a4, a5, a6] (.int 1 :: st) h cn sn := bc_L rfl rfl
set_option maxRecDepth 20000 in
theorem st_L_law_832 : bc d M_L_law scr 832 [a0, a1, a2, a3, a4, a5, a6] (.int y :: .int x :: st) h cn sn = bc d M_L_law scr 833 [a0, a1, a2, a3, a4, a5, a6] (.int (x + y) :: st) h cn sn := bc_L rfl rfl
set_option maxRecDepth 20000 in
theorem st_L_law_833 : bc d M_L_law scr 833 [a0, a1, a2, a3, a4, a5, a6] st h cn sn = bM (px_ald scr 833 st h) (fun p s g => bc d M_L_law scr p [a0, a1, a2, a3, a4, a5, a6] s g cn sn) := bc_M (en := (.iaload, 1, 0, 0, 0, .null)) rfl rfl rfl rfl rfl rfl px_I_il
set_option maxRecDepth 20000 in
theorem st_L_law_834 (hc : hcl h p = some 10) (hs : px_sum st ≤ 8) : bc (d + 1) M_L_law scr 834 [a0, a1, a2, a3, a4, a5, a6] (.int x :: .ref p :: st) h cn sn = bC (bc d M_X10_scrape none 0 [some (.ref p), some (.int x), none] [] h 0 0) (fun v h' c k => bc (d + 1) M_L_law scr 837 [a0, a1, a2, a3, a4, a5, a6] (v.toList ++ st) h' (cn + c) (sn + k)) (fun z h' c k => some (.inr z, h', cn + c, sn + k)) := bc_I rfl rfl rfl rfl rfl rfl rfl (px_I_vir mt_200 rfl hc hs rfl) rfl rfl rfl
set_option maxRecDepth 20000 in
theorem st_L_law_837 : bc d M_L_law scr 837 [a0, a1, a2, a3, a4, a5, a6] (.int x :: st) h cn sn = bc d M_L_law scr 839 [a0, a1, a2, a3, a4, lc_c2 a5, some (.int x)] st h cn sn := bc_Ls1 (en := (.istore 6, 2, 0, 0, 0, .null)) (vs := [a0, a1, a2, a3, a4, a5, a6]) (i := 6) (v := .int x) rfl rfl rfl
set_option maxRecDepth 20000 in
theorem st_L_law_839 : bc d M_L_law scr 839 [a0, a1, some (.ref p), a3, a4, a5, a6] st h cn sn = bc d M_L_law scr 840 [a0, a1, some (.ref p), a3, a4, a5, a6] (.ref p :: st) h cn sn := bc_lda1 rfl rfl
set_option maxRecDepth 20000 in
theorem st_L_law_839t : bc d M_L_law scr 839 [a0, a1, some (.float t), a3, a4, a5, a6] st h cn sn = bc d M_L_law scr 840 [a0, a1, some (.float t), a3, a4, a5, a6] (.float t :: st) h cn sn := bc_ldt1 rfl rfl
set_option maxRecDepth 20000 in
theorem st_L_law_840 (hc : hcl h p = some 10) (hs : px_sum st ≤ 8) : bc (d + 1) M_L_law scr 840 [a0, a1, a2, a3, a4, a5, a6] (.ref p :: st) h cn sn = bC (bc d M_X10_thrown none 0 [some (.ref p)] [] h 0 0) (fun v h' c k => bc (d + 1) M_L_law scr 843 [a0, a1, a2, a3, a4, a5, a6] (v.toList ++ st) h' (cn + c) (sn + k)) (fun z h' c k => some (.inr z, h', cn + c, sn + k)) := bc_I rfl rfl rfl rfl rfl rfl rfl (px_I_vir mt_133 rfl hc hs rfl) rfl rfl rfl
set_option maxRecDepth 20000 in
theorem st_L_law_843 : bc d M_L_law scr 843 [a0, a1, a2, a3, a4, some (.int x), a6] st h cn sn = bc d M_L_law scr 845 [a0, a1, a2, a3, a4, some (.int x), a6] (.int x :: st) h cn sn := bc_ldi2 rfl rfl
set_option maxRecDepth 20000 in
theorem st_L_law_845 : bc d M_L_law scr 845 [a0, a1, a2, a3, a4, a5, a6] (.int y :: .int x :: st) h cn sn = if x = y then bc d M_L_law scr 850 [a0, a1, a2, a3, a4, a5, a6] st h cn sn else bc d M_L_law scr 848 [a0, a1, a2, a3, a4, a5, a6] st h cn sn := (bc_ic rfl).trans bt_eq
set_option maxRecDepth 20000 in
theorem st_L_law_848 : bc d M_L_law scr 848 [a0, a1, a2, a3, a4, a5, a6] st h cn sn = bc d M_L_law scr 849 [a0, a1, a2, a3, a4, a5, a6] (.int 0 :: st) h cn sn := bc_L rfl rfl
set_option maxRecDepth 20000 in
theorem st_L_law_849 : bc d M_L_law scr 849 [a0, a1, a2, a3, a4, a5, a6] [.int 0] h cn sn = some (.inl (some (.int 0)), h, cn, sn) := bc_E rfl rfl rfl rfl rfl rfl rfl
set_option maxRecDepth 20000 in
theorem st_L_law_849b : bc d M_L_law scr 849 [a0, a1, a2, a3, a4, a5, a6] [.int 1] h cn sn = some (.inl (some (.int 1)), h, cn, sn) := bc_E rfl rfl rfl rfl rfl rfl rfl
set_option maxRecDepth 20000 in
theorem st_L_law_850 : bc d M_L_law scr 850 [a0, a1, a2, a3, a4, some (.int x), a6] st h cn sn = bc d M_L_law scr 852 [a0, a1, a2, a3, a4, some (.int x), a6] (.int x :: st) h cn sn := bc_ldi2 rfl rfl
set_option maxRecDepth 20000 in
theorem st_L_law_852 : bc d M_L_law scr 852 [a0, a1, a2, a3, a4, a5, a6] (.int x :: st) h cn sn = if x = 0 then bc d M_L_law scr 855 [a0, a1, a2, a3, a4, a5, a6] st h cn sn else bc d M_L_law scr 867 [a0, a1, a2, a3, a4, a5, a6] st h cn sn := (bc_if rfl).trans bt_ne
set_option maxRecDepth 20000 in
theorem st_L_law_855 : bc d M_L_law scr 855 [a0, a1, a2, some (.ref p), a4, a5, a6] st h cn sn = bc d M_L_law scr 856 [a0, a1, a2, some (.ref p), a4, a5, a6] (.ref p :: st) h cn sn := bc_lda1 rfl rfl
set_option maxRecDepth 20000 in
theorem st_L_law_855t : bc d M_L_law scr 855 [a0, a1, a2, some (.float t), a4, a5, a6] st h cn sn = bc d M_L_law scr 856 [a0, a1, a2, some (.float t), a4, a5, a6] (.float t :: st) h cn sn := bc_ldt1 rfl rfl
set_option maxRecDepth 20000 in
theorem st_L_law_856 : bc d M_L_law scr 856 [a0, a1, a2, a3, a4, a5, a6] st h cn sn = bc d M_L_law scr 857 [a0, a1, a2, a3, a4, a5, a6] (.int 0 :: st) h cn sn := bc_L rfl rfl
set_option maxRecDepth 20000 in
theorem st_L_law_857 : bc d M_L_law scr 857 [a0, a1, a2, a3, a4, a5, a6] st h cn sn = bM (px_lld 857 st h) (fun p s g => bc d M_L_law scr p [a0, a1, a2, a3, a4, a5, a6] s g cn sn) := bc_M (en := (.laload, 1, 0, 0, 0, .null)) rfl rfl rfl rfl rfl rfl px_I_ll
set_option maxRecDepth 20000 in
theorem st_L_law_858 : bc d M_L_law scr 858 [a0, a1, a2, a3, a4, a5, some (.int x)] st h cn sn = bc d M_L_law scr 860 [a0, a1, a2, a3, a4, a5, some (.int x)] (.int x :: st) h cn sn := bc_ldi2 rfl rfl
set_option maxRecDepth 20000 in
theorem st_L_law_860 : bc d M_L_law scr 860 [a0, a1, a2, a3, a4, a5, a6] (.int x :: st) h cn sn = bc d M_L_law scr 861 [a0, a1, a2, a3, a4, a5, a6] (.long x.toInt64 :: st) h cn sn := bc_L rfl rfl
set_option maxRecDepth 20000 in
theorem st_L_law_861 : bc d M_L_law scr 861 [a0, a1, a2, a3, a4, a5, a6] (.long w :: .long u :: st) h cn sn = bc d M_L_law scr 862 [a0, a1, a2, a3, a4, a5, a6] (.int (lg_cmp u w) :: st) h cn sn := bc_L rfl rfl
set_option maxRecDepth 20000 in
theorem st_L_law_862 : bc d M_L_law scr 862 [a0, a1, a2, a3, a4, a5, a6] (.int x :: st) h cn sn = if x = 0 then bc d M_L_law scr 867 [a0, a1, a2, a3, a4, a5, a6] st h cn sn else bc d M_L_law scr 865 [a0, a1, a2, a3, a4, a5, a6] st h cn sn := (bc_if rfl).trans bt_eq
set_option maxRecDepth 20000 in
theorem st_L_law_865 : bc d M_L_law scr 865 [a0, a1, a2, a3, a4, a5, a6] st h cn sn = bc d M_L_law scr 866 [a0, a1, a2, a3, a4, a5, a6] (.int 0 :: st) h cn sn := bc_L rfl rfl
set_option maxRecDepth 20000 in
theorem st_L_law_866 : bc d M_L_law scr 866 [a0, a1, a2, a3, a4, a5, a6] [.int 0] h cn sn = some (.inl (some (.int 0)), h, cn, sn) := bc_E rfl rfl rfl rfl rfl rfl rfl
set_option maxRecDepth 20000 in
theorem st_L_law_866b : bc d M_L_law scr 866 [a0, a1, a2, a3, a4, a5, a6] [.int 1] h cn sn = some (.inl (some (.int 1)), h, cn, sn) := bc_E rfl rfl rfl rfl rfl rfl rfl
set_option maxRecDepth 20000 in
theorem st_L_law_867 : bc d M_L_law scr 867 [a0, a1, a2, a3, a4, a5, a6] st h cn sn = bc d M_L_law scr 1940 [a0, a1, a2, a3, a4, a5, a6] st h cn sn := bc_L rfl rfl
set_option maxRecDepth 20000 in
theorem st_L_law_870 : bc d M_L_law scr 870 [a0, some (.ref p), a2, a3, a4, a5, a6] st h cn sn = bc d M_L_law scr 871 [a0, some (.ref p), a2, a3, a4, a5, a6] (.ref p :: st) h cn sn := bc_lda1 rfl rfl
set_option maxRecDepth 20000 in
theorem st_L_law_870t : bc d M_L_law scr 870 [a0, some (.float t), a2, a3, a4, a5, a6] st h cn sn = bc d M_L_law scr 871 [a0, some (.float t), a2, a3, a4, a5, a6] (.float t :: st) h cn sn := bc_ldt1 rfl rfl
set_option maxRecDepth 20000 in
theorem st_L_law_871 (hc : hcl h p = some 9) (hs : px_sum st ≤ 8) : bc (d + 1) M_L_law scr 871 [a0, a1, a2, a3, a4, a5, a6] (.ref p :: st) h cn sn = bC (bc d M_X9_undo none 0 [some (.ref p)] [] h 0 0) (fun v h' c k => bc (d + 1) M_L_law scr 874 [a0, a1, a2, a3, a4, a5, a6] (v.toList ++ st) h' (cn + c) (sn + k)) (fun z h' c k => some (.inr z, h', cn + c, sn + k)) := bc_I rfl rfl rfl rfl rfl rfl rfl (px_I_vir mt_91 rfl hc hs rfl) rfl rfl rfl
set_option maxRecDepth 20000 in
theorem st_L_law_874 : bc d M_L_law scr 874 [a0, a1, some (.ref p), a3, a4, a5, a6] st h cn sn = bc d M_L_law scr 875 [a0, a1, some (.ref p), a3, a4, a5, a6] (.ref p :: st) h cn sn := bc_lda1 rfl rfl
set_option maxRecDepth 20000 in
theorem st_L_law_874t : bc d M_L_law scr 874 [a0, a1, some (.float t), a3, a4, a5, a6] st h cn sn = bc d M_L_law scr 875 [a0, a1, some (.float t), a3, a4, a5, a6] (.float t :: st) h cn sn := bc_ldt1 rfl rfl
set_option maxRecDepth 20000 in
theorem st_L_law_875 (hc : hcl h p = some 10) (hs : px_sum st ≤ 8) : bc (d + 1) M_L_law scr 875 [a0, a1, a2, a3, a4, a5, a6] (.ref p :: st) h cn sn = bC (bc d M_X10_undo none 0 [some (.ref p)] [] h 0 0) (fun v h' c k => bc (d + 1) M_L_law scr 878 [a0, a1, a2, a3, a4, a5, a6] (v.toList ++ st) h' (cn + c) (sn + k)) (fun z h' c k => some (.inr z, h', cn + c, sn + k)) := bc_I rfl rfl rfl rfl rfl rfl rfl (px_I_vir mt_201 rfl hc hs rfl) rfl rfl rfl
set_option maxRecDepth 20000 in
theorem st_L_law_878 : bc d M_L_law scr 878 [a0, a1, a2, a3, a4, a5, a6] (.int y :: .int x :: st) h cn sn = if x = y then bc d M_L_law scr 1940 [a0, a1, a2, a3, a4, a5, a6] st h cn sn else bc d M_L_law scr 881 [a0, a1, a2, a3, a4, a5, a6] st h cn sn := (bc_ic rfl).trans bt_eq
set_option maxRecDepth 20000 in
theorem st_L_law_881 : bc d M_L_law scr 881 [a0, a1, a2, a3, a4, a5, a6] st h cn sn = bc d M_L_law scr 882 [a0, a1, a2, a3, a4, a5, a6] (.int 0 :: st) h cn sn := bc_L rfl rfl
set_option maxRecDepth 20000 in
theorem st_L_law_882 : bc d M_L_law scr 882 [a0, a1, a2, a3, a4, a5, a6] [.int 0] h cn sn = some (.inl (some (.int 0)), h, cn, sn) := bc_E rfl rfl rfl rfl rfl rfl rfl
set_option maxRecDepth 20000 in
theorem st_L_law_882b : bc d M_L_law scr 882 [a0, a1, a2, a3, a4, a5, a6] [.int 1] h cn sn = some (.inl (some (.int 1)), h, cn, sn) := bc_E rfl rfl rfl rfl rfl rfl rfl
set_option maxRecDepth 20000 in
theorem st_L_law_883 : bc d M_L_law scr 883 [a0, some (.ref p), a2, a3, a4, a5, a6] st h cn sn = bc d M_L_law scr 884 [a0, some (.ref p), a2, a3, a4, a5, a6] (.ref p :: st) h cn sn := bc_lda1 rfl rfl
set_option maxRecDepth 20000 in
theorem st_L_law_883t : bc d M_L_law scr 883 [a0, some (.float t), a2, a3, a4, a5, a6] st h cn sn = bc d M_L_law scr 884 [a0, some (.float t), a2, a3, a4, a5, a6] (.float t :: st) h cn sn := bc_ldt1 rfl rfl
set_option maxRecDepth 20000 in
theorem st_L_law_884 : bc d M_L_law scr 884 [some (.ref p), a1, a2, a3, a4, a5, a6] st h cn sn = bc d M_L_law scr 885 [some (.ref p), a1, a2, a3, a4, a5, a6] (.ref p :: st) h cn sn := bc_lda1 rfl rfl
end STEPS
