/-! ===== one step of the machine with locals by their places, as an equation ===== -/
section STEP
variable {d : Nat} {M : px_Mt} {scr : Option (Nat × (Nat → Int32))} {pc : Nat} {vs : List (Option Value)} {st : List Value} {h : px_H} {cn sn : Nat} {en : px_En}
theorem bc_L0 (ht : M.2.2.2.2.2.2 pc = some en) {q : Nat × px_Ls × List Value} (hq : px_L M.2.2.1 en.1 en.2.2.1 pc (lc 0 vs) st = some q) : bc d M scr pc vs st h cn sn = bk d M scr q.1 q.2.1 q.2.2 h cn sn := by
  unfold bc
  rw [bk_eq]
  unfold bk_F
  simp only [ht, hq]
theorem bc_L {pc' : Nat} {st' : List Value} (ht : M.2.2.2.2.2.2 pc = some en) (hq : px_L M.2.2.1 en.1 en.2.2.1 pc (lc 0 vs) st = some (pc', lc 0 vs, st')) : bc d M scr pc vs st h cn sn = bc d M scr pc' vs st' h cn sn := bc_L0 ht hq
theorem bc_Ls1 {pc' i : Nat} {v : Value} {st' : List Value} (ht : M.2.2.2.2.2.2 pc = some en) (hq : px_L M.2.2.1 en.1 en.2.2.1 pc (lc 0 vs) st = some (pc', px_st1 (lc 0 vs) i v, st')) (hi : Nat.blt i vs.length = true) : bc d M scr pc vs st h cn sn = bc d M scr pc' (lc_s1 vs i v) st' h cn sn := (bc_L0 ht hq).trans (bc_s1 (Nat.le_of_ble_eq_true hi))
theorem bc_Ls2 {pc' i : Nat} {v : Value} {st' : List Value} (ht : M.2.2.2.2.2.2 pc = some en) (hq : px_L M.2.2.1 en.1 en.2.2.1 pc (lc 0 vs) st = some (pc', px_st2 (lc 0 vs) i v, st')) (hi : Nat.blt (i + 1) vs.length = true) : bc d M scr pc vs st h cn sn = bc d M scr pc' (lc_s2 vs i v) st' h cn sn := (bc_L0 ht hq).trans (bc_s2 (Nat.le_of_ble_eq_true hi))
theorem lc_rd0 {i : Nat} {v : Value} (hv : vs[i]? = some (some v)) : px_rd (lc 0 vs) i = some v := by
  have := lc_rd vs 0 i
  rw [Nat.zero_add, hv] at this
  exact this
theorem bc_ldi1 {i : Fin 4} {a b c : Nat} {kv : Value} {x : Int32} (ht : M.2.2.2.2.2.2 pc = some (.iload_n i, 1, a, b, c, kv)) (hv : vs[(i : Nat)]? = some (some (.int x))) : bc d M scr pc vs st h cn sn = bc d M scr (pc + 1) vs (.int x :: st) h cn sn := bc_L ht (by show px_ldi (pc + 1) (lc 0 vs) st (i : Nat) = _; unfold px_ldi; rw [lc_rd0 hv])
theorem bc_ldi2 {i a b c : Nat} {kv : Value} {x : Int32} (ht : M.2.2.2.2.2.2 pc = some (.iload i, 2, a, b, c, kv)) (hv : vs[i]? = some (some (.int x))) : bc d M scr pc vs st h cn sn = bc d M scr (pc + 2) vs (.int x :: st) h cn sn := bc_L ht (by show px_ldi (pc + 2) (lc 0 vs) st i = _; unfold px_ldi; rw [lc_rd0 hv])
theorem bc_ldl1 {i : Fin 4} {a b c : Nat} {kv : Value} {x : Int64} (ht : M.2.2.2.2.2.2 pc = some (.lload_n i, 1, a, b, c, kv)) (hv : vs[(i : Nat)]? = some (some (.long x))) : bc d M scr pc vs st h cn sn = bc d M scr (pc + 1) vs (.long x :: st) h cn sn := bc_L ht (by show px_ldl (pc + 1) (lc 0 vs) st (i : Nat) = _; unfold px_ldl; rw [lc_rd0 hv])
theorem bc_ldl2 {i a b c : Nat} {kv : Value} {x : Int64} (ht : M.2.2.2.2.2.2 pc = some (.lload i, 2, a, b, c, kv)) (hv : vs[i]? = some (some (.long x))) : bc d M scr pc vs st h cn sn = bc d M scr (pc + 2) vs (.long x :: st) h cn sn := bc_L ht (by show px_ldl (pc + 2) (lc 0 vs) st i = _; unfold px_ldl; rw [lc_rd0 hv])
theorem bc_lda1 {i : Fin 4} {a b c : Nat} {kv : Value} {x : Nat} (ht : M.2.2.2.2.2.2 pc = some (.aload_n i, 1, a, b, c, kv)) (hv : vs[(i : Nat)]? = some (some (.ref x))) : bc d M scr pc vs st h cn sn = bc d M scr (pc + 1) vs (.ref x :: st) h cn sn := bc_L ht (by show px_lda (pc + 1) (lc 0 vs) st (i : Nat) = _; unfold px_lda; rw [lc_rd0 hv])
theorem bc_lda2 {i a b c : Nat} {kv : Value} {x : Nat} (ht : M.2.2.2.2.2.2 pc = some (.aload i, 2, a, b, c, kv)) (hv : vs[i]? = some (some (.ref x))) : bc d M scr pc vs st h cn sn = bc d M scr (pc + 2) vs (.ref x :: st) h cn sn := bc_L ht (by show px_lda (pc + 2) (lc 0 vs) st i = _; unfold px_lda; rw [lc_rd0 hv])
theorem bc_ldt1 {i : Fin 4} {a b c : Nat} {kv : Value} {x : UInt32} (ht : M.2.2.2.2.2.2 pc = some (.aload_n i, 1, a, b, c, kv)) (hv : vs[(i : Nat)]? = some (some (.float x))) : bc d M scr pc vs st h cn sn = bc d M scr (pc + 1) vs (.float x :: st) h cn sn := bc_L ht (by show px_lda (pc + 1) (lc 0 vs) st (i : Nat) = _; unfold px_lda; rw [lc_rd0 hv])
theorem bc_ldt2 {i a b c : Nat} {kv : Value} {x : UInt32} (ht : M.2.2.2.2.2.2 pc = some (.aload i, 2, a, b, c, kv)) (hv : vs[i]? = some (some (.float x))) : bc d M scr pc vs st h cn sn = bc d M scr (pc + 2) vs (.float x :: st) h cn sn := bc_L ht (by show px_lda (pc + 2) (lc 0 vs) st i = _; unfold px_lda; rw [lc_rd0 hv])
theorem bc_inc {i a b c : Nat} {k : Int} {kv : Value} {x : Int32} (ht : M.2.2.2.2.2.2 pc = some (.iinc i k, 3, a, b, c, kv)) (hv : vs[i]? = some (some (.int x))) (hn : Nat.blt i M.2.2.1 = true) (hi : Nat.blt i vs.length = true) : bc d M scr pc vs st h cn sn = bc d M scr (pc + 3) (lc_s1 vs i (.int (x + Int32.ofInt k))) st h cn sn := bc_Ls1 ht (by show px_inc M.2.2.1 (pc + 3) (lc 0 vs) st i (Int32.ofInt k) = _; unfold px_inc; rw [lc_rd0 hv]; simp only [hn, cond_true]) hi
/-- jumps -/
theorem bc_if {k : Jvm.ClassFile.Cond} {o : Int} {n a b c : Nat} {kv : Value} {x : Int32} (ht : M.2.2.2.2.2.2 pc = some (.ifCond k o, n, a, b, c, kv)) : bc d M scr pc vs (.int x :: st) h cn sn = bif px_test k x 0 then bc d M scr a vs st h cn sn else bc d M scr (pc + 3) vs st h cn sn := by
  rw [bc_L (pc' := bif px_test k x 0 then a else pc + 3) (st' := st) ht rfl]
  cases px_test k x 0 <;> rfl
theorem bc_ic {k : Jvm.ClassFile.Cond} {o : Int} {n a b c : Nat} {kv : Value} {x y : Int32} (ht : M.2.2.2.2.2.2 pc = some (.if_icmp k o, n, a, b, c, kv)) : bc d M scr pc vs (.int y :: .int x :: st) h cn sn = bif px_test k x y then bc d M scr a vs st h cn sn else bc d M scr (pc + 3) vs st h cn sn := by
  rw [bc_L (pc' := bif px_test k x y then a else pc + 3) (st' := st) ht rfl]
  cases px_test k x y <;> rfl
/-- steps on the heap -/
def bM (o : px_RM) (k : Nat → List Value → px_H → Option (px_Res × px_H × Nat × Nat)) : Option (px_Res × px_H × Nat × Nat) := match o with
  | some q => k q.1 q.2.1 q.2.2
  | none => none
theorem bM_some {p : Nat} {s : List Value} {g : px_H} {k : Nat → List Value → px_H → Option (px_Res × px_H × Nat × Nat)} : bM (some (p, s, g)) k = k p s g := rfl
theorem bc_M (ht : M.2.2.2.2.2.2 pc = some en) (hL : px_L M.2.2.1 en.1 en.2.2.1 pc (lc 0 vs) st = none) (hP : px_P kt_X d en.1 en.2.2.1 st h = none) (hT : px_T d en.1 en.2.2.1 st = none) (hN : px_N kt_ft en.1 en.2.2.1 en.2.2.2.1 st = none) (hE : px_end M.2.2.2.1 en.1 st = none) (hI : px_I kt_mt d en.1 en.2.2.1 en.2.2.2.1 en.2.2.2.2.1 st h = none) :
    bc d M scr pc vs st h cn sn = bM (px_M kt_X.1.length kt_ft scr en.1 en.2.2.1 en.2.2.2.1 en.2.2.2.2.2 pc st h) (fun p s g => bc d M scr p vs s g cn sn) := by
  unfold bc
  rw [bk_eq]
  unfold bk_F
  simp only [ht, hL]
  cases px_M kt_X.1.length kt_ft scr en.1 en.2.2.1 en.2.2.2.1 en.2.2.2.2.2 pc st h with
  | some q => rfl
  | none => simp only [hP, hT, hN, hE, hI]; rfl
theorem px_I_gf {i a b k : Nat} : px_I kt_mt d (.getfield i) a b k st h = none := by unfold px_I; cases kt_mt a <;> rfl
theorem px_I_pf {i a b k : Nat} : px_I kt_mt d (.putfield i) a b k st h = none := by unfold px_I; cases kt_mt a <;> rfl
theorem px_I_il {a b k : Nat} : px_I kt_mt d .iaload a b k st h = none := by unfold px_I; cases kt_mt a <;> rfl
theorem px_I_is {a b k : Nat} : px_I kt_mt d .iastore a b k st h = none := by unfold px_I; cases kt_mt a <;> rfl
theorem px_I_ll {a b k : Nat} : px_I kt_mt d .laload a b k st h = none := by unfold px_I; cases kt_mt a <;> rfl
theorem px_I_ls {a b k : Nat} : px_I kt_mt d .lastore a b k st h = none := by unfold px_I; cases kt_mt a <;> rfl
theorem px_I_bl {a b k : Nat} : px_I kt_mt d .baload a b k st h = none := by unfold px_I; cases kt_mt a <;> rfl
theorem px_I_bs {a b k : Nat} : px_I kt_mt d .bastore a b k st h = none := by unfold px_I; cases kt_mt a <;> rfl
theorem px_I_al {a b k : Nat} : px_I kt_mt d .aaload a b k st h = none := by unfold px_I; cases kt_mt a <;> rfl
theorem px_I_as {a b k : Nat} : px_I kt_mt d .aastore a b k st h = none := by unfold px_I; cases kt_mt a <;> rfl
theorem px_I_ln {a b k : Nat} : px_I kt_mt d .arraylength a b k st h = none := by unfold px_I; cases kt_mt a <;> rfl
theorem bc_ldc {p : Nat} {s : List Value} {g : px_H} (ht : M.2.2.2.2.2.2 pc = some en) (hL : px_L M.2.2.1 en.1 en.2.2.1 pc (lc 0 vs) st = none) (hq : px_M kt_X.1.length kt_ft scr en.1 en.2.2.1 en.2.2.2.1 en.2.2.2.2.2 pc st h = some (p, s, g)) : bc d M scr pc vs st h cn sn = bc d M scr p vs s g cn sn := by
  unfold bc
  rw [bk_eq]
  unfold bk_F
  simp only [ht, hL, hq]
/-- one-step methods -/
def bP (o : Option (List Value × px_H)) (k : List Value → px_H → Option (px_Res × px_H × Nat × Nat)) : Option (px_Res × px_H × Nat × Nat) := match o with
  | some q => k q.1 q.2
  | none => none
theorem bP_some {s : List Value} {g : px_H} {k : List Value → px_H → Option (px_Res × px_H × Nat × Nat)} : bP (some (s, g)) k = k s g := rfl
theorem bc_P (ht : M.2.2.2.2.2.2 pc = some en) (hL : px_L M.2.2.1 en.1 en.2.2.1 pc (lc 0 vs) st = none) (hM : px_M kt_X.1.length kt_ft scr en.1 en.2.2.1 en.2.2.2.1 en.2.2.2.2.2 pc st h = none) (hT : px_T d en.1 en.2.2.1 st = none) (hN : px_N kt_ft en.1 en.2.2.1 en.2.2.2.1 st = none) (hE : px_end M.2.2.2.1 en.1 st = none) (hI : px_I kt_mt d en.1 en.2.2.1 en.2.2.2.1 en.2.2.2.2.1 st h = none) :
    bc d M scr pc vs st h cn sn = bP (px_P kt_X d en.1 en.2.2.1 st h) (fun s g => bc d M scr (pc + 3) vs s g cn sn) := by
  unfold bc
  rw [bk_eq]
  unfold bk_F
  simp only [ht, hL, hM]
  cases px_P kt_X d en.1 en.2.2.1 st h with
  | some q => rfl
  | none => simp only [hT, hN, hE, hI]; rfl
theorem bc_T {k : Nat} (ht : M.2.2.2.2.2.2 pc = some en) (hL : px_L M.2.2.1 en.1 en.2.2.1 pc (lc 0 vs) st = none) (hM : px_M kt_X.1.length kt_ft scr en.1 en.2.2.1 en.2.2.2.1 en.2.2.2.2.2 pc st h = none) (hP : px_P kt_X d en.1 en.2.2.1 st h = none) (hT : px_T d en.1 en.2.2.1 st = some k) (hh : M.2.2.2.2.1 = []) : bc d M scr pc vs st h cn sn = some (.inr k, h, cn + 1, sn + 6) := by
  unfold bc
  rw [bk_eq]
  unfold bk_F
  simp only [ht, hL, hM, hP, hT, hh]
theorem bc_N {q : Nat × List Value × px_E × Nat} (ht : M.2.2.2.2.2.2 pc = some en) (hL : px_L M.2.2.1 en.1 en.2.2.1 pc (lc 0 vs) st = none) (hM : px_M kt_X.1.length kt_ft scr en.1 en.2.2.1 en.2.2.2.1 en.2.2.2.2.2 pc st h = none) (hP : px_P kt_X d en.1 en.2.2.1 st h = none) (hT : px_T d en.1 en.2.2.1 st = none) (hN : px_N kt_ft en.1 en.2.2.1 en.2.2.2.1 st = some q) :
    bc d M scr pc vs st h cn sn = bc d M scr (pc + q.1) vs (.ref h.length :: q.2.1) (h ++ [q.2.2.1]) (cn + 1) (sn + q.2.2.2) := by
  unfold bc
  rw [bk_eq]
  unfold bk_F
  simp only [ht, hL, hM, hP, hT, hN]
theorem bc_E {v : Option Value} (ht : M.2.2.2.2.2.2 pc = some en) (hL : px_L M.2.2.1 en.1 en.2.2.1 pc (lc 0 vs) st = none) (hM : px_M kt_X.1.length kt_ft scr en.1 en.2.2.1 en.2.2.2.1 en.2.2.2.2.2 pc st h = none) (hP : px_P kt_X d en.1 en.2.2.1 st h = none) (hT : px_T d en.1 en.2.2.1 st = none) (hN : px_N kt_ft en.1 en.2.2.1 en.2.2.2.1 st = none) (hE : px_end M.2.2.2.1 en.1 st = some v) : bc d M scr pc vs st h cn sn = some (.inl v, h, cn, sn) := by
  unfold bc
  rw [bk_eq]
  unfold bk_F
  simp only [ht, hL, hM, hP, hT, hN, hE]
/-- calls -/
def bC (o : Option (px_Res × px_H × Nat × Nat)) (f : Option Value → px_H → Nat → Nat → Option (px_Res × px_H × Nat × Nat)) (g : Nat → px_H → Nat → Nat → Option (px_Res × px_H × Nat × Nat)) : Option (px_Res × px_H × Nat × Nat) := match o with
  | none => none
  | some (.inl v, h', c, k) => f v h' c k
  | some (.inr z, h', c, k) => g z h' c k
theorem bC_inl {v : Option Value} {h' : px_H} {c k : Nat} {f : Option Value → px_H → Nat → Nat → Option (px_Res × px_H × Nat × Nat)} {g : Nat → px_H → Nat → Nat → Option (px_Res × px_H × Nat × Nat)} : bC (some (.inl v, h', c, k)) f g = f v h' c k := rfl
theorem bC_inr {z : Nat} {h' : px_H} {c k : Nat} {f : Option Value → px_H → Nat → Nat → Option (px_Res × px_H × Nat × Nat)} {g : Nat → px_H → Nat → Nat → Option (px_Res × px_H × Nat × Nat)} : bC (some (.inr z, h', c, k)) f g = g z h' c k := rfl
theorem bc_I {M' : px_Mt} {d' : Nat} {as r : List Value} {ws : List (Option Value)} (ht : M.2.2.2.2.2.2 pc = some en) (hL : px_L M.2.2.1 en.1 en.2.2.1 pc (lc 0 vs) st = none) (hM : px_M kt_X.1.length kt_ft scr en.1 en.2.2.1 en.2.2.2.1 en.2.2.2.2.2 pc st h = none) (hP : px_P kt_X d en.1 en.2.2.1 st h = none) (hT : px_T d en.1 en.2.2.1 st = none) (hN : px_N kt_ft en.1 en.2.2.1 en.2.2.2.1 st = none) (hE : px_end M.2.2.2.1 en.1 st = none)
    (hI : px_I kt_mt d en.1 en.2.2.1 en.2.2.2.1 en.2.2.2.2.1 st h = some (d', M', as, r)) (ha : lv_args 0 as = lc 0 ws) (hh : M.2.2.2.2.1 = []) (hi : px_isI en.1 = false) :
    bc d M scr pc vs st h cn sn = bC (bc d' M' none 0 ws [] h 0 0) (fun v h' c k => bc d M scr (pc + 3) vs (v.toList ++ r) h' (cn + c) (sn + k)) (fun z h' c k => some (.inr z, h', cn + c, sn + k)) := by
  show bk d M scr pc (lc 0 vs) st h cn sn = _
  rw [bk_eq]
  unfold bk_F
  simp only [ht, hL, hM, hP, hT, hN, hE, hI, ha]
  show bk_call bk d M scr pc (lc 0 vs) cn sn en.1 r (bk d' M' none 0 (lc 0 ws) [] h 0 0) = bC (bk d' M' none 0 (lc 0 ws) [] h 0 0) _ _
  cases bk d' M' none 0 (lc 0 ws) [] h 0 0 with
  | none => rfl
  | some z =>
    obtain ⟨z, h', c, k⟩ := z
    cases z with
    | inl v => rfl
    | inr z =>
      unfold bk_call
      simp only [hi, cond_false, hh]
      rfl
end STEP
