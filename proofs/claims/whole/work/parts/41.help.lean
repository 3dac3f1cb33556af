/-! ===== what the printed steps stand on: divisions, tests, calls ===== -/
section HELP
variable {d : Nat} {M : px_Mt} {scr : Option (Nat × (Nat → Int32))} {pc : Nat} {vs : List (Option Value)} {st : List Value} {h : px_H} {cn sn : Nat} {en : px_En}
theorem bc_dv {pc' : Nat} {x y : Int32} {f : Int32 → Int32 → Value} (ht : M.2.2.2.2.2.2 pc = some en) (hq : px_L M.2.2.1 en.1 en.2.2.1 pc (lc 0 vs) (.int y :: .int x :: st) = if y = 0 then none else some (pc', lc 0 vs, f x y :: st)) (hy : y ≠ 0) : bc d M scr pc vs (.int y :: .int x :: st) h cn sn = bc d M scr pc' vs (f x y :: st) h cn sn := bc_L ht (by rw [hq, if_neg hy])
theorem bt_eq {α : Type} {x y : Int32} {A B : α} : (bif px_test .eq x y then A else B) = if x = y then A else B := by
  show (bif decide (x = y) then A else B) = _
  by_cases e : x = y <;> simp [e]
theorem bt_ne {α : Type} {x y : Int32} {A B : α} : (bif px_test .ne x y then A else B) = if x = y then B else A := by
  show (bif !decide (x = y) then A else B) = _
  by_cases e : x = y <;> simp [e]
theorem bt_lt {α : Type} {x y : Int32} {A B : α} : (bif px_test .lt x y then A else B) = if x < y then A else B := by
  show (bif decide (x < y) then A else B) = _
  by_cases e : x < y <;> simp [e]
theorem bt_gt {α : Type} {x y : Int32} {A B : α} : (bif px_test .gt x y then A else B) = if y < x then A else B := by
  show (bif decide (y < x) then A else B) = _
  by_cases e : y < x <;> simp [e]
theorem bt_ge {α : Type} {x y : Int32} {A B : α} : (bif px_test .ge x y then A else B) = if x < y then B else A := by
  show (bif decide (y ≤ x) then A else B) = _
  by_cases e : x < y
  · rw [if_pos e, decide_eq_false (Int32.not_le.mpr e)]; rfl
  · rw [if_neg e, decide_eq_true (Int32.not_lt.mp e)]; rfl
theorem bt_le {α : Type} {x y : Int32} {A B : α} : (bif px_test .le x y then A else B) = if y < x then B else A := by
  show (bif decide (x ≤ y) then A else B) = _
  by_cases e : y < x
  · rw [if_pos e, decide_eq_false (Int32.not_le.mpr e)]; rfl
  · rw [if_neg e, decide_eq_true (Int32.not_lt.mp e)]; rfl
/-- the class of an object's cell -/
def hcl (h : px_H) (p : Nat) : Option Nat := match h[p]? with
  | some (.inr (c, _)) => some c
  | _ => none
theorem px_go_ok {M' : px_Mt} {as r : List Value} (hs : px_sum r ≤ 8) (ha : Nat.ble (px_sum as) M'.2.2.1 = true) : px_go M' (d + 1) as r = some (d, M', as, r) := by
  unfold px_go
  have : px_small r = true := Nat.ble_eq_true_of_le hs
  simp only [this, ha, Bool.and_self, cond_true]
theorem px_I_vir {M' : px_Mt} {i a b k p : Nat} {as r : List Value} (hm : kt_mt a = some M') (hp : px_pop b st [] = some (as, .ref p :: r)) (hc : hcl h p = some k) (hs : px_sum r ≤ 8) (ha : Nat.ble (px_sum (.ref p :: as)) M'.2.2.1 = true) : px_I kt_mt (d + 1) (.invokevirtual i) a b k st h = some (d, M', .ref p :: as, r) := by
  unfold px_I
  simp only [hm, hp]
  unfold hcl at hc
  split at hc
  · rename_i c fs hh
    cases hc
    simp only [hh]
    have : Nat.beq k k = true := Nat.beq_refl k
    simp only [this, cond_true]
    exact px_go_ok hs ha
  · cases hc
theorem px_I_sta {M' : px_Mt} {i a b k : Nat} {as r : List Value} (hm : kt_mt a = some M') (hp : px_pop b st [] = some (as, r)) (hs : px_sum r ≤ 8) (ha : Nat.ble (px_sum as) M'.2.2.1 = true) : px_I kt_mt (d + 1) (.invokestatic i) a b k st h = some (d, M', as, r) := by
  unfold px_I
  simp only [hm, hp]
  exact px_go_ok hs ha
theorem px_I_1001 {i : Instr} {b k : Nat} : px_I kt_mt d i 1001 b k st h = none := rfl
theorem px_I_1002 {i : Instr} {b k : Nat} : px_I kt_mt d i 1002 b k st h = none := rfl
theorem px_I_1003 {i : Instr} {b k : Nat} : px_I kt_mt d i 1003 b k st h = none := rfl
theorem px_I_1004 {i : Instr} {b k : Nat} : px_I kt_mt d i 1004 b k st h = none := rfl
theorem px_I_1005 {i : Instr} {b k : Nat} : px_I kt_mt d i 1005 b k st h = none := rfl
theorem px_I_1006 {i : Instr} {b k : Nat} : px_I kt_mt d i 1006 b k st h = none := rfl
end HELP
