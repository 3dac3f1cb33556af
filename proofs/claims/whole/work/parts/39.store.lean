/-! ===== stores into locals by their places; the machine with such locals ===== -/
theorem lc_keep1 (vs : List (Option Value)) {j k : Nat} (h : j < k) : (lc k vs).filter (fun q => !(q.1 == j) && !(q.1 + 1 == j && q.2.category == 2)) = lc k vs := by
  apply List.filter_eq_self.mpr
  intro q hq
  have := lc_ge hq
  have e1 : (q.1 == j) = false := by simp; omega
  have e2 : (q.1 + 1 == j) = false := by simp; omega
  rw [e1, e2]; rfl
theorem lc_keep2 (vs : List (Option Value)) {j k : Nat} (h : j + 1 < k) : (lc k vs).filter (fun q => !(q.1 == j) && (!(q.1 == j + 1) && !(q.1 + 1 == j && q.2.category == 2))) = lc k vs := by
  apply List.filter_eq_self.mpr
  intro q hq
  have := lc_ge hq
  have e1 : (q.1 == j) = false := by simp; omega
  have e2 : (q.1 + 1 == j) = false := by simp; omega
  have e3 : (q.1 == j + 1) = false := by simp; omega
  rw [e1, e2, e3]; rfl
theorem lc_c2y {w : Value} (h : (w.category == 2) = true) : lc_c2 (some w) = none := by
  show (bif w.category == 2 then none else some w) = none
  rw [h]; rfl
theorem lc_c2n {w : Value} (h : (w.category == 2) = false) : lc_c2 (some w) = some w := by
  show (bif w.category == 2 then none else some w) = some w
  rw [h]; rfl
theorem lc_st1 (vs : List (Option Value)) (v : Value) : ∀ k i : Nat, i < vs.length → (px_st1 (lc k vs) (k + i) v).Perm (lc k (lc_s1 vs i v)) := by
  induction vs with
  | nil => intro k i h; exact absurd h (Nat.not_lt_zero _)
  | cons x vs ih =>
    intro k i hi
    match i, hi with
    | 0, _ =>
      show ((k, v) :: (lc k (x :: vs)).filter _).Perm ((k, v) :: lc (k + 1) vs)
      apply List.Perm.of_eq
      congr 1
      cases x with
      | none => exact lc_keep1 vs (Nat.lt_succ_self k)
      | some w =>
        show ((k, w) :: lc (k + 1) vs).filter _ = _
        rw [List.filter_cons_of_neg (by simp)]
        exact lc_keep1 vs (Nat.lt_succ_self k)
    | 1, h1 =>
      have h2 : 0 < vs.length := by simpa using h1
      have := ih (k + 1) 0 h2
      cases x with
      | none => exact this
      | some w =>
        show ((k + 1, v) :: ((k, w) :: lc (k + 1) vs).filter _).Perm (lc k (lc_c2 (some w) :: lc_s1 vs 0 v))
        cases hc : (w.category == 2) with
        | true =>
          rw [List.filter_cons_of_neg (by simp [hc]), lc_c2y hc]
          exact this
        | false =>
          rw [List.filter_cons_of_pos (by simp [hc] <;> omega), lc_c2n hc]
          exact (List.Perm.swap _ _ _).trans (List.Perm.cons _ this)
    | i + 2, h1 =>
      have h2 : i + 1 < vs.length := by rw [List.length_cons] at h1; omega
      have := ih (k + 1) (i + 1) h2
      rw [show k + 1 + (i + 1) = k + (i + 2) by omega] at this
      cases x with
      | none => exact this
      | some w =>
        show ((k + (i + 2), v) :: ((k, w) :: lc (k + 1) vs).filter _).Perm ((k, w) :: lc (k + 1) (lc_s1 vs (i + 1) v))
        rw [List.filter_cons_of_pos (by simp <;> omega)]
        exact (List.Perm.swap _ _ _).trans (List.Perm.cons _ this)
theorem lc_st2 (vs : List (Option Value)) (v : Value) : ∀ k i : Nat, i + 1 < vs.length → (px_st2 (lc k vs) (k + i) v).Perm (lc k (lc_s2 vs i v)) := by
  induction vs with
  | nil => intro k i h; exact absurd h (Nat.not_lt_zero _)
  | cons x vs ih =>
    intro k i hi
    match i, hi with
    | 0, h0 =>
      cases vs with
      | nil => exact absurd h0 (by simp)
      | cons y vs =>
        show ((k, v) :: (lc k (x :: y :: vs)).filter _).Perm ((k, v) :: lc (k + 1 + 1) vs)
        apply List.Perm.of_eq
        congr 1
        cases x with
        | none =>
          cases y with
          | none => exact lc_keep2 vs (by omega)
          | some w =>
            show ((k + 1, w) :: lc (k + 1 + 1) vs).filter _ = _
            rw [List.filter_cons_of_neg (by simp)]
            exact lc_keep2 vs (by omega)
        | some u =>
          show ((k, u) :: lc (k + 1) (y :: vs)).filter _ = _
          rw [List.filter_cons_of_neg (by simp)]
          cases y with
          | none => exact lc_keep2 vs (by omega)
          | some w =>
            show ((k + 1, w) :: lc (k + 1 + 1) vs).filter _ = _
            rw [List.filter_cons_of_neg (by simp)]
            exact lc_keep2 vs (by omega)
    | 1, h1 =>
      have h2 : 0 + 1 < vs.length := by rw [List.length_cons] at h1; omega
      have := ih (k + 1) 0 h2
      have e0 : lc_s2 (x :: vs) 1 v = lc_c2 x :: lc_s2 vs 0 v := by
        cases vs <;> rfl
      rw [e0]
      cases x with
      | none => exact this
      | some w =>
        show ((k + 1, v) :: ((k, w) :: lc (k + 1) vs).filter _).Perm (lc k (lc_c2 (some w) :: lc_s2 vs 0 v))
        cases hc : (w.category == 2) with
        | true =>
          rw [List.filter_cons_of_neg (by simp [hc]), lc_c2y hc]
          exact this
        | false =>
          rw [List.filter_cons_of_pos (by simp [hc] <;> omega), lc_c2n hc]
          exact (List.Perm.swap _ _ _).trans (List.Perm.cons _ this)
    | i + 2, h1 =>
      have h2 : i + 1 + 1 < vs.length := by rw [List.length_cons] at h1; omega
      have := ih (k + 1) (i + 1) h2
      rw [show k + 1 + (i + 1) = k + (i + 2) by omega] at this
      have e0 : lc_s2 (x :: vs) (i + 2) v = x :: lc_s2 vs (i + 1) v := by
        cases vs <;> rfl
      rw [e0]
      cases x with
      | none => exact this
      | some w =>
        show ((k + (i + 2), v) :: ((k, w) :: lc (k + 1) vs).filter _).Perm ((k, w) :: lc (k + 1) (lc_s2 vs (i + 1) v))
        rw [List.filter_cons_of_pos (by simp <;> omega)]
        exact (List.Perm.swap _ _ _).trans (List.Perm.cons _ this)
/-- the machine, with its locals by their places -/
noncomputable def bc (d : Nat) (M : px_Mt) (scr : Option (Nat × (Nat → Int32))) (pc : Nat) (vs : List (Option Value)) (st : List Value) (h : px_H) (cn sn : Nat) : Option (px_Res × px_H × Nat × Nat) := bk d M scr pc (lc 0 vs) st h cn sn
theorem bc_s1 {d : Nat} {M : px_Mt} {scr : Option (Nat × (Nat → Int32))} {pc : Nat} {vs : List (Option Value)} {st : List Value} {h : px_H} {cn sn i : Nat} {v : Value} (hi : i < vs.length) : bk d M scr pc (px_st1 (lc 0 vs) i v) st h cn sn = bc d M scr pc (lc_s1 vs i v) st h cn sn := by
  have := lc_st1 vs v 0 i hi
  rw [Nat.zero_add] at this
  exact bk_eqv ⟨this, (px_eqv.st1 ⟨List.Perm.refl _, lc_nd vs 0⟩ i v).2⟩
theorem bc_s2 {d : Nat} {M : px_Mt} {scr : Option (Nat × (Nat → Int32))} {pc : Nat} {vs : List (Option Value)} {st : List Value} {h : px_H} {cn sn i : Nat} {v : Value} (hi : i + 1 < vs.length) : bk d M scr pc (px_st2 (lc 0 vs) i v) st h cn sn = bc d M scr pc (lc_s2 vs i v) st h cn sn := by
  have := lc_st2 vs v 0 i hi
  rw [Nat.zero_add] at this
  exact bk_eqv ⟨this, (px_eqv.st2 ⟨List.Perm.refl _, lc_nd vs 0⟩ i v).2⟩
