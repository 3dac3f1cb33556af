/-! ===== the run doesn't depend on the order of the locals; locals by their places ===== -/
theorem px_land_eqv {M : px_Mt} {pc k : Nat} {L L' : px_Ls} (e : px_eqv L L') {w : Nat × px_Ls} (H : px_land M pc k L = some w) : ∃ L2, px_land M pc k L' = some (w.1, L2) ∧ px_eqv w.2 L2 := by
  unfold px_land at H ⊢
  cases h1 : px_find M.2.2.2.2.1 M.2.2.2.2.2.1 pc k with
  | none => simp only [h1] at H; cases H
  | some hp =>
    simp only [h1] at H ⊢
    cases h2 : M.2.2.2.2.2.2 hp with
    | none => simp only [h2] at H; cases H
    | some en =>
      simp only [h2] at H ⊢
      cases h3 : px_aj en with
      | none => simp only [h3] at H; cases H
      | some q =>
        simp only [h3] at H ⊢
        cases h4 : Nat.blt q.1 M.2.2.1 with
        | false => rw [h4] at H; cases H
        | true => rw [h4] at H; cases H; exact ⟨_, rfl, e.drop _⟩
section EQV
variable {mt : Nat → Option px_Mt} {ft : Nat → Nat → FieldType} {X : px_X}
theorem px_run_eqv (n : Nat) : ∀ (d : Nat) (M : px_Mt) (scr : Option (Nat × (Nat → Int32))) (pc : Nat) (L L' : px_Ls) (st : List Value) (h : px_H) (cn sn : Nat) (R : px_Res × px_H × Nat × Nat), px_eqv L L' → px_run mt ft X n d M scr pc L st h cn sn = some R → px_run mt ft X n d M scr pc L' st h cn sn = some R := by
  induction n with
  | zero => intro d M scr pc L L' st h cn sn R _ H; cases H
  | succ n ih =>
    intro d M scr pc L L' st h cn sn R e H
    rw [bk_run] at H ⊢
    unfold bk_F at H ⊢
    cases h0 : M.2.2.2.2.2.2 pc with
    | none => simp only [h0] at H; cases H
    | some en =>
      simp only [h0] at H ⊢
      cases h1 : px_L M.2.2.1 en.1 en.2.2.1 pc L st with
      | some q =>
        simp only [h1] at H
        obtain ⟨L2, e2, e3⟩ := px_same_L e _ _ _ _ _ _ h1
        simp only [e2]
        exact ih _ _ _ _ _ _ _ _ _ _ _ e3 H
      | none =>
        have h1' : px_L M.2.2.1 en.1 en.2.2.1 pc L' st = none := by
          cases z : px_L M.2.2.1 en.1 en.2.2.1 pc L' st with
          | none => rfl
          | some q =>
            obtain ⟨L2, e2, -⟩ := px_same_L e.symm _ _ _ _ _ _ z
            rw [h1] at e2; cases e2
        simp only [h1] at H
        simp only [h1']
        cases h2 : px_M X.1.length ft scr en.1 en.2.2.1 en.2.2.2.1 en.2.2.2.2.2 pc st h with
        | some q => simp only [h2] at H ⊢; exact ih _ _ _ _ _ _ _ _ _ _ _ e H
        | none =>
          simp only [h2] at H ⊢
          cases h3 : px_P X d en.1 en.2.2.1 st h with
          | some q => simp only [h3] at H ⊢; exact ih _ _ _ _ _ _ _ _ _ _ _ e H
          | none =>
            simp only [h3] at H ⊢
            cases h4 : px_T d en.1 en.2.2.1 st with
            | some k => simp only [h4] at H ⊢; exact H
            | none =>
              simp only [h4] at H ⊢
              cases h5 : px_N ft en.1 en.2.2.1 en.2.2.2.1 st with
              | some q => simp only [h5] at H ⊢; exact ih _ _ _ _ _ _ _ _ _ _ _ e H
              | none =>
                simp only [h5] at H ⊢
                cases h6 : px_end M.2.2.2.1 en.1 st with
                | some v => simp only [h6] at H ⊢; exact H
                | none =>
                  simp only [h6] at H ⊢
                  cases h7 : px_I mt d en.1 en.2.2.1 en.2.2.2.1 en.2.2.2.2.1 st h with
                  | none => simp only [h7] at H; cases H
                  | some q =>
                    simp only [h7] at H ⊢
                    unfold bk_call at H ⊢
                    split at H
                    · cases H
                    · exact ih _ _ _ _ _ _ _ _ _ _ _ e H
                    · cases hi : px_isI en.1 with
                      | true => rw [hi] at H; cases H
                      | false =>
                        rw [hi] at H
                        simp only [cond_false] at H ⊢
                        split at H
                        · exact H
                        · split at H
                          · cases H
                          · rename_i w hw
                            obtain ⟨L2, e2, e3⟩ := px_land_eqv e hw
                            simp only [e2]
                            exact ih _ _ _ _ _ _ _ _ _ _ _ e3 H
end EQV
theorem bk_eqv {d : Nat} {M : px_Mt} {scr : Option (Nat × (Nat → Int32))} {pc : Nat} {L L' : px_Ls} {st : List Value} {h : px_H} {cn sn : Nat} (e : px_eqv L L') : bk d M scr pc L st h cn sn = bk d M scr pc L' st h cn sn := by
  have key : ∀ R, bk d M scr pc L st h cn sn = some R ↔ bk d M scr pc L' st h cn sn = some R := by
    intro R
    rw [bk_some, bk_some]
    exact ⟨fun ⟨n, hn⟩ => ⟨n, px_run_eqv n _ _ _ _ _ _ _ _ _ _ _ e hn⟩, fun ⟨n, hn⟩ => ⟨n, px_run_eqv n _ _ _ _ _ _ _ _ _ _ _ e.symm hn⟩⟩
  cases e1 : bk d M scr pc L st h cn sn with
  | some R => exact ((key R).mp e1).symm
  | none =>
    cases e2 : bk d M scr pc L' st h cn sn with
    | none => rfl
    | some R => rw [(key R).mpr e2] at e1; cases e1
/-- the list of the locals that stand at places i, i + 1 .. -/
def lc : Nat → List (Option Value) → px_Ls
  | _, [] => []
  | i, none :: vs => lc (i + 1) vs
  | i, some v :: vs => (i, v) :: lc (i + 1) vs
def lc_c2 (o : Option Value) : Option Value := match o with
  | some v => bif v.category == 2 then none else some v
  | none => none
/-- a store of one slot, of two, by places -/
def lc_s1 : List (Option Value) → Nat → Value → List (Option Value)
  | [], _, _ => []
  | _ :: vs, 0, v => some v :: vs
  | x :: vs, 1, v => lc_c2 x :: lc_s1 vs 0 v
  | x :: vs, i + 2, v => x :: lc_s1 vs (i + 1) v
def lc_s2 : List (Option Value) → Nat → Value → List (Option Value)
  | [], _, _ => []
  | [_], 0, v => [some v]
  | _ :: _ :: vs, 0, v => some v :: none :: vs
  | x :: vs, 1, v => lc_c2 x :: lc_s2 vs 0 v
  | x :: vs, i + 2, v => x :: lc_s2 vs (i + 1) v
theorem lc_ge {vs : List (Option Value)} : ∀ {k : Nat} {q : Nat × Value}, q ∈ lc k vs → k ≤ q.1 := by
  induction vs with
  | nil => intro k q h; cases h
  | cons x vs ih =>
    intro k q h
    cases x with
    | none => exact Nat.le_of_succ_le (ih h)
    | some v =>
      rcases List.mem_cons.mp h with e | h'
      · rw [e]; exact Nat.le_refl _
      · exact Nat.le_of_succ_le (ih h')
theorem lc_nd (vs : List (Option Value)) : ∀ k : Nat, px_nd (lc k vs) := by
  induction vs with
  | nil => intro k; exact List.nodup_nil
  | cons x vs ih =>
    intro k
    cases x with
    | none => exact ih _
    | some v => exact px_nd_cons.mpr ⟨fun w hw => absurd (lc_ge hw) (by show ¬ k + 1 ≤ k; omega), ih _⟩
theorem lc_rd (vs : List (Option Value)) : ∀ k i : Nat, px_rd (lc k vs) (k + i) = (vs[i]?).join := by
  induction vs with
  | nil => intro k i; rfl
  | cons x vs ih =>
    intro k i
    cases x with
    | none =>
      cases i with
      | zero =>
        show px_rd (lc (k + 1) vs) (k + 0) = none
        cases z : px_rd (lc (k + 1) vs) (k + 0) with
        | none => rfl
        | some v => exact absurd (lc_ge (px_rd_mem z)) (by show ¬ k + 1 ≤ k + 0; omega)
      | succ i =>
        show px_rd (lc (k + 1) vs) (k + (i + 1)) = _
        rw [show k + (i + 1) = (k + 1) + i by omega, ih]
        rfl
    | some v =>
      show px_rd ((k, v) :: lc (k + 1) vs) (k + i) = _
      unfold px_rd
      cases i with
      | zero =>
        have : Nat.beq k (k + 0) = true := Nat.beq_refl k
        rw [this]; rfl
      | succ i =>
        have : Nat.beq k (k + (i + 1)) = false := by
          cases z : Nat.beq k (k + (i + 1)) with
          | false => rfl
          | true => have := Nat.eq_of_beq_eq_true z; omega
        rw [this]
        show px_rd (lc (k + 1) vs) (k + (i + 1)) = _
        rw [show k + (i + 1) = (k + 1) + i by omega, ih]
        rfl
