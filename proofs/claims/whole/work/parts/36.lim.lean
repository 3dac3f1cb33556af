/-! ===== the pure machine without fuel: bk is what px_run comes to; it keeps px_run's own equation ===== -/
abbrev bk_T : Type := Nat → px_Mt → Option (Nat × (Nat → Int32)) → Nat → px_Ls → List Value → px_H → Nat → Nat → Option (px_Res × px_H × Nat × Nat)
def bk_call (f : bk_T) (d : Nat) (M : px_Mt) (scr : Option (Nat × (Nat → Int32))) (pc : Nat) (L : px_Ls) (cn sn : Nat) (i : Instr) (r : List Value) (o : Option (px_Res × px_H × Nat × Nat)) : Option (px_Res × px_H × Nat × Nat) := match o with
  | none => none
  | some (.inl v, h', c, k) => f d M scr (pc + 3) L (v.toList ++ r) h' (cn + c) (sn + k)
  | some (.inr z, h', c, k) =>
    bif px_isI i then none else
    match M.2.2.2.2.1 with
    | [] => some (.inr z, h', cn + c, sn + k)
    | _ => (match px_land M pc z L with
      | none => none
      | some w => f d M scr w.1 w.2 [] h' (cn + c) (sn + k))
section BK
variable (mt : Nat → Option px_Mt) (ft : Nat → Nat → FieldType) (X : px_X)
def bk_F (f : bk_T) : bk_T := fun d M scr pc L st h cn sn =>
    match M.2.2.2.2.2.2 pc with
    | none => none
    | some en =>
      match px_L M.2.2.1 en.1 en.2.2.1 pc L st with
      | some q => f d M scr q.1 q.2.1 q.2.2 h cn sn
      | none =>
      match px_M X.1.length ft scr en.1 en.2.2.1 en.2.2.2.1 en.2.2.2.2.2 pc st h with
      | some q => f d M scr q.1 L q.2.1 q.2.2 cn sn
      | none =>
      match px_P X d en.1 en.2.2.1 st h with
      | some q => f d M scr (pc + 3) L q.1 q.2 cn sn
      | none =>
      match px_T d en.1 en.2.2.1 st with
      | some k => (match M.2.2.2.2.1 with | [] => some (.inr k, h, cn + 1, sn + 6) | _ => none)
      | none =>
      match px_N ft en.1 en.2.2.1 en.2.2.2.1 st with
      | some q => f d M scr (pc + q.1) L (.ref h.length :: q.2.1) (h ++ [q.2.2.1]) (cn + 1) (sn + q.2.2.2)
      | none =>
      match px_end M.2.2.2.1 en.1 st with
      | some v => some (.inl v, h, cn, sn)
      | none =>
      match px_I mt d en.1 en.2.2.1 en.2.2.2.1 en.2.2.2.2.1 st h with
      | none => none
      | some q => bk_call f d M scr pc L cn sn en.1 q.2.2.2 (f q.1 q.2.1 none 0 (lv_args 0 q.2.2.1) [] h 0 0)
end BK
section BK2
variable {mt : Nat → Option px_Mt} {ft : Nat → Nat → FieldType} {X : px_X}
theorem bk_run (n d : Nat) (M : px_Mt) (scr : Option (Nat × (Nat → Int32))) (pc : Nat) (L : px_Ls) (st : List Value) (h : px_H) (cn sn : Nat) : px_run mt ft X (n + 1) d M scr pc L st h cn sn = bk_F mt ft X (px_run mt ft X n) d M scr pc L st h cn sn := by
  rw [px_run]
  rfl
def bk_le (f g : bk_T) : Prop := ∀ d M scr pc L st h cn sn R, f d M scr pc L st h cn sn = some R → g d M scr pc L st h cn sn = some R
theorem bk_call_mono {f g : bk_T} (hl : bk_le f g) {d : Nat} {M : px_Mt} {scr : Option (Nat × (Nat → Int32))} {pc : Nat} {L : px_Ls} {cn sn : Nat} {i : Instr} {r : List Value} {o : Option (px_Res × px_H × Nat × Nat)} {R : px_Res × px_H × Nat × Nat} (H : bk_call f d M scr pc L cn sn i r o = some R) : bk_call g d M scr pc L cn sn i r o = some R := by
  unfold bk_call at H ⊢
  split at H
  · cases H
  · exact hl _ _ _ _ _ _ _ _ _ _ H
  · cases hi : px_isI i with
    | true => rw [hi] at H; cases H
    | false =>
      rw [hi] at H
      simp only [cond_false] at H ⊢
      split at H
      · exact H
      · split at H
        · cases H
        · exact hl _ _ _ _ _ _ _ _ _ _ H
/-- a step's answer comes from finitely many answers of the rest: whatever g has all of them gives the same -/
theorem bk_F_cont {f : bk_T} {P : Nat → bk_T} (hP : ∀ n, bk_le (P n) (P (n + 1))) (hf : ∀ d M scr pc L st h cn sn R, f d M scr pc L st h cn sn = some R → ∃ n, P n d M scr pc L st h cn sn = some R) {d : Nat} {M : px_Mt} {scr : Option (Nat × (Nat → Int32))} {pc : Nat} {L : px_Ls} {st : List Value} {h : px_H} {cn sn : Nat} {R : px_Res × px_H × Nat × Nat}
    (H : bk_F mt ft X f d M scr pc L st h cn sn = some R) : ∃ n, bk_F mt ft X (P n) d M scr pc L st h cn sn = some R := by
  have hle : ∀ a b, a ≤ b → bk_le (P a) (P b) := by
    intro a b hab
    induction hab with
    | refl => exact fun _ _ _ _ _ _ _ _ _ _ h => h
    | step _ ih => exact fun _ _ _ _ _ _ _ _ _ _ h => hP _ _ _ _ _ _ _ _ _ _ _ (ih _ _ _ _ _ _ _ _ _ _ h)
  unfold bk_F at H ⊢
  cases h0 : M.2.2.2.2.2.2 pc with
  | none => simp only [h0] at H; cases H
  | some en =>
    simp only [h0] at H ⊢
    cases h1 : px_L M.2.2.1 en.1 en.2.2.1 pc L st with
    | some q => simp only [h1] at H ⊢; exact hf _ _ _ _ _ _ _ _ _ _ H
    | none =>
      simp only [h1] at H ⊢
      cases h2 : px_M X.1.length ft scr en.1 en.2.2.1 en.2.2.2.1 en.2.2.2.2.2 pc st h with
      | some q => simp only [h2] at H ⊢; exact hf _ _ _ _ _ _ _ _ _ _ H
      | none =>
        simp only [h2] at H ⊢
        cases h3 : px_P X d en.1 en.2.2.1 st h with
        | some q => simp only [h3] at H ⊢; exact hf _ _ _ _ _ _ _ _ _ _ H
        | none =>
          simp only [h3] at H ⊢
          cases h4 : px_T d en.1 en.2.2.1 st with
          | some k => simp only [h4] at H ⊢; exact ⟨0, H⟩
          | none =>
            simp only [h4] at H ⊢
            cases h5 : px_N ft en.1 en.2.2.1 en.2.2.2.1 st with
            | some q => simp only [h5] at H ⊢; exact hf _ _ _ _ _ _ _ _ _ _ H
            | none =>
              simp only [h5] at H ⊢
              cases h6 : px_end M.2.2.2.1 en.1 st with
              | some v => simp only [h6] at H ⊢; exact ⟨0, H⟩
              | none =>
                simp only [h6] at H ⊢
                cases h7 : px_I mt d en.1 en.2.2.1 en.2.2.2.1 en.2.2.2.2.1 st h with
                | none => simp only [h7] at H; cases H
                | some q =>
                  simp only [h7] at H ⊢
                  cases h8 : f q.1 q.2.1 none 0 (lv_args 0 q.2.2.1) [] h 0 0 with
                  | none => rw [h8] at H; cases H
                  | some z =>
                    rw [h8] at H
                    obtain ⟨n1, e1⟩ := hf _ _ _ _ _ _ _ _ _ _ h8
                    obtain ⟨z0, h', c, k⟩ := z
                    unfold bk_call at H
                    cases z0 with
                    | inl v =>
                      obtain ⟨n2, e2⟩ := hf _ _ _ _ _ _ _ _ _ _ H
                      refine ⟨n1 + n2, ?_⟩
                      rw [hle n1 (n1 + n2) (Nat.le_add_right _ _) _ _ _ _ _ _ _ _ _ _ e1]
                      exact hle n2 (n1 + n2) (Nat.le_add_left _ _) _ _ _ _ _ _ _ _ _ _ e2
                    | inr x =>
                      cases hi : px_isI en.1 with
                      | true => simp only [hi] at H; cases H
                      | false =>
                        simp only [hi, cond_false] at H
                        cases hh : M.2.2.2.2.1 with
                        | nil =>
                          simp only [hh] at H
                          refine ⟨n1, ?_⟩
                          rw [e1]
                          unfold bk_call
                          simp only [hi, cond_false, hh]
                          exact H
                        | cons a as =>
                          simp only [hh] at H
                          cases hw : px_land M pc x L with
                          | none => simp only [hw] at H; cases H
                          | some w =>
                            simp only [hw] at H
                            obtain ⟨n2, e2⟩ := hf _ _ _ _ _ _ _ _ _ _ H
                            refine ⟨n1 + n2, ?_⟩
                            rw [hle n1 (n1 + n2) (Nat.le_add_right _ _) _ _ _ _ _ _ _ _ _ _ e1]
                            unfold bk_call
                            simp only [hi, cond_false, hh, hw]
                            exact hle n2 (n1 + n2) (Nat.le_add_left _ _) _ _ _ _ _ _ _ _ _ _ e2
theorem bk_F_mono {f g : bk_T} (hl : bk_le f g) : bk_le (bk_F mt ft X f) (bk_F mt ft X g) := by
  intro d M scr pc L st h cn sn R H
  obtain ⟨n, e⟩ := bk_F_cont (P := fun _ => g) (fun _ _ _ _ _ _ _ _ _ _ _ h => h) (fun d M scr pc L st h cn sn R e => ⟨0, hl _ _ _ _ _ _ _ _ _ _ e⟩) H
  exact e
theorem bk_run_le (n : Nat) : bk_le (px_run mt ft X n) (px_run mt ft X (n + 1)) := by
  induction n with
  | zero => intro d M scr pc L st h cn sn R H; cases H
  | succ n ih =>
    intro d M scr pc L st h cn sn R H
    rw [bk_run] at H ⊢
    exact bk_F_mono ih _ _ _ _ _ _ _ _ _ _ H
end BK2
noncomputable def bk : bk_T := fun d M scr pc L st h cn sn => @dite _ (∃ R n, px_run kt_mt kt_ft kt_X n d M scr pc L st h cn sn = some R) (Classical.propDecidable _) (fun e => some e.choose) (fun _ => none)
theorem bk_run_all {m n : Nat} (hmn : m ≤ n) : bk_le (px_run kt_mt kt_ft kt_X m) (px_run kt_mt kt_ft kt_X n) := by
  induction hmn with
  | refl => exact fun _ _ _ _ _ _ _ _ _ _ h => h
  | step _ ih => exact fun _ _ _ _ _ _ _ _ _ _ h => bk_run_le _ _ _ _ _ _ _ _ _ _ _ (ih _ _ _ _ _ _ _ _ _ _ h)
theorem bk_some (d : Nat) (M : px_Mt) (scr : Option (Nat × (Nat → Int32))) (pc : Nat) (L : px_Ls) (st : List Value) (h : px_H) (cn sn : Nat) (R : px_Res × px_H × Nat × Nat) : bk d M scr pc L st h cn sn = some R ↔ ∃ n, px_run kt_mt kt_ft kt_X n d M scr pc L st h cn sn = some R := by
  unfold bk
  by_cases e : ∃ R n, px_run kt_mt kt_ft kt_X n d M scr pc L st h cn sn = some R
  · rw [dif_pos e]
    obtain ⟨m, hm⟩ := e.choose_spec
    constructor
    · intro z
      exact ⟨m, by rw [hm, z]⟩
    · intro ⟨n, hn⟩
      have a1 := bk_run_all (Nat.le_add_right m n) _ _ _ _ _ _ _ _ _ _ hm
      have a2 := bk_run_all (Nat.le_add_left n m) _ _ _ _ _ _ _ _ _ _ hn
      rw [← a1, a2]
  · rw [dif_neg e]
    constructor
    · intro z; cases z
    · intro ⟨n, hn⟩; exact absurd ⟨R, n, hn⟩ e
theorem bk_eq (d : Nat) (M : px_Mt) (scr : Option (Nat × (Nat → Int32))) (pc : Nat) (L : px_Ls) (st : List Value) (h : px_H) (cn sn : Nat) : bk d M scr pc L st h cn sn = bk_F kt_mt kt_ft kt_X bk d M scr pc L st h cn sn := by
  have key : ∀ R, bk d M scr pc L st h cn sn = some R ↔ bk_F kt_mt kt_ft kt_X bk d M scr pc L st h cn sn = some R := by
    intro R
    constructor
    · intro e
      obtain ⟨n, hn⟩ := (bk_some _ _ _ _ _ _ _ _ _ _).mp e
      cases n with
      | zero => cases hn
      | succ n =>
        rw [bk_run] at hn
        exact bk_F_mono (fun d M scr pc L st h cn sn R q => (bk_some _ _ _ _ _ _ _ _ _ _).mpr ⟨n, q⟩) _ _ _ _ _ _ _ _ _ _ hn
    · intro e
      obtain ⟨n, hn⟩ := bk_F_cont (P := fun n => px_run kt_mt kt_ft kt_X n) (fun n => bk_run_le n) (fun d M scr pc L st h cn sn R q => (bk_some _ _ _ _ _ _ _ _ _ _).mp q) e
      exact (bk_some _ _ _ _ _ _ _ _ _ _).mpr ⟨n + 1, by rw [bk_run]; exact hn⟩
  cases e1 : bk d M scr pc L st h cn sn with
  | some R => exact ((key R).mp e1).symm
  | none =>
    cases e2 : bk_F kt_mt kt_ft kt_X bk d M scr pc L st h cn sn with
    | none => rfl
    | some R => rw [(key R).mpr e2] at e1; cases e1
/-- the goal, in terms of bk -/
theorem kt_Goal_of (H : ∀ (L : Nat) (xs : Nat → Int32), L ≤ 384 → ∃ (h' : px_H) (C S : Nat), bk 100 M_L_law (some (L, xs)) 0 [(0, .float 4294967295)] [] [] 0 0 = some (.inl (some (.int 1)), h', C, S) ∧ C ≤ 600128 ∧ S ≤ 7301098) : kt_Goal := by
  intro L xs hL
  obtain ⟨h', C, S, e, h1, h2⟩ := H L xs hL
  obtain ⟨n, hn⟩ := (bk_some _ _ _ _ _ _ _ _ _ _).mp e
  exact ⟨n, h', C, S, hn, h1, h2⟩
