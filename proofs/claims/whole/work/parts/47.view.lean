/-! ===== the kitchen's data; the states that a Kitchen's methods go through, as a view: base g, row w of cell r, singers s, notes n, values v, stack k ===== -/
abbrev Rw : Type := Nat → Int32
abbrev Kt : Type := Nat → Nat → Int32
/-- 0 kind, 1 spout, 2 size, 3 first fill, 4 first chalk, 5 power, 6 steps, 7 step, 8 code, 9 (kettles, stoves, dishes, the code's length) -/
def kC (g : hG) : Kt := fun c j => match c with
  | 0 => g.1 17 j
  | 1 => g.1 18 j
  | 2 => g.1 19 j
  | 3 => g.1 20 j
  | 4 => g.1 21 j
  | 5 => g.1 22 j
  | 6 => g.1 23 j
  | 7 => g.1 24 j
  | 8 => g.1 26 j
  | 9 => (match j with
    | 0 => g.1 16 10
    | 1 => g.1 16 11
    | 2 => g.1 16 12
    | _ => g.1 25 2)
  | _ => 0
def gP (g : hG) (r : Nat) (w : Rw) (s : Int32) (n : Int64) (v k : Rw) : hG := hR (hR (hJ (hI (hR g r w) 16 14 s) 16 13 n) 28 v) 27 k
theorem hG_ext {a b : hG} (h1 : ∀ c j, a.1 c j = b.1 c j) (h2 : ∀ c j, a.2.1 c j = b.2.1 c j) (h3 : a.2.2 = b.2.2) : a = b := by
  obtain ⟨a1, a2, a3⟩ := a
  obtain ⟨b1, b2, b3⟩ := b
  have e1 : a1 = b1 := funext fun c => funext fun j => h1 c j
  have e2 : a2 = b2 := funext fun c => funext fun j => h2 c j
  have e3 : a3 = b3 := h3
  rw [e1, e2, e3]
theorem hR_at {g : hG} {c c' j : Nat} {f : Rw} : (hR g c f).1 c' j = if c' = c then f j else g.1 c' j := by
  by_cases h : c' = c
  · rw [if_pos h, h, hR_same]
  · rw [if_neg h, hR_oth h]
theorem hI_at {g : hG} {c c' i j : Nat} {x : Int32} : (hI g c i x).1 c' j = if c' = c ∧ j = i then x else g.1 c' j := by
  rw [hI_R, hR_at]
  by_cases h : c' = c
  · rw [if_pos h, upd_at]
    by_cases h2 : j = i
    · rw [if_pos h2, if_pos ⟨h, h2⟩]
    · rw [if_neg h2, if_neg (fun z => h2 z.2), h]
  · rw [if_neg h, if_neg (fun z => h z.1)]
theorem hJ_at {g : hG} {c c' i j : Nat} {x : Int64} : (hJ g c i x).2.1 c' j = if c' = c ∧ j = i then x else g.2.1 c' j := by
  show (bif Nat.beq c' c then vp_updL (g.2.1 c) i x else g.2.1 c') j = _
  by_cases h : c' = c
  · rw [h, show Nat.beq c c = true from Nat.beq_refl c]
    show vp_updL (g.2.1 c) i x j = _
    unfold vp_updL
    by_cases h2 : j = i
    · rw [if_pos h2, if_pos ⟨rfl, h2⟩]
    · rw [if_neg h2, if_neg (fun z => h2 z.2)]
  · rw [show Nat.beq c' c = false from Bool.eq_false_iff.mpr (fun z => h (Nat.eq_of_beq_eq_true z)), if_neg (fun z => h z.1)]; rfl
theorem hI_2 {g : hG} {c j : Nat} {x : Int32} : (hI g c j x).2 = g.2 := rfl
theorem hJ_22 {g : hG} {c j : Nat} {x : Int64} : (hJ g c j x).2.2 = g.2.2 := rfl
section VIEW
variable {t : List px_E} {g : hG} {pc r r' : Nat} {w w' : Rw} {s s' : Int32} {n n' : Int64} {v v' k k' : Rw} {rest : List Value} {sc : Option (Nat × (Nat → Int32))} {i x : Int32} {u : Int64}
theorem gP_eta : gP g r (g.1 r) (g.1 16 14) (g.2.1 16 13) (g.1 28) (g.1 27) = g := by
  apply hG_ext
  · intro c j
    simp only [gP, hR_at, hI_at, hJ_at, hR_2, hI_2, hJ_1, hJ_22]
    (repeat' split) <;> first | rfl | simp_all
  · intro c j
    simp only [gP, hR_at, hI_at, hJ_at, hR_2, hI_2, hJ_1, hJ_22]
    (repeat' split) <;> first | rfl | simp_all
  · rfl
theorem gP_gP (hr : isRow r) : gP (gP g r w s n v k) r w' s' n' v' k' = gP g r w' s' n' v' k' := by
  unfold isRow at hr
  apply hG_ext
  · intro c j
    simp only [gP, hR_at, hI_at, hJ_at, hR_2, hI_2, hJ_1, hJ_22]
    (repeat' split) <;> first | rfl | (exfalso; omega)
  · intro c j
    simp only [gP, hR_at, hI_at, hJ_at, hR_2, hI_2, hJ_1, hJ_22]
    (repeat' split) <;> first | rfl | (exfalso; omega)
  · rfl
theorem gP_w (hr : isRow r) : hR (gP g r w s n v k) r w' = gP g r w' s n v k := by
  unfold isRow at hr
  apply hG_ext
  · intro c j
    simp only [gP, hR_at, hI_at, hJ_at, hR_2, hI_2, hJ_1, hJ_22]
    (repeat' split) <;> first | rfl | (exfalso; omega)
  · intro c j
    simp only [gP, hR_at, hI_at, hJ_at, hR_2, hI_2, hJ_1, hJ_22]
  · rfl
theorem gP_s' (hr : isRow r) : hI (gP g r w s n v k) 16 14 s' = gP g r w s' n v k := by
  unfold isRow at hr
  apply hG_ext
  · intro c j
    simp only [gP, hR_at, hI_at, hJ_at, hR_2, hI_2, hJ_1, hJ_22]
    (repeat' split) <;> first | rfl | (exfalso; omega)
  · intro c j
    simp only [gP, hR_at, hI_at, hJ_at, hR_2, hI_2, hJ_1, hJ_22]
  · rfl
theorem gP_n' (hr : isRow r) : hJ (gP g r w s n v k) 16 13 n' = gP g r w s n' v k := by
  unfold isRow at hr
  apply hG_ext
  · intro c j
    simp only [gP, hR_at, hI_at, hJ_at, hR_2, hI_2, hJ_1, hJ_22]
  · intro c j
    simp only [gP, hR_at, hI_at, hJ_at, hR_2, hI_2, hJ_1, hJ_22]
    (repeat' split) <;> first | rfl | (exfalso; omega)
  · rfl
theorem gP_v' (hr : isRow r) : hR (gP g r w s n v k) 28 v' = gP g r w s n v' k := by
  unfold isRow at hr
  apply hG_ext
  · intro c j
    simp only [gP, hR_at, hI_at, hJ_at, hR_2, hI_2, hJ_1, hJ_22]
    (repeat' split) <;> first | rfl | (exfalso; omega)
  · intro c j
    simp only [gP, hR_at, hI_at, hJ_at, hR_2, hI_2, hJ_1, hJ_22]
  · rfl
theorem gP_k' (hr : isRow r) : hR (gP g r w s n v k) 27 k' = gP g r w s n v k' := by
  unfold isRow at hr
  apply hG_ext
  · intro c j
    simp only [gP, hR_at, hI_at, hJ_at, hR_2, hI_2, hJ_1, hJ_22]
    (repeat' split) <;> first | rfl | (exfalso; omega)
  · intro c j
    simp only [gP, hR_at, hI_at, hJ_at, hR_2, hI_2, hJ_1, hJ_22]
  · rfl
theorem gP_kC (hr : isRow r) : kC (gP g r w s n v k) = kC g := by
  rcases hr with h | h | h | h <;> subst h <;> rfl
theorem gP_r (hr : isRow r) : (gP g r w s n v k).1 r = w := by
  rcases hr with h | h | h | h <;> subst h <;> rfl
theorem gP_s (hr : isRow r) : (gP g r w s n v k).1 16 14 = s := by
  rcases hr with h | h | h | h <;> subst h <;> rfl
theorem gP_n (hr : isRow r) : (gP g r w s n v k).2.1 16 13 = n := by
  rcases hr with h | h | h | h <;> subst h <;> rfl
theorem pq_16 : hcl (hp t (gP g r w s n v k)) 16 = some 4 := rfl

theorem pg_16_10 (hr : isRow r) : px_get 4 10 pc (.ref 16 :: rest) (hp t (gP g r w s n v k)) = some (pc + 3, .int (kC g 9 0) :: rest, hp t (gP g r w s n v k)) := by
  rcases hr with h | h | h | h <;> subst h <;> rfl
theorem pg_16_11 (hr : isRow r) : px_get 4 11 pc (.ref 16 :: rest) (hp t (gP g r w s n v k)) = some (pc + 3, .int (kC g 9 1) :: rest, hp t (gP g r w s n v k)) := by
  rcases hr with h | h | h | h <;> subst h <;> rfl
theorem pg_16_12 (hr : isRow r) : px_get 4 12 pc (.ref 16 :: rest) (hp t (gP g r w s n v k)) = some (pc + 3, .int (kC g 9 2) :: rest, hp t (gP g r w s n v k)) := by
  rcases hr with h | h | h | h <;> subst h <;> rfl
theorem pg_25_2 (hr : isRow r) : px_get 7 2 pc (.ref 25 :: rest) (hp t (gP g r w s n v k)) = some (pc + 3, .int (kC g 9 3) :: rest, hp t (gP g r w s n v k)) := by
  rcases hr with h | h | h | h <;> subst h <;> rfl
theorem pg_16_13 (hr : isRow r) : px_get 4 13 pc (.ref 16 :: rest) (hp t (gP g r w s n v k)) = some (pc + 3, .long n :: rest, hp t (gP g r w s n v k)) := by
  rcases hr with h | h | h | h <;> subst h <;> rfl
theorem pg_16_14 (hr : isRow r) : px_get 4 14 pc (.ref 16 :: rest) (hp t (gP g r w s n v k)) = some (pc + 3, .int s :: rest, hp t (gP g r w s n v k)) := by
  rcases hr with h | h | h | h <;> subst h <;> rfl

theorem pa_17 (hr : isRow r) : px_ald sc pc (.int i :: .ref 17 :: rest) (hp t (gP g r w s n v k)) = bif px_out i 8 then none else some (pc + 1, .int (kC g 0 i.toNatClampNeg) :: rest, hp t (gP g r w s n v k)) := by
  rcases hr with h | h | h | h <;> subst h <;> rfl
theorem pa_18 (hr : isRow r) : px_ald sc pc (.int i :: .ref 18 :: rest) (hp t (gP g r w s n v k)) = bif px_out i 8 then none else some (pc + 1, .int (kC g 1 i.toNatClampNeg) :: rest, hp t (gP g r w s n v k)) := by
  rcases hr with h | h | h | h <;> subst h <;> rfl
theorem pa_19 (hr : isRow r) : px_ald sc pc (.int i :: .ref 19 :: rest) (hp t (gP g r w s n v k)) = bif px_out i 8 then none else some (pc + 1, .int (kC g 2 i.toNatClampNeg) :: rest, hp t (gP g r w s n v k)) := by
  rcases hr with h | h | h | h <;> subst h <;> rfl
theorem pa_20 (hr : isRow r) : px_ald sc pc (.int i :: .ref 20 :: rest) (hp t (gP g r w s n v k)) = bif px_out i 8 then none else some (pc + 1, .int (kC g 3 i.toNatClampNeg) :: rest, hp t (gP g r w s n v k)) := by
  rcases hr with h | h | h | h <;> subst h <;> rfl
theorem pa_21 (hr : isRow r) : px_ald sc pc (.int i :: .ref 21 :: rest) (hp t (gP g r w s n v k)) = bif px_out i 8 then none else some (pc + 1, .int (kC g 4 i.toNatClampNeg) :: rest, hp t (gP g r w s n v k)) := by
  rcases hr with h | h | h | h <;> subst h <;> rfl
theorem pa_22 (hr : isRow r) : px_ald sc pc (.int i :: .ref 22 :: rest) (hp t (gP g r w s n v k)) = bif px_out i 4 then none else some (pc + 1, .int (kC g 5 i.toNatClampNeg) :: rest, hp t (gP g r w s n v k)) := by
  rcases hr with h | h | h | h <;> subst h <;> rfl
theorem pa_23 (hr : isRow r) : px_ald sc pc (.int i :: .ref 23 :: rest) (hp t (gP g r w s n v k)) = bif px_out i 5 then none else some (pc + 1, .int (kC g 6 i.toNatClampNeg) :: rest, hp t (gP g r w s n v k)) := by
  rcases hr with h | h | h | h <;> subst h <;> rfl
theorem pa_24 (hr : isRow r) : px_ald sc pc (.int i :: .ref 24 :: rest) (hp t (gP g r w s n v k)) = bif px_out i 15 then none else some (pc + 1, .int (kC g 7 i.toNatClampNeg) :: rest, hp t (gP g r w s n v k)) := by
  rcases hr with h | h | h | h <;> subst h <;> rfl
theorem pa_26 (hr : isRow r) : px_ald sc pc (.int i :: .ref 26 :: rest) (hp t (gP g r w s n v k)) = bif px_out i 600 then none else some (pc + 1, .int (kC g 8 i.toNatClampNeg) :: rest, hp t (gP g r w s n v k)) := by
  rcases hr with h | h | h | h <;> subst h <;> rfl
theorem pa_row (hr : isRow r) : px_ald sc pc (.int i :: .ref r :: rest) (hp t (gP g r w s n v k)) = bif px_out i 54 then none else some (pc + 1, .int (w i.toNatClampNeg) :: rest, hp t (gP g r w s n v k)) := by
  rw [ha_row hr, gP_r hr]
theorem pa_27 (hr : isRow r) : px_ald sc pc (.int i :: .ref 27 :: rest) (hp t (gP g r w s n v k)) = bif px_out i 40 then none else some (pc + 1, .int (k i.toNatClampNeg) :: rest, hp t (gP g r w s n v k)) := by
  rcases hr with h | h | h | h <;> subst h <;> rfl
theorem pa_28 (hr : isRow r) : px_ald sc pc (.int i :: .ref 28 :: rest) (hp t (gP g r w s n v k)) = bif px_out i 7 then none else some (pc + 1, .int (v i.toNatClampNeg) :: rest, hp t (gP g r w s n v k)) := by
  rcases hr with h | h | h | h <;> subst h <;> rfl
theorem gP_v (hr : isRow r) : (gP g r w s n v k).1 28 = v := by
  rcases hr with h | h | h | h <;> subst h <;> rfl
theorem gP_k (hr : isRow r) : (gP g r w s n v k).1 27 = k := by
  rcases hr with h | h | h | h <;> subst h <;> rfl
theorem pw_row (hr : isRow r) : px_ast pc (.int x :: .int i :: .ref r :: rest) (hp t (gP g r w s n v k)) = bif px_out i 54 then none else some (pc + 1, rest, hp t (gP g r (upd w i.toNatClampNeg x) s n v k)) := by
  rw [hw_row hr, hI_R, gP_r hr, gP_w hr]
theorem pw_27 (hr : isRow r) : px_ast pc (.int x :: .int i :: .ref 27 :: rest) (hp t (gP g r w s n v k)) = bif px_out i 40 then none else some (pc + 1, rest, hp t (gP g r w s n v (upd k i.toNatClampNeg x))) := by
  rw [hw_27, hI_R, gP_k hr, gP_k' hr]
theorem pw_28 (hr : isRow r) : px_ast pc (.int x :: .int i :: .ref 28 :: rest) (hp t (gP g r w s n v k)) = bif px_out i 7 then none else some (pc + 1, rest, hp t (gP g r w s n (upd v i.toNatClampNeg x) k)) := by
  rw [hw_28, hI_R, gP_v hr, gP_v' hr]
theorem ps_16_13 (hr : isRow r) : px_put 4 13 (kt_ft 4 13) pc (.long u :: .ref 16 :: rest) (hp t (gP g r w s n v k)) = some (pc + 3, rest, hp t (gP g r w s u v k)) := by
  rw [hs_16_13, gP_n' hr]
theorem ps_16_14 (hr : isRow r) : px_put 4 14 (kt_ft 4 14) pc (.int x :: .ref 16 :: rest) (hp t (gP g r w s n v k)) = some (pc + 3, rest, hp t (gP g r w x n v k)) := by
  rw [hs_16_14, gP_s' hr]
end VIEW
