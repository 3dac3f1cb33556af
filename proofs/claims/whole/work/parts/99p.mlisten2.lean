/-! ===== the reference: listen ===== -/
section MLISTEN2
variable {d : Nat} {t : List px_E} {g : hG} {j q N S D L T cn sn : Nat} {w a k : Rw} {x : Int32} {K : Kt}
def fOk (v : Int32) : Prop := 0 ≤ v.toInt ∧ v.toNatClampNeg < 80
theorem fOk_n {z : Nat} (h : z < 80) : fOk (Int32.ofNat z) := by
  refine ⟨?_, ?_⟩
  · rw [ii_ofNat (by omega)]; omega
  · rw [nn_clamp (by omega)]; exact h
theorem fiL_b {ok : Nat → Bool} {was : Int32} (hj : j < 8) : ∀ (m c n : Nat) (f : Rw), c + m ≤ 10 → (∀ e, e < n → fOk (f e)) → ∀ e, e < (fiL ok j was m c n f).1 → fOk ((fiL ok j was m c n f).2 e) := by
  intro m
  induction m with
  | zero => intro c n f _ h; exact h
  | succ m ih =>
    intro c n f hc h
    unfold fiL
    split
    · exact ih _ _ _ (by omega) h
    · split
      · refine ih _ _ _ (by omega) (fun e he => ?_)
        rw [upd_at]
        split
        · exact fOk_n (by omega)
        · exact h e (by omega)
      · exact ih _ _ _ (by omega) h
theorem foL_b {ok : Nat → Nat → Bool} : ∀ (m j n : Nat) (f : Rw), j + m ≤ 8 → (∀ e, e < n → fOk (f e)) → ∀ e, e < (foL ok w m j n f).1 → fOk ((foL ok w m j n f).2 e) := by
  intro m
  induction m with
  | zero => intro j n f _ h; exact h
  | succ m ih =>
    intro j n f hj h
    unfold foL
    exact ih _ _ _ (by omega) (fiL_b (by omega) 10 0 n f (by omega) h)
end MLISTEN2
