/-! ===== the kitchen that is taken is good ===== -/
section KGOOD
variable {g : hG} {n : Nat} {b : Rw} {σ : Sg}
theorem cpy_lt {f f' : Rw} {m j : Nat} (h : j < m) : va_cpy f f' 0 0 m j = f j := by
  unfold va_cpy
  rw [if_pos ⟨Nat.zero_le j, by omega⟩, Nat.zero_add, Nat.sub_zero]
/-- K's rows are those that were read -/
theorem kC_tk (h : CR b n σ g) (h0 : σ.1 0 = 0) : (∀ j, j < 8 → kC (tkG g) 0 j = σ.2 0 j ∧ kC (tkG g) 1 j = σ.2 1 j ∧ kC (tkG g) 2 j = σ.2 2 j ∧ kC (tkG g) 3 j = σ.2 3 j ∧ kC (tkG g) 4 j = σ.2 4 j) ∧ (∀ j, j < 4 → kC (tkG g) 5 j = σ.2 5 j) ∧ (∀ j, j < 5 → kC (tkG g) 6 j = σ.2 6 j) ∧ (∀ j, j < 15 → kC (tkG g) 7 j = σ.2 7 j) ∧ (∀ j, j < 600 → kC (tkG g) 8 j = σ.2 8 j) ∧
    kC (tkG g) 9 0 = Int32.ofNat (σ.1 6) ∧ kC (tkG g) 9 1 = Int32.ofNat (σ.1 7) ∧ kC (tkG g) 9 2 = Int32.ofNat (σ.1 8) ∧ kC (tkG g) 9 3 = Int32.ofNat (σ.1 9) := by
  obtain ⟨⟨n1, n2, n3, n4⟩, r0, r1, r2, r3, r4, r5, r6, r7, r8⟩ := h.2.2.2.1.2 h0
  refine ⟨fun j hj => ⟨?_, ?_, ?_, ?_, ?_⟩, fun j hj => ?_, fun j hj => ?_, fun j hj => ?_, fun j hj => ?_, n1, n2, n3, n4⟩
  · rw [← r0]; exact cpy_lt hj
  · rw [← r1]; exact cpy_lt hj
  · rw [← r2]; exact cpy_lt hj
  · rw [← r3]; exact cpy_lt hj
  · rw [← r4]; exact cpy_lt hj
  · rw [← r5]; exact cpy_lt hj
  · rw [← r6]; exact cpy_lt hj
  · rw [← r7]; exact cpy_lt hj
  · rw [← r8]; exact cpy_lt hj
theorem KN_tk (h : CR b n σ g) (h0 : σ.1 0 = 0) (hD : DGk σ) : KN (kC (tkG g)) (σ.1 6) (σ.1 7) (σ.1 8) (σ.1 9) := by
  obtain ⟨-, -, k6, -, -, n1, n2, n3, n4⟩ := kC_tk h h0
  obtain ⟨d1, d2, d3, d4⟩ := h.2.2.2.2 h0
  refine ⟨n1, d1, n2, d2, n3, d3, n4, d4, fun i hi => ?_⟩
  obtain ⟨M, q1, -, q3, -⟩ := (hD h0).2.2 i hi
  exact ⟨M, (k6 i (by omega)).trans q1, q3⟩
theorem ti_of {v : Nat} (hv : v < 100000) : (Int32.ofNat v).toInt = v := Int32.toInt_ofNat_of_lt (by omega)
theorem KO_tk (h : CR b n σ g) (h0 : σ.1 0 = 0) (hD : DGk σ) (hC : DCo σ) : KO (kC (tkG g)) (σ.1 6) (σ.1 7) (σ.1 8) (σ.1 9) := by
  obtain ⟨k0, k5, k6, k7, k8, -⟩ := kC_tk h h0
  obtain ⟨d1, d2, d3, d4⟩ := h.2.2.2.2 h0
  obtain ⟨a1, a2, a3⟩ := hD h0
  refine ⟨fun j hj => ?_, fun j hj => ?_, fun j hj => ?_, ?_⟩
  · obtain ⟨-, e1, e2, -⟩ := k0 j (by omega)
    obtain ⟨a, b', c', e', q1, q2, q3, q4, q5, q6, -⟩ := a1 j hj
    rw [e1, e2, q1, q4, ti_of (by omega), ti_of (by omega)]
    exact ⟨⟨by omega, by omega⟩, by omega, by omega⟩
  · obtain ⟨a, q1, q2, q3⟩ := a2 j hj
    rw [k5 j (by omega), q1, ti_of (by omega)]
    exact ⟨by omega, by omega⟩
  · obtain ⟨M, q1, q2, q3, q4, q5⟩ := a3 j hj
    rw [k6 j (by omega), q1, nn_clamp (by omega)]
    refine ⟨q2, q3, fun i hi => ?_, fun i i' h1 h2 => ?_⟩
    · obtain ⟨a, p1, p2, p3⟩ := q4 i hi
      rw [k7 _ (by omega), p1, ti_of (by omega)]
      exact ⟨by omega, by omega⟩
    · rw [k7 _ (by omega), k7 _ (by omega)]
      exact q5 i i' h1 h2
  · rcases (hC h0).2 with z | s
    · exact Or.inl z
    · refine Or.inr (seg_ok _ _ _ ?_)
      have := seg_ap (code' := kC (tkG g) 8) (m' := 0) (σ.1 9) 0 0 1 1 (fun j _ hj => k8 j (by omega)) s rfl
      exact this
end KGOOD
