/-! ===== the row of an evening that begins ===== -/
section RIOPN
variable {g gc : hG} {n T : Nat} {b q : Rw} {σ : Sg}
theorem row_tk (h : MQr b n q σ g) (hc : CR b n σ gc) (h0 : σ.1 0 = 0) : opnR (fun j => g.1 56 (8 + j)) (fun j => g.1 57 (8 + j)) (σ.1 6) = opnR ((tkG gc).1 20) ((tkG gc).1 21) (σ.1 6) := by
  obtain ⟨k0, -⟩ := kC_tk hc h0
  obtain ⟨-, r1, -⟩ := h.2.2.2.1 h0
  have d1 := (h.2.2.2.2 h0).1
  refine opn_eq (fun j hj => ?_) (fun j hj => ?_)
  · have e : (tkG gc).1 20 j = σ.2 3 j := (k0 j (by omega)).2.2.2.1
    rw [e]; exact (r1 j hj).2.2.2.1
  · have e : (tkG gc).1 21 j = σ.2 4 j := (k0 j (by omega)).2.2.2.2
    rw [e]; exact (r1 j hj).2.2.2.2
theorem RI_tk (hc : CR b n σ gc) (h0 : σ.1 0 = 0) (hD : DGk σ) {S : Nat} : RI (kC (tkG gc)) (σ.1 6) S T (opnR ((tkG gc).1 20) ((tkG gc).1 21) (σ.1 6)) := by
  obtain ⟨k0, -⟩ := kC_tk hc h0
  have d1 := (hc.2.2.2.2 h0).1
  refine ⟨fun j hj => ?_, ?_, ?_⟩
  · obtain ⟨-, -, e2, e3, e4⟩ := k0 j (by omega)
    have e3' : (tkG gc).1 20 j = σ.2 3 j := e3
    have e4' : (tkG gc).1 21 j = σ.2 4 j := e4
    obtain ⟨a, b', c', e', -, -, -, q4, q5, q6, q7, q8, q9, q10⟩ := (hD h0).1 j hj
    have w0 : opnR ((tkG gc).1 20) ((tkG gc).1 21) (σ.1 6) j = -1 := if_pos (by omega)
    have w8 : opnR ((tkG gc).1 20) ((tkG gc).1 21) (σ.1 6) (8 + j) = 0 := by
      unfold opnR
      rw [if_neg (show ¬ 8 + j < 8 by omega), if_pos (show 8 + j < 16 by omega)]
    have w16 : opnR ((tkG gc).1 20) ((tkG gc).1 21) (σ.1 6) (16 + j) = Int32.ofNat c' := by
      unfold opnR
      rw [if_neg (show ¬ 16 + j < 8 by omega), if_neg (show ¬ 16 + j < 16 by omega), if_pos (show 16 + j < 24 by omega), Nat.add_sub_cancel_left, if_pos hj, e3', q7]
    have w24 : opnR ((tkG gc).1 20) ((tkG gc).1 21) (σ.1 6) (24 + j) = Int32.ofNat e' := by
      unfold opnR
      rw [if_neg (show ¬ 24 + j < 8 by omega), if_neg (show ¬ 24 + j < 16 by omega), if_neg (show ¬ 24 + j < 24 by omega), if_pos (show 24 + j < 32 by omega), Nat.add_sub_cancel_left, if_pos hj, e4', q9]
    have w40 : opnR ((tkG gc).1 20) ((tkG gc).1 21) (σ.1 6) (40 + j) = -1 := by
      unfold opnR
      rw [if_neg (show ¬ 40 + j < 8 by omega), if_neg (show ¬ 40 + j < 16 by omega), if_neg (show ¬ 40 + j < 24 by omega), if_neg (show ¬ 40 + j < 32 by omega), if_neg (show ¬ 40 + j < 40 by omega), if_pos (show 40 + j < 53 by omega)]
    rw [w0, w8, w16, w24, w40, e2, q4, ti_of (by omega), ti_of (by omega), ti_of (by omega)]
    have m1 : (-1 : Int32).toInt = -1 := by decide
    have z0 : (0 : Int32).toInt = 0 := by decide
    rw [m1, z0]
    exact ⟨Or.inl rfl, ⟨by omega, by omega⟩, ⟨by omega, by omega⟩, ⟨by omega, by omega⟩, by omega, by omega⟩
  · rw [show opnR ((tkG gc).1 20) ((tkG gc).1 21) (σ.1 6) 53 = 0 from rfl]; decide
  · rw [show opnR ((tkG gc).1 20) ((tkG gc).1 21) (σ.1 6) 53 = 0 from rfl, show (0 : Int32).toInt = 0 from by decide]; omega
end RIOPN
