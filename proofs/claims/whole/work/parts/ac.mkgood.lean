/-! ===== the reference holds the kitchen that the class has taken ===== -/
section MKGOOD
variable {g g' gc : hG} {n : Nat} {b q : Rw} {σ : Sg}
theorem th_lt {H j : Nat} {f : Rw} (h : j < H) : thR H H f j = f (H + j) := if_pos h
theorem MK_tk (h : MQr b n q σ g) (hc : CR b n σ gc) (h0 : σ.1 0 = 0) (hD : DGk σ) (e52 : g'.1 52 = thR 4 4 (g.1 52)) (e53 : g'.1 53 = thR 8 8 (g.1 53)) (e54 : g'.1 54 = thR 8 8 (g.1 54)) (e55 : g'.1 55 = thR 8 8 (g.1 55)) (e58 : g'.1 58 = thR 4 4 (g.1 58)) (e59 : g'.1 59 = thR 5 5 (g.1 59)) (e60 : g'.1 60 = thR 15 15 (g.1 60)) (e61 : g'.1 61 = thR 600 600 (g.1 61)) : MK (kC (tkG gc)) (σ.1 6) (σ.1 7) (σ.1 8) (σ.1 9) g' := by
  obtain ⟨k0, k5, k6, k7, k8, n1, n2, n3, n4⟩ := kC_tk hc h0
  obtain ⟨d1, d2, d3, d4⟩ := h.2.2.2.2 h0
  obtain ⟨⟨m1, m2, m3, m4⟩, r1, r2, r3, r4⟩ := h.2.2.2.1 h0
  refine ⟨⟨?_, ?_, ?_, ?_⟩, fun j hj => ?_, fun j hj => ?_, fun j hj => ?_, fun d i hd hi => ?_, fun i hi => ?_⟩
  · rw [e52, n1, th_lt (by omega)]; exact m1
  · rw [e52, n2, th_lt (by omega)]; exact m2
  · rw [e52, n3, th_lt (by omega)]; exact m3
  · rw [e52, n4, th_lt (by omega)]; exact m4
  · obtain ⟨p0, p1, p2, -⟩ := r1 j hj
    obtain ⟨q0, q1, q2, -⟩ := k0 j (by omega)
    rw [e53, e54, e55, th_lt (by omega), th_lt (by omega), th_lt (by omega), q0, q1, q2]
    exact ⟨p0, p1, p2⟩
  · rw [e58, th_lt (by omega), k5 j (by omega)]; exact r2 j hj
  · rw [e59, th_lt (by omega), k6 j (by omega)]; exact (r3 j hj).1
  · obtain ⟨M, q1, q2, q3, -⟩ := (hD h0).2.2 d hd
    have hs : stpN d σ = (kC (tkG gc) 6 d).toNatClampNeg := by unfold stpN; rw [k6 d (by omega)]
    have hi' : i < M := by rw [k6 d (by omega), q1, nn_clamp (by omega)] at hi; exact hi
    rw [e60, th_lt (by omega), k7 _ (by omega), show 15 + (3 * d + i) = 3 * (5 + d) + i by omega]
    exact (r3 d hd).2 i (by omega) (by omega)
  · rw [e61, th_lt (by omega), k8 i (by omega)]; exact r4 i hi
end MKGOOD
