/-! ===== a minute of class and reference, in the same words ===== -/
section MINUTE
variable {d : Nat} {t : List px_E} {g : hG} {r N S D L T cn sn : Nat} {w v k a : Rw} {s : Int32} {n : Int64} {K : Kt}
theorem c_min (hr : isRow r) (hK : KN (kC g) N S D L) (hO : KO (kC g) N S D L) : ∃ v' k' : Rw,
    bc (d + 3) M_X4_pass none 0 [some (.ref 16), some (.ref r), none, none, none] [] (hp t (gP g r w s n v k)) cn sn =
    some (.inl none, hp t (gP g r (minR (kC g) N D L w) (Int32.ofNat (cntN (bS (minR (kC g) N D L w)) N)) (notesN (minR (kC g) N D L w) N) v' k'), cn, sn) := by
  refine ⟨(minC (kC g) N D L w v k).2.2.2.1, (minC (kC g) N D L w v k).2.2.2.2, ?_⟩
  rw [c_pass hr hK, minC_R hK hO, minC_s hK hO, minC_n hK hO]
theorem m_min (hM : MK K N S D L g) (hK : KN K N S D L) (hO : KO K N S D L) (hR : RI K N S T w) : ∃ a' k' : Rw,
    bc (d + 3) M_X10_aMinute none 0 [some (.ref 49), none, none] [] (hp t (gM g w a k)) cn sn =
    some (.inl none, hp t (gM g (minR K N D L w) a' k'), cn, sn) := by
  refine ⟨(minM K N D L w a k).2.1, (minM K N D L w a k).2.2, ?_⟩
  rw [m_aMinute hM hK hO hR, minM_R hK hO]
end MINUTE
/-- rows that are packed -/
def packR (f : Rw) (b : Nat) (w : Rw) : Rw := fun i => if b ≤ i ∧ i < b + 54 then (if i = b then w 53 else w (i - b - 1)) else f i
def unpR (f : Rw) (b : Nat) : Rw := fun i => if i = 53 then f b else f (b + 1 + i)
theorem unp_pack {f w : Rw} {b i : Nat} (hi : i < 54) : unpR (packR f b w) b i = w i := by
  unfold unpR packR
  by_cases h : i = 53
  · subst h; rw [if_pos rfl, if_pos (by omega), if_pos rfl]
  · rw [if_neg h, if_pos (by omega), if_neg (by omega), show b + 1 + i - b - 1 = i by omega]
theorem gM_hR {g : hG} {c : Nat} {f w a k : Rw} (h : c < 49 ∨ (49 < c ∧ c < 64) ∨ c = 71 ∨ 73 < c) : hR (gM g w a k) c f = gM (hR g c f) w a k := by
  apply hG_ext
  · intro c' i
    rw [hR_at]
    unfold gM mA
    dsimp only
    rw [hR_at]
    (repeat' split) <;> first | rfl | (exfalso; omega)
  · intro c' i; rfl
  · rfl
theorem gM_hI {g : hG} {c i : Nat} {x : Int32} {w a k : Rw} (h : c < 49 ∨ (49 < c ∧ c < 64) ∨ c = 71 ∨ 73 < c) : hI (gM g w a k) c i x = gM (hI g c i x) w a k := by
  rw [hI_R, gM_hR h, gM_o h, ← hI_R]
theorem gM_hI49 {g : hG} {i : Nat} {x : Int32} {w a k : Rw} (h : ¬ i = 33) : hI (gM g w a k) 49 i x = gM (hI g 49 i x) w a k := by
  apply hG_ext
  · intro c' j
    rw [hI_at]
    unfold gM mA
    dsimp only
    rw [hI_at]
    (repeat' split) <;> first | rfl | (exfalso; omega)
  · intro c' j; rfl
  · rfl
theorem gM_hJ {g : hG} {c i : Nat} {x : Int64} {w a k : Rw} : hJ (gM g w a k) c i x = gM (hJ g c i x) w a k := rfl
theorem nn_mul54 {a : Nat} : Int32.ofNat a * 54 = Int32.ofNat (a * 54) := nn_t54
theorem hI_self' {g : hG} {c j : Nat} : hI g c j (g.1 c j) = g := by
  apply hG_ext
  · intro c' i
    rw [hI_at]
    split
    · next h => rw [h.1, h.2]
    · rfl
  · intro c' i; rfl
  · rfl
