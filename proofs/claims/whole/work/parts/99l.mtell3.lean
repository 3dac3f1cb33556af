/-! ===== the reference: the choirs that are told, whole ===== -/
section MTELL3
variable {d : Nat} {t : List px_E} {g : hG} {N S D L cn sn n T : Nat} {w a k : Rw} {K : Kt}
theorem gU_self : gU g (g.1 74) (g.2.1 82) = g := by
  apply hG_ext
  · intro c i
    unfold gU hQ hR
    dsimp only
    by_cases h : c = 74
    · subst h; rfl
    · rw [show c.beq 74 = false from (Bool.eq_false_iff.mpr (fun z => h (Nat.eq_of_beq_eq_true z)))]
      rfl
  · intro c j
    unfold gU hQ hR
    dsimp only
    by_cases h : c = 82
    · subst h; rfl
    · rw [show c.beq 82 = false from (Bool.eq_false_iff.mpr (fun z => h (Nat.eq_of_beq_eq_true z)))]
      rfl
  · rfl
theorem m_tellChoirs (hM : MK K N S D L g) (hK : KN K N S D L) (hO : KO K N S D L) (hn : n ≤ 80) (hN : g.1 49 47 = Int32.ofNat n) (hfr : ∀ e, e < n → 0 ≤ (g.1 81 e).toInt ∧ (g.1 81 e).toNatClampNeg < 80) (hRI : RI K N S T w) (hT : T < 29900) : ∃ P' a' k' : Rw,
    bc (d + 4) M_X10_tellChoirs none 0 [some (.ref 49), none, none] [] (hp t (gM g w a k)) cn sn =
    some (.inl none, hp t (gM (gU g P' (ctL (minR K N D L) N w (g.1 81) n 0 (g.2.1 82))) w a' k'), cn, sn) := by
  obtain ⟨P', a', k', e⟩ := m_tc_2 (d := d) (t := t) (cn := cn) (sn := sn) hM hK hO hn hN hfr hRI hT n 0 (by omega) (g.1 74) a k (g.2.1 82) none
  rw [gU_self, show Int32.ofNat 0 = (0 : Int32) from rfl] at e
  refine ⟨P', a', k', Eq.trans ?_ e⟩
  simp (disch := omega) only [st_X10_tellChoirs_0, st_X10_tellChoirs_1, lc_r, lc_i, Nat.reduceAdd]
end MTELL3
