/-! ===== the reference: a choir ===== -/
section MCHOIR
variable {d : Nat} {t : List px_E} {g : hG} {N S D L cn sn : Nat} {w a k : Rw} {K : Kt}
theorem m_choir_l (hM : MK K N S D L g) (hK : KN K N S D L) : ∀ m j : Nat, j + m = N →
    bc d M_X10_choir none 4 [some (.ref 49), some (.long (notesN w j)), none, some (.int (Int32.ofNat j))] [] (hp t (gM g w a k)) cn sn = some (.inl (some (.long (notesN w N))), hp t (gM g w a k), cn, sn) := by
  have h8 := hK.2.1
  intro m
  induction m with
  | zero =>
    intro j hj
    rw [st_X10_choir_4, show j = N by omega]
    simp (disch := omega) only [st_X10_choir_5, st_X10_choir_6, st_X10_choir_9, st_X10_choir_10, st_X10_choir_11, st_X10_choir_45, st_X10_choir_46, bM_some, hg_49_3, ha_52, gM_o, hM.n hK, nn_oc0, nn_c0, cond_false, nn_lt, Nat.lt_irrefl, if_false, Nat.reduceAdd]
  | succ m ih =>
    intro j hj
    have e := ih (j + 1) (by omega)
    rw [show notesN w (j + 1) = if w (40 + j) = -1 then notesN w j else notesN w j ||| bit1 (w (40 + j)) from rfl] at e
    rw [← e, st_X10_choir_4]
    by_cases h1 : w (40 + j) = -1
    · rw [if_pos h1]
      simp (disch := omega) only [st_X10_choir_5, st_X10_choir_6, st_X10_choir_9, st_X10_choir_10, st_X10_choir_11, st_X10_choir_14, st_X10_choir_15, st_X10_choir_16, st_X10_choir_19, st_X10_choir_20, st_X10_choir_21, st_X10_choir_22, st_X10_choir_25, st_X10_choir_26, st_X10_choir_37, st_X10_choir_38, st_X10_choir_39, st_X10_choir_42, bM_some, hg_49_3, hg_49_30, ha_52, ha_69, gM_o, gM_69, hM.n hK, nn_oc0, nn_c0, nn_out, nn_clamp, cond_false, nn_lt, show j < N by omega, eq_true h1, if_true, lc_r, lc_i, lc_n, Int64.or_zero, nn_r1, Nat.reduceAdd]
    · rw [if_neg h1]
      simp (disch := omega) only [st_X10_choir_5, st_X10_choir_6, st_X10_choir_9, st_X10_choir_10, st_X10_choir_11, st_X10_choir_14, st_X10_choir_15, st_X10_choir_16, st_X10_choir_19, st_X10_choir_20, st_X10_choir_21, st_X10_choir_22, st_X10_choir_29, st_X10_choir_30, st_X10_choir_31, st_X10_choir_34, st_X10_choir_35, st_X10_choir_36, st_X10_choir_37, st_X10_choir_38, st_X10_choir_39, st_X10_choir_42, bM_some, hg_49_3, hg_49_30, ha_52, ha_69, gM_o, gM_69, hM.n hK, nn_oc0, nn_c0, nn_out, nn_clamp, cond_false, nn_lt, show j < N by omega, h1, if_true, if_false, lc_r, lc_i, lc_n, bit1, nn_r1, Nat.reduceAdd]
theorem m_choir (hM : MK K N S D L g) (hK : KN K N S D L) : bc d M_X10_choir none 0 [some (.ref 49), none, none, none] [] (hp t (gM g w a k)) cn sn = some (.inl (some (.long (notesN w N))), hp t (gM g w a k), cn, sn) := by
  have e := m_choir_l (d := d) (t := t) (w := w) (a := a) (k := k) (cn := cn) (sn := sn) hM hK N 0 (by omega)
  rw [show Int32.ofNat 0 = (0 : Int32) from rfl, show notesN w 0 = 0 from rfl] at e
  refine Eq.trans ?_ e
  simp (disch := omega) only [st_X10_choir_0, st_X10_choir_1, st_X10_choir_2, st_X10_choir_3, lc_r, lc_i, lc_n, Nat.reduceAdd]
end MCHOIR
