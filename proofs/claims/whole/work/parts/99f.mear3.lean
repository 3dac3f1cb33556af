/-! ===== the reference: is it as heard, whole ===== -/
section MEAR3
variable {d : Nat} {t : List px_E} {g : hG} {q N S D L T cn sn : Nat} {w a k : Rw} {K : Kt}
def gE (g : hG) (w : Rw) : hG := hR g 80 (packR (g.1 80) 0 w)
theorem MK_gE (hM : MK K N S D L g) : MK K N S D L (gE g w) := MK_hR (by omega) hM
theorem gM_gE {v : Rw} : gM (gE g v) (unpR ((gE g v).1 80) 0) a k = gM (gE g v) v a k := by
  apply gM_ext
  intro i hi
  rw [show (gE g v).1 80 = packR (g.1 80) 0 v from rfl, unp_pack hi]
set_option maxHeartbeats 4000000 in
theorem m_isAsHeard (hM : MK K N S D L g) (hK : KN K N S D L) (hO : KO K N S D L) (hq : q ≤ 8) (hH : g.1 49 35 = Int32.ofNat q) (hb : ∀ i, i < q → 1 ≤ (g.1 78 i).toInt ∧ (g.1 78 i).toInt ≤ 60) (hRI : RI K N S T w) (hT : T < 29900) : ∃ a' k' : Rw,
    bc (d + 4) M_X10_isAsHeard none 0 [some (.ref 49), none, none, none, none] [] (hp t (gM g w a k)) cn sn = some (.inl (some (.int (b01 (fitL (minR K N D L) N w (g.1 78) (g.1 79) q 0)))), hp t (gM (gE g w) w a' k'), cn, sn) := by
  obtain ⟨l1, l2⟩ := lastN_le hb q (Nat.le_refl q)
  have e1 := m_pack_80 (d := d + 3) (t := t) (g := g) (w := w) (a := a) (k := k) (cn := 0) (sn := 0) (b := 0) (by omega)
  rw [show Int32.ofNat 0 = (0 : Int32) from rfl] at e1
  obtain ⟨b2, e2⟩ := m_ash_1 (d := d + 3) (t := t) (g := gE g w) (w := w) (a := a) (k := k) (cn := cn) (sn := sn) hq hH hb q 0 (by omega)
  rw [show lastN ((gE g w).1 78) 0 = 0 from rfl, show Int32.ofNat 0 = (0 : Int32) from rfl] at e2
  obtain ⟨a', k', e3⟩ := m_ash_2 (d := d) (t := t) (g := gE g w) (cn := cn) (sn := sn) (MK_gE hM) hK hO hq hH (l := lastN (g.1 78) q) l1 (lastN (g.1 78) q) 1 (by omega) w a k T true none hRI (by omega)
  refine ⟨a', k', ?_⟩
  rw [show b01 true = 1 from rfl, show Int32.ofNat 1 = (1 : Int32) from rfl, gM_gE] at e3
  rw [show outL (minR K N D L) N ((gE g w).1 78) ((gE g w).1 79) q (lastN (g.1 78) q) 1 w true = fitL (minR K N D L) N w (g.1 78) (g.1 79) q 0 from out_fit hb] at e3
  rw [← e3]
  simp (disch := omega) only [st_X10_isAsHeard_0, st_X10_isAsHeard_1, st_X10_isAsHeard_2, st_X10_isAsHeard_5, st_X10_isAsHeard_9, st_X10_isAsHeard_10, st_X10_isAsHeard_11, st_X10_isAsHeard_12, st_X10_isAsHeard_6 (p := 49) hq_49 ps_, bM_some, hg_49_45, e1, bC_inl, Option.toList, List.nil_append, Nat.add_zero, lc_r, lc_i, Nat.reduceAdd]
  refine Eq.trans e2 ?_
  rw [show lastN ((gE g w).1 78) q = lastN (g.1 78) q from rfl]
  simp (disch := omega) only [st_X10_isAsHeard_38, st_X10_isAsHeard_39, st_X10_isAsHeard_40, st_X10_isAsHeard_41, lc_r, lc_i, Nat.reduceAdd]
end MEAR3
