/-! ===== the reference: listen, whole ===== -/
section MLISTEN3
variable {d : Nat} {t : List px_E} {g : hG} {j q N S D L T cn sn : Nat} {w a k : Rw} {x : Int32} {K : Kt}
set_option maxHeartbeats 4000000 in
theorem m_listen_y (hM : MK K N S D L g) (hK : KN K N S D L) (hO : KO K N S D L) (hq : q ≤ 8) (hH : g.1 49 35 = Int32.ofNat q) (hb : ∀ i, i < q → 1 ≤ (g.1 78 i).toInt ∧ (g.1 78 i).toInt ≤ 60) (hRI : RI K N S T w) (hT : T < 29900) (hx : x = 0 ∨ x = 1) : ∃ (r P a' k' : Rw) (F : Nat × Rw), F = foL (okF K N D L q w (g.1 78) (g.1 79)) w N 0 0 (g.1 81) ∧
    bc (d + 6) M_X10_listen none 0 [some (.ref 49), some (.int x), none, none, none, none] [] (hp t (gM g w a k)) cn sn = some (.inl (some (.int (if x = 0 then (liL (ctL (minR K N D L) N w F.2 F.1 0 (g.2.1 82)) F.1 60 0 (-1) 0).1 else Int32.ofNat (liL (ctL (minR K N D L) N w F.2 F.1 0 (g.2.1 82)) F.1 60 0 (-1) 0).2))), hp t (gM (gU (gT (hI g 49 2 0) F.1 F.2 r) P (ctL (minR K N D L) N w F.2 F.1 0 (g.2.1 82))) w a' k'), cn, sn) := by
  have h8 := hK.2.1
  obtain ⟨r, a1, k1, e⟩ := m_tellFits (d := d) (t := t) (g := hI g 49 2 0) (w := w) (a := a) (k := k) (cn := 0) (sn := 0) (MK_hI (by omega) hM) hK hO hq hH hb hRI hT
  rw [show (hI g 49 2 0).1 78 = g.1 78 from rfl, show (hI g 49 2 0).1 79 = g.1 79 from rfl, show (hI g 49 2 0).1 81 = g.1 81 from rfl] at e
  have hle := foL_le (w := w) (ok := okF K N D L q w (g.1 78) (g.1 79)) N 0 0 (g.1 81)
  have hbd := foL_b (w := w) (ok := okF K N D L q w (g.1 78) (g.1 79)) N 0 0 (g.1 81) (by omega) (fun e he => absurd he (Nat.not_lt_zero e))
  generalize hF : foL (okF K N D L q w (g.1 78) (g.1 79)) w N 0 0 (g.1 81) = F at e hle hbd
  obtain ⟨P, a2, k2, e2⟩ := m_tellChoirs (d := d + 1) (t := t) (g := gT (hI g 49 2 0) F.1 F.2 r) (w := w) (a := a1) (k := k1) (cn := 0) (sn := 0) (n := F.1) (MK_gT (MK_hI (by omega) hM)) hK hO (by omega) rfl hbd hRI hT
  rw [show (gT (hI g 49 2 0) F.1 F.2 r).1 81 = F.2 from rfl, show (gT (hI g 49 2 0) F.1 F.2 r).2.1 82 = g.2.1 82 from rfl] at e2
  have e3 := m_li_1 (d := d + 5) (t := t) (g := gU (gT (hI g 49 2 0) F.1 F.2 r) P (ctL (minR K N D L) N w F.2 F.1 0 (g.2.1 82))) (w := w) (a := a2) (k := k2) (cn := cn) (sn := sn) (n := F.1) (x := x) (by omega) rfl 60 0 (by omega) (-1) 0 none (by omega)
  rw [show Int32.ofNat 0 = (0 : Int32) from rfl] at e3
  have hx1 : (x < 0) = False := by rcases hx with h | h <;> subst h <;> decide
  have hx2 : ((1 : Int32) < x) = False := by rcases hx with h | h <;> subst h <;> decide
  refine ⟨r, P, a2, k2, F, rfl, Eq.trans ?_ e3⟩
  simp (disch := omega) only [st_X10_listen_0, st_X10_listen_1, st_X10_listen_2, st_X10_listen_5, st_X10_listen_6, st_X10_listen_9, st_X10_listen_10, st_X10_listen_11, st_X10_listen_20, st_X10_listen_24, st_X10_listen_28, st_X10_listen_29, st_X10_listen_30, st_X10_listen_31, st_X10_listen_32, st_X10_listen_33, st_X10_listen_21 (p := 49) hq_49 ps_, st_X10_listen_25 (p := 49) hq_49 ps_, bM_some, hs_49_2, gM_hI49, hx1, hx2, if_false, e, e2, bC_inl, Option.toList, List.nil_append, Nat.add_zero, lc_r, lc_i, Nat.reduceAdd]
end MLISTEN3
