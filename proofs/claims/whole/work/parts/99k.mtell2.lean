/-! ===== the reference: the choirs that are told ===== -/
def gU (g : hG) (P : Rw) (F : Nat → Int64) : hG := hQ (hR g 74 P) 82 F
def ctL (f : Rw → Rw) (N : Nat) (w fr : Rw) : Nat → Nat → (Nat → Int64) → (Nat → Int64)
  | 0, _, F => F
  | m + 1, e, F => ctL f N w fr m (e + 1) (chL f N 60 (60 * e) (upd w (24 + (fr e).toNatClampNeg / 10) (Int32.ofNat ((fr e).toNatClampNeg % 10))) F)
section MTELL2
variable {d : Nat} {t : List px_E} {g : hG} {N S D L cn sn n T : Nat} {w a k : Rw} {K : Kt} {F : Nat → Int64} {P : Rw}
theorem div_10 {x : Int32} (h0 : 0 ≤ x.toInt) (h1 : x.toNatClampNeg < 80) : x / 10 = Int32.ofNat (x.toNatClampNeg / 10) ∧ x - Int32.ofNat (x.toNatClampNeg / 10) * 10 = Int32.ofNat (x.toNatClampNeg % 10) := by
  have e := ii_clamp (a := x)
  have hx : x = Int32.ofNat x.toNatClampNeg := by
    rw [ii_eq, ii_ofNat (by omega)]
    omega
  have a1 : Int32.ofNat x.toNatClampNeg / 10 = Int32.ofNat (x.toNatClampNeg / 10) := nn_div (b := 10) (by omega) (by decide) (by decide)
  have a2 : Int32.ofNat x.toNatClampNeg - Int32.ofNat x.toNatClampNeg / 10 * 10 = Int32.ofNat (x.toNatClampNeg % 10) := nn_rem (b := 10) (by omega) (by decide) (by decide)
  rw [a1] at a2
  rw [← hx] at a1 a2
  exact ⟨a1, a2⟩
set_option maxHeartbeats 4000000 in
theorem m_tc_2 (hM : MK K N S D L g) (hK : KN K N S D L) (hO : KO K N S D L) (hn : n ≤ 80) (hN : g.1 49 47 = Int32.ofNat n) (hfr : ∀ e, e < n → 0 ≤ (g.1 81 e).toInt ∧ (g.1 81 e).toNatClampNeg < 80) (hRI : RI K N S T w) (hT : T < 29900) : ∀ m e : Nat, e + m = n → ∀ (P a k : Rw) (F : Nat → Int64) (a2 : Option Value), ∃ P' a' k' : Rw,
    bc (d + 4) M_X10_tellChoirs none 2 [some (.ref 49), some (.int (Int32.ofNat e)), a2] [] (hp t (gM (gU g P F) w a k)) cn sn =
    some (.inl none, hp t (gM (gU g P' (ctL (minR K N D L) N w (g.1 81) m e F)) w a' k'), cn, sn) := by
  have h8 := hK.2.1
  intro m
  induction m with
  | zero =>
    intro e he P a k F a2
    refine ⟨P, a, k, ?_⟩
    have f1 : (gU g P F).1 49 47 = Int32.ofNat n := hN
    rw [st_X10_tellChoirs_2]
    simp (disch := omega) only [st_X10_tellChoirs_3, st_X10_tellChoirs_4, st_X10_tellChoirs_7, st_X10_tellChoirs_90, bM_some, hg_49_47, gM_49, f1, nn_lt, show ¬ e < n by omega, if_false, ctL, Nat.reduceAdd]
  | succ m ih =>
    intro e he P a k F a2
    obtain ⟨h0, hx⟩ := hfr e (by omega)
    obtain ⟨d1, d2⟩ := div_10 h0 hx
    have f1 : (gU g P F).1 49 47 = Int32.ofNat n := hN
    have f2 : (gU g (packR P 0 w) F).1 81 = g.1 81 := rfl
    have e1 : bc (d + 3) M_X10_pack none 0 [some (.ref 49), some (.ref 74), some (.int 0), none] [] (hp t (gM (gU g P F) w a k)) 0 0 = some (.inl none, hp t (gM (gU g (packR P 0 w) F) w a k), 0, 0) := by
      have := m_pack_74 (d := d + 3) (t := t) (g := gU g P F) (w := w) (a := a) (k := k) (cn := 0) (sn := 0) (b := 0) (by omega)
      rw [show hR (gU g P F) 74 (packR ((gU g P F).1 74) 0 w) = gU g (packR P 0 w) F from by
        have h1 : (gU g P F).1 74 = P := rfl
        rw [h1]; unfold gU; exact congrArg (fun z => hQ z 82 F) hR_hR] at this
      exact this
    obtain ⟨a1, k1, e2⟩ := m_tc_1 (d := d) (t := t) (cn := cn) (sn := sn) (f := e) (g := hR g 74 (packR P 0 w)) (MK_hR (by omega) hM) hK hO (by omega) 60 0 (by omega) (upd w (24 + (g.1 81 e).toNatClampNeg / 10) (Int32.ofNat ((g.1 81 e).toNatClampNeg % 10))) a k T F (RI_ch h8 (by omega) (by omega) hRI) (by omega)
    rw [show Int32.ofNat 0 = (0 : Int32) from rfl, Nat.add_zero] at e2
    obtain ⟨P', a', k', e'⟩ := ih (e + 1) (by omega) (packR P 0 w) a1 k1 (chL (minR K N D L) N 60 (60 * e) (upd w (24 + (g.1 81 e).toNatClampNeg / 10) (Int32.ofNat ((g.1 81 e).toNatClampNeg % 10))) F) (some (.int (Int32.ofNat 60)))
    have e3 : ∀ (v : Rw) (G : Nat → Int64), bc (d + 3) M_X10_unpack none 0 [some (.ref 49), some (.ref 74), some (.int 0), none] [] (hp t (gM (hQ (hR g 74 (packR P 0 w)) 82 G) v a1 k1)) 0 0 = some (.inl none, hp t (gM (gU g (packR P 0 w) G) w a1 k1), 0, 0) := by
      intro v G
      have := m_unpack_74 (d := d + 3) (t := t) (g := gU g (packR P 0 w) G) (w := v) (a := a1) (k := k1) (cn := 0) (sn := 0) (b := 0) (by omega)
      rw [show gM (gU g (packR P 0 w) G) (unpR ((gU g (packR P 0 w) G).1 74) 0) a1 k1 = gM (gU g (packR P 0 w) G) w a1 k1 from gM_ext (fun i hi => unp_pack hi)] at this
      exact this
    refine ⟨P', a', k', ?_⟩
    unfold ctL
    rw [← e', st_X10_tellChoirs_2]
    simp (disch := omega) only [st_X10_tellChoirs_3, st_X10_tellChoirs_4, st_X10_tellChoirs_7, st_X10_tellChoirs_10, st_X10_tellChoirs_11, st_X10_tellChoirs_12, st_X10_tellChoirs_15, st_X10_tellChoirs_19, st_X10_tellChoirs_20, st_X10_tellChoirs_23, st_X10_tellChoirs_24, st_X10_tellChoirs_27, st_X10_tellChoirs_28, st_X10_tellChoirs_29, st_X10_tellChoirs_32, st_X10_tellChoirs_33, st_X10_tellChoirs_36, st_X10_tellChoirs_37, st_X10_tellChoirs_38, st_X10_tellChoirs_41, st_X10_tellChoirs_42, st_X10_tellChoirs_43, st_X10_tellChoirs_16 (p := 49) hq_49 ps_, st_X10_tellChoirs_31 (y := 10) (by decide), st_X10_tellChoirs_40 (y := 10) (by decide), bM_some, hg_49_47, hg_49_38, hg_49_28, hg_49_46, ha_81, hw_67, gM_49, gM_o, gMw_67, f1, f2, e1, d1, d2, nn_lt, show e < n by omega, if_true, nn_out, nn_clamp, cond_false, bC_inl, Option.toList, List.nil_append, Nat.add_zero, lc_r, lc_i, Nat.reduceAdd]
    refine Eq.trans e2 ?_
    simp (disch := omega) only [st_X10_tellChoirs_75, st_X10_tellChoirs_76, st_X10_tellChoirs_77, st_X10_tellChoirs_80, st_X10_tellChoirs_84, st_X10_tellChoirs_87, st_X10_tellChoirs_81 (p := 49) hq_49 ps_, bM_some, hg_49_38, e3, bC_inl, Option.toList, List.nil_append, Nat.add_zero, lc_r, lc_i, nn_r1, Nat.reduceAdd]
end MTELL2
