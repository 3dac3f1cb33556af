/-! ===== the reference: the choirs that are told, one row ===== -/
section MTELL
variable {d : Nat} {t : List px_E} {g : hG} {N S D L cn sn f : Nat} {w a k : Rw} {K : Kt} {F : Nat → Int64}
theorem MK_hQ (hM : MK K N S D L g) : MK K N S D L (hQ g 82 F) := hM
set_option maxHeartbeats 4000000 in
theorem m_tc_1 (hM : MK K N S D L g) (hK : KN K N S D L) (hO : KO K N S D L) (hf : f < 80) : ∀ m i : Nat, i + m = 60 → ∀ (w a k : Rw) (T : Nat) (F : Nat → Int64), RI K N S T w → T + m < 30000 → ∃ a' k' : Rw,
    bc (d + 4) M_X10_tellChoirs none 44 [some (.ref 49), some (.int (Int32.ofNat f)), some (.int (Int32.ofNat i))] [] (hp t (gM (hQ g 82 F) w a k)) cn sn =
    bc (d + 4) M_X10_tellChoirs none 75 [some (.ref 49), some (.int (Int32.ofNat f)), some (.int (Int32.ofNat 60))] [] (hp t (gM (hQ g 82 (chL (minR K N D L) N m (60 * f + i) w F)) (iterR (minR K N D L) m w) a' k')) cn sn := by
  intro m
  induction m with
  | zero =>
    intro i hi w a k T F hR1 hT
    have e60 : (Int32.ofNat i < (60 : Int32)) = False := by rw [show (60 : Int32) = Int32.ofNat 60 from rfl, nn_lt (by omega) (by omega)]; exact eq_false (by omega)
    refine ⟨a, k, ?_⟩
    rw [st_X10_tellChoirs_44, st_X10_tellChoirs_45, st_X10_tellChoirs_47, if_neg (by rw [e60]; exact fun h => h), show i = 60 by omega]
    rfl
  | succ m ih =>
    intro i hi w a k T F hR1 hT
    have e60 : (Int32.ofNat i < (60 : Int32)) = True := by rw [show (60 : Int32) = Int32.ofNat 60 from rfl, nn_lt (by omega) (by omega)]; exact eq_true (by omega)
    have m60 : (60 : Int32) * Int32.ofNat f = Int32.ofNat (60 * f) := (Int32.ofNat_mul 60 f).symm
    obtain ⟨a1, k1, e⟩ := m_min (d := d) (t := t) (cn := 0) (sn := 0) (a := a) (k := k) (MK_hQ (F := F) hM) hK hO hR1
    obtain ⟨a', k', e'⟩ := ih (i + 1) (by omega) (minR K N D L w) a1 k1 (T + 1) (vp_updL F (60 * f + i) (notesN (minR K N D L w) N)) (RI_min hK hO hR1 (by omega)) (by omega)
    have ec : bc (d + 3) M_X10_choir none 0 [some (.ref 49), none, none, none] [] (hp t (gM (hQ g 82 F) (minR K N D L w) a1 k1)) 0 0 = some (.inl (some (.long (notesN (minR K N D L w) N))), hp t (gM (hQ g 82 F) (minR K N D L w) a1 k1), 0, 0) := m_choir (MK_hQ hM) hK
    refine ⟨a', k', ?_⟩
    rw [show chL (minR K N D L) N (m + 1) (60 * f + i) w F = chL (minR K N D L) N m (60 * f + (i + 1)) (minR K N D L w) (vp_updL F (60 * f + i) (notesN (minR K N D L w) N)) from rfl, show iterR (minR K N D L) (m + 1) w = iterR (minR K N D L) m (minR K N D L w) from rfl, ← e', st_X10_tellChoirs_44]
    have eq : ∀ (x : Int64), hJ (hQ g 82 F) 82 (60 * f + i) x = hQ g 82 (vp_updL F (60 * f + i) x) := by
      intro x
      rw [hJ_Q, show (hQ g 82 F).2.1 82 = F from rfl]
      apply hG_ext
      · intro c j; rfl
      · intro c j
        unfold hQ
        dsimp only
        cases Nat.beq c 82 <;> rfl
      · rfl
    simp (disch := omega) only [st_X10_tellChoirs_45, st_X10_tellChoirs_47, st_X10_tellChoirs_50, st_X10_tellChoirs_54, st_X10_tellChoirs_55, st_X10_tellChoirs_58, st_X10_tellChoirs_60, st_X10_tellChoirs_61, st_X10_tellChoirs_62, st_X10_tellChoirs_63, st_X10_tellChoirs_64, st_X10_tellChoirs_68, st_X10_tellChoirs_69, st_X10_tellChoirs_72, st_X10_tellChoirs_51 (p := 49) hq_49 ps_, st_X10_tellChoirs_65 (p := 49) hq_49 ps_ir, e60, if_true, e, ec, bM_some, hg_49_48, hw_82, m60, nn_add, nn_out, nn_clamp, cond_false, gM_hJ, eq, bC_inl, Option.toList, List.cons_append, List.nil_append, Nat.add_zero, lc_r, lc_i, nn_r1, Nat.reduceAdd]
end MTELL
