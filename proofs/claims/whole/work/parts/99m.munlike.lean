/-! ===== the reference: how many are unlike, inner loop ===== -/
def nwL (F : Nat → Int64) (i f : Nat) : Nat → Nat → Bool → Bool
  | 0, _, b => b
  | m + 1, e, b => if b then nwL F i f m (e + 1) (!decide (F (60 * e + i) = F (60 * f + i))) else false
section MUNLIKE
variable {d : Nat} {t : List px_E} {g : hG} {cn sn f i : Nat} {w a k : Rw} {n : Option Value}
set_option maxHeartbeats 4000000 in
theorem m_un_1 (hf : f < 80) (hi : i < 60) : ∀ m e : Nat, e + m = f → ∀ b : Bool, ∃ a5 : Option Value,
    bc d M_X10_unlike none 18 [some (.ref 49), some (.int (Int32.ofNat i)), n, some (.int (Int32.ofNat f)), some (.int (b01 b)), some (.int (Int32.ofNat e))] [] (hp t (gM g w a k)) cn sn =
    bc d M_X10_unlike none 69 [some (.ref 49), some (.int (Int32.ofNat i)), n, some (.int (Int32.ofNat f)), some (.int (b01 (nwL (g.2.1 82) i f m e b))), a5] [] (hp t (gM g w a k)) cn sn := by
  intro m
  induction m with
  | zero =>
    intro e he b
    refine ⟨some (.int (Int32.ofNat e)), ?_⟩
    rw [st_X10_unlike_18]
    simp (disch := omega) only [st_X10_unlike_20, st_X10_unlike_21, nn_lt, show ¬ e < f by omega, if_false, nwL, Nat.reduceAdd]
  | succ m ih =>
    intro e he b
    unfold nwL
    cases b with
    | false =>
      refine ⟨some (.int (Int32.ofNat e)), ?_⟩
      rw [st_X10_unlike_18]
      simp (disch := omega) only [st_X10_unlike_20, st_X10_unlike_21, st_X10_unlike_24, st_X10_unlike_26, nn_lt, show e < f by omega, if_true, if_false, b01, cond_false, Bool.false_eq_true, Nat.reduceAdd]
    | true =>
      obtain ⟨a5, e'⟩ := ih (e + 1) (by omega) (!decide (g.2.1 82 (60 * e + i) = g.2.1 82 (60 * f + i)))
      refine ⟨a5, ?_⟩
      rw [if_pos rfl, ← e', st_X10_unlike_18]
      by_cases h : g.2.1 82 (60 * e + i) = g.2.1 82 (60 * f + i)
      · rw [decide_eq_true h]
        simp (disch := omega) only [st_X10_unlike_20, st_X10_unlike_21, st_X10_unlike_24, st_X10_unlike_26, st_X10_unlike_29, st_X10_unlike_30, st_X10_unlike_33, st_X10_unlike_35, st_X10_unlike_37, st_X10_unlike_38, st_X10_unlike_39, st_X10_unlike_40, st_X10_unlike_41, st_X10_unlike_42, st_X10_unlike_45, st_X10_unlike_47, st_X10_unlike_48, st_X10_unlike_49, st_X10_unlike_50, st_X10_unlike_51, st_X10_unlike_52, st_X10_unlike_53, st_X10_unlike_60, st_X10_unlike_61, st_X10_unlike_63, st_X10_unlike_66, nn_lt, show e < f by omega, if_true, if_false, b01, cond_true, cond_false, nn_one0, bM_some, hg_49_48, ha_82, gM_2, nn_m60, nn_add, nn_out, nn_clamp, lcmpi, eq_true h, Bool.not_true, lc_r, lc_i, nn_r1, Nat.reduceAdd]
      · rw [decide_eq_false h]
        simp (disch := omega) only [st_X10_unlike_20, st_X10_unlike_21, st_X10_unlike_24, st_X10_unlike_26, st_X10_unlike_29, st_X10_unlike_30, st_X10_unlike_33, st_X10_unlike_35, st_X10_unlike_37, st_X10_unlike_38, st_X10_unlike_39, st_X10_unlike_40, st_X10_unlike_41, st_X10_unlike_42, st_X10_unlike_45, st_X10_unlike_47, st_X10_unlike_48, st_X10_unlike_49, st_X10_unlike_50, st_X10_unlike_51, st_X10_unlike_52, st_X10_unlike_53, st_X10_unlike_56, st_X10_unlike_57, st_X10_unlike_61, st_X10_unlike_63, st_X10_unlike_66, nn_lt, show e < f by omega, if_true, if_false, b01, cond_true, cond_false, nn_one0, bM_some, hg_49_48, ha_82, gM_2, nn_m60, nn_add, nn_out, nn_clamp, lcmpi, h, Bool.not_false, lc_r, lc_i, nn_r1, Nat.reduceAdd]
end MUNLIKE
