/-! ===== the reference: listen, its loop ===== -/
def liL (F : Nat → Int64) (n : Nat) : Nat → Nat → Int32 → Nat → Int32 × Nat
  | 0, _, b, o => (b, o)
  | m + 1, i, b, o => if o < unL F i n 0 0 then liL F n m (i + 1) (Int32.ofNat (i + 1)) (unL F i n 0 0) else liL F n m (i + 1) b o
section MLISTEN
variable {d : Nat} {t : List px_E} {g : hG} {cn sn n : Nat} {w a k : Rw} {x : Int32}
theorem unL_le {F : Nat → Int64} {i : Nat} : ∀ m f c : Nat, unL F i m f c ≤ c + m := by
  intro m
  induction m with
  | zero => intro f c; exact Nat.le_refl c
  | succ m ih =>
    intro f c
    unfold unL
    have := ih (f + 1) (c + bif nwL F i f f 0 true then 1 else 0)
    cases h : nwL F i f f 0 true <;> rw [h] at this <;> dsimp only [cond] at this ⊢ <;> omega
set_option maxHeartbeats 4000000 in
theorem m_li_1 (hn : n ≤ 80) (hN : g.1 49 47 = Int32.ofNat n) : ∀ m i : Nat, i + m = 60 → ∀ (b : Int32) (o : Nat) (a5 : Option Value), o ≤ 80 →
    bc (d + 1) M_X10_listen none 35 [some (.ref 49), some (.int x), some (.int b), some (.int (Int32.ofNat o)), some (.int (Int32.ofNat i)), a5] [] (hp t (gM g w a k)) cn sn =
    some (.inl (some (.int (if x = 0 then (liL (g.2.1 82) n m i b o).1 else Int32.ofNat (liL (g.2.1 82) n m i b o).2))), hp t (gM g w a k), cn, sn) := by
  intro m
  induction m with
  | zero =>
    intro i hi b o a5 ho
    have e60 : (Int32.ofNat i < (60 : Int32)) = False := by rw [show (60 : Int32) = Int32.ofNat 60 from rfl, nn_lt (by omega) (by omega)]; exact eq_false (by omega)
    rw [st_X10_listen_35]
    by_cases h : x = 0 <;> simp (disch := omega) only [st_X10_listen_37, st_X10_listen_39, st_X10_listen_73, st_X10_listen_74, st_X10_listen_77, st_X10_listen_78, st_X10_listen_81, st_X10_listen_82, e60, if_false, h, if_true, liL, Nat.reduceAdd]
  | succ m ih =>
    intro i hi b o a5 ho
    have e60 : (Int32.ofNat i < (60 : Int32)) = True := by rw [show (60 : Int32) = Int32.ofNat 60 from rfl, nn_lt (by omega) (by omega)]; exact eq_true (by omega)
    have hu := unL_le (F := g.2.1 82) (i := i) n 0 0
    have eu : bc d M_X10_unlike none 0 [some (.ref 49), some (.int (Int32.ofNat i)), none, none, none, none] [] (hp t (gM g w a k)) 0 0 = some (.inl (some (.int (Int32.ofNat (unL (g.2.1 82) i n 0 0)))), hp t (gM g w a k), 0, 0) := m_unlike (by omega) hn hN
    unfold liL
    generalize unL (g.2.1 82) i n 0 0 = u at eu hu ⊢
    rw [st_X10_listen_35]
    by_cases h : o < u
    · rw [if_pos h]
      have e' := ih (i + 1) (by omega) (Int32.ofNat (i + 1)) u (some (.int (Int32.ofNat u))) (by omega)
      simp (disch := omega) only [st_X10_listen_37, st_X10_listen_39, st_X10_listen_42, st_X10_listen_43, st_X10_listen_48, st_X10_listen_50, st_X10_listen_52, st_X10_listen_53, st_X10_listen_59, st_X10_listen_61, st_X10_listen_62, st_X10_listen_63, st_X10_listen_64, st_X10_listen_66, st_X10_listen_67, st_X10_listen_70, st_X10_listen_45 (p := 49) hq_49 ps_, e60, eu, nn_lt, h, if_true, bC_inl, Option.toList, List.cons_append, List.nil_append, Nat.add_zero, lc_r, lc_i, nn_r1, Nat.reduceAdd, e']
    · rw [if_neg h]
      have e' := ih (i + 1) (by omega) b o (some (.int (Int32.ofNat u))) ho
      simp (disch := omega) only [st_X10_listen_37, st_X10_listen_39, st_X10_listen_42, st_X10_listen_43, st_X10_listen_48, st_X10_listen_50, st_X10_listen_52, st_X10_listen_53, st_X10_listen_56, st_X10_listen_67, st_X10_listen_70, st_X10_listen_45 (p := 49) hq_49 ps_, e60, eu, nn_lt, h, if_true, if_false, bC_inl, Option.toList, List.cons_append, List.nil_append, Nat.add_zero, lc_r, lc_i, nn_r1, Nat.reduceAdd, e']
end MLISTEN
