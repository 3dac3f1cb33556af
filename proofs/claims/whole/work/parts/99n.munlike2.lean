/-! ===== the reference: how many are unlike ===== -/
def unL (F : Nat → Int64) (i : Nat) : Nat → Nat → Nat → Nat
  | 0, _, c => c
  | m + 1, f, c => unL F i m (f + 1) (c + bif nwL F i f f 0 true then 1 else 0)
section MUNLIKE2
variable {d : Nat} {t : List px_E} {g : hG} {cn sn i n : Nat} {w a k : Rw}
set_option maxHeartbeats 4000000 in
theorem m_un_2 (hi : i < 60) (hn : n ≤ 80) (hN : g.1 49 47 = Int32.ofNat n) : ∀ m f : Nat, f + m = n → ∀ (c : Nat) (a4 a5 : Option Value),
    bc d M_X10_unlike none 4 [some (.ref 49), some (.int (Int32.ofNat i)), some (.int (Int32.ofNat c)), some (.int (Int32.ofNat f)), a4, a5] [] (hp t (gM g w a k)) cn sn =
    some (.inl (some (.int (Int32.ofNat (unL (g.2.1 82) i m f c)))), hp t (gM g w a k), cn, sn) := by
  intro m
  induction m with
  | zero =>
    intro f hf c a4 a5
    rw [st_X10_unlike_4]
    simp (disch := omega) only [st_X10_unlike_5, st_X10_unlike_6, st_X10_unlike_9, st_X10_unlike_88, st_X10_unlike_89, bM_some, hg_49_47, gM_49, hN, nn_lt, show ¬ f < n by omega, if_false, unL, Nat.reduceAdd]
  | succ m ih =>
    intro f hf c a4 a5
    obtain ⟨b5, e⟩ := m_un_1 (d := d) (t := t) (g := g) (w := w) (a := a) (k := k) (cn := cn) (sn := sn) (f := f) (i := i) (n := some (.int (Int32.ofNat c))) (by omega) hi f 0 (by omega) true
    rw [show Int32.ofNat 0 = (0 : Int32) from rfl, show b01 true = 1 from rfl] at e
    unfold unL
    rw [st_X10_unlike_4]
    simp (disch := omega) only [st_X10_unlike_5, st_X10_unlike_6, st_X10_unlike_9, st_X10_unlike_12, st_X10_unlike_13, st_X10_unlike_15, st_X10_unlike_16, bM_some, hg_49_47, gM_49, hN, nn_lt, show f < n by omega, if_true, lc_r, lc_i, Nat.reduceAdd]
    refine Eq.trans e ?_
    cases nwL (g.2.1 82) i f f 0 true with
    | true =>
      have e' := ih (f + 1) (by omega) (c + 1) (some (.int 1)) b5
      simp (disch := omega) only [st_X10_unlike_69, st_X10_unlike_70, st_X10_unlike_72, st_X10_unlike_75, st_X10_unlike_76, st_X10_unlike_80, st_X10_unlike_81, st_X10_unlike_82, st_X10_unlike_85, b01, cond_true, nn_one0, if_false, lc_r, lc_i, nn_r1, Nat.reduceAdd, e']
    | false =>
      have e' := ih (f + 1) (by omega) c (some (.int 0)) b5
      simp (disch := omega) only [st_X10_unlike_69, st_X10_unlike_70, st_X10_unlike_72, st_X10_unlike_79, st_X10_unlike_80, st_X10_unlike_81, st_X10_unlike_82, st_X10_unlike_85, b01, cond_false, if_true, Int32.add_zero, Nat.add_zero, lc_r, lc_i, nn_r1, Nat.reduceAdd, e']
theorem m_unlike (hi : i < 60) (hn : n ≤ 80) (hN : g.1 49 47 = Int32.ofNat n) : bc d M_X10_unlike none 0 [some (.ref 49), some (.int (Int32.ofNat i)), none, none, none, none] [] (hp t (gM g w a k)) cn sn = some (.inl (some (.int (Int32.ofNat (unL (g.2.1 82) i n 0 0)))), hp t (gM g w a k), cn, sn) := by
  have e := m_un_2 (d := d) (t := t) (w := w) (a := a) (k := k) (cn := cn) (sn := sn) hi hn hN n 0 (by omega) 0 none none
  rw [show Int32.ofNat 0 = (0 : Int32) from rfl] at e
  refine Eq.trans ?_ e
  simp (disch := omega) only [st_X10_unlike_0, st_X10_unlike_1, st_X10_unlike_2, st_X10_unlike_3, lc_r, lc_i, Nat.reduceAdd]
end MUNLIKE2
