/-! ===== the tape: both feed the same bytes ===== -/
def tapeR (n : Nat) (f f' : Rw) : Prop := ∀ i, i < n → byteRel (f i) (f' i)
section FEED2
variable {d : Nat} {t : List px_E} {g : hG} {n cn sn : Nat} {w a k f f' : Rw} {x x1 x2 x3 x4 x5 : Int32}
theorem m_feed_y (h : g.1 49 15 = Int32.ofNat n) (hn : n + 20 ≤ 600) : bc (d + 1) M_X10_feed none 0 [some (.ref 49), some (.int x1), some (.int x2), some (.int x3), some (.int x4), some (.int x5), none, none] [] (hp t (gM g w a k)) cn sn = some (.inl (some (.int (Int32.ofNat (n + 20)))), hp t (gM (hI (hR (hI g 49 2 0) 63 (loopR (fun i f => upd f (n + i) (rB x1 x2 x3 x4 x5 i)) 20 0 (g.1 63))) 49 15 (Int32.ofNat (n + 20))) w a k), cn, sn) := by
  have h0 : (hI g 49 2 0).1 49 15 = Int32.ofNat n := h
  have e := m_feed_l (d := d + 1) (t := t) (g := hI g 49 2 0) (n := n) (w := w) (a := a) (k := k) (cn := cn) (sn := sn) (x1 := x1) (x2 := x2) (x3 := x3) (x4 := x4) (x5 := x5) hn 20 0 (by omega) (g.1 63) none rfl
  rw [Nat.add_zero n] at e
  have hg : hI (hR (hI g 49 2 0) 63 (g.1 63)) 49 15 (Int32.ofNat n) = hI g 49 2 0 := by
    rw [show hR (hI g 49 2 0) 63 (g.1 63) = hI g 49 2 0 from hR_self (g := hI g 49 2 0) (c := 63), ← h0]; exact hI_self'
  rw [hg] at e
  rw [← e]
  have nl : ¬ 600 < Int32.ofNat n + 20 := by rw [show Int32.ofNat n + 20 = Int32.ofNat (n + 20) from nn_add (b := 20), nn_g600 (by omega)]; omega
  simp (disch := omega) only [st_X10_feed_0, st_X10_feed_1, st_X10_feed_2, st_X10_feed_5, st_X10_feed_6, st_X10_feed_9, st_X10_feed_11, st_X10_feed_12, st_X10_feed_15, st_X10_feed_20, st_X10_feed_21, bM_some, hs_49_2, hg_49_15, gM_hI49, gM_49, h0, nl, if_false, lc_i, Nat.reduceAdd]
  rfl
theorem m_feed_n (h : g.1 49 15 = Int32.ofNat n) (hn : ¬ n + 20 ≤ 600) (hb : n ≤ 600) : bc (d + 1) M_X10_feed none 0 [some (.ref 49), some (.int x1), some (.int x2), some (.int x3), some (.int x4), some (.int x5), none, none] [] (hp t (gM g w a k)) cn sn = some (.inl (some (.int (-1))), hp t (gM (hI g 49 2 0) w a k), cn, sn) := by
  have h0 : (hI g 49 2 0).1 49 15 = Int32.ofNat n := h
  have nl : 600 < Int32.ofNat n + 20 := by rw [show Int32.ofNat n + 20 = Int32.ofNat (n + 20) from nn_add (b := 20), nn_g600 (by omega)]; omega
  simp (disch := omega) only [st_X10_feed_0, st_X10_feed_1, st_X10_feed_2, st_X10_feed_5, st_X10_feed_6, st_X10_feed_9, st_X10_feed_11, st_X10_feed_12, st_X10_feed_15, st_X10_feed_18, st_X10_feed_19, bM_some, hs_49_2, hg_49_15, gM_hI49, gM_49, h0, nl, if_true, Nat.reduceAdd]
theorem feed_at {v : Nat → Int32} : ∀ (m j : Nat) (f : Rw) (x : Nat), loopR (fun i f => upd f (n + i) (v i)) m j f x = if n + j ≤ x ∧ x < n + j + m then v (x - n) else f x := by
  intro m
  induction m with
  | zero => intro j f x; unfold loopR; rw [if_neg (by omega)]
  | succ m ih =>
    intro j f x
    unfold loopR
    rw [ih (j + 1), upd_at]
    (repeat' split) <;> first | rfl | (exfalso; omega) | (congr 1; omega)
theorem app4_lo {i : Nat} (h : i < n) : app4 f n x i = f i := by
  unfold app4; rw [upd_oth (by omega), upd_oth (by omega), upd_oth (by omega), upd_oth (by omega)]
theorem app4_hi {i : Nat} (h : n + 4 ≤ i) : app4 f n x i = f i := by
  unfold app4; rw [upd_oth (by omega), upd_oth (by omega), upd_oth (by omega), upd_oth (by omega)]
theorem app4_0 : app4 f n x n = b8 x 24 := by
  unfold app4; rw [upd_oth (by omega), upd_oth (by omega), upd_oth (by omega), upd_same]
theorem app4_1 : app4 f n x (n + 1) = b8 x 16 := by
  unfold app4; rw [upd_oth (by omega), upd_oth (by omega), upd_same]
theorem app4_2 : app4 f n x (n + 2) = b8 x 8 := by
  unfold app4; rw [upd_oth (by omega), upd_same]
theorem app4_3 : app4 f n x (n + 3) = b8 x 0 := by
  unfold app4; rw [upd_same]
theorem tape_feed (h : tapeR n f f') : tapeR (n + 20) (app4 (app4 (app4 (app4 (app4 f n x1) (n + 4) x2) (n + 8) x3) (n + 12) x4) (n + 16) x5) (loopR (fun i f => upd f (n + i) (rB x1 x2 x3 x4 x5 i)) 20 0 f') := by
  intro i hi
  rw [feed_at]
  by_cases hn : i < n
  · rw [if_neg (by omega), app4_lo (by omega), app4_lo (by omega), app4_lo (by omega), app4_lo (by omega), app4_lo (by omega)]
    exact h i hn
  · rw [if_pos (by omega)]
    have hcase : i = n + 0 ∨ i = n + 1 ∨ i = n + 2 ∨ i = n + 3 ∨ i = n + 4 ∨ i = n + 5 ∨ i = n + 6 ∨ i = n + 7 ∨ i = n + 8 ∨ i = n + 9 ∨ i = n + 10 ∨ i = n + 11 ∨ i = n + 12 ∨ i = n + 13 ∨ i = n + 14 ∨ i = n + 15 ∨ i = n + 16 ∨ i = n + 17 ∨ i = n + 18 ∨ i = n + 19 := by omega
    rcases hcase with ei | ei | ei | ei | ei | ei | ei | ei | ei | ei | ei | ei | ei | ei | ei | ei | ei | ei | ei | ei
    · rw [ei]
      have e : rB x1 x2 x3 x4 x5 (n + 0 - n) = (x1 >>> ((24 : Int32) &&& 31)) &&& 255 := by rw [show n + 0 - n = 0 by omega]; rfl
      rw [e, app4_lo (by omega), app4_lo (by omega), app4_lo (by omega), app4_lo (by omega), show n + 0 = n from rfl, app4_0]
      exact byte_rel _
    · rw [ei]
      have e : rB x1 x2 x3 x4 x5 (n + 1 - n) = (x1 >>> ((16 : Int32) &&& 31)) &&& 255 := by rw [show n + 1 - n = 1 by omega]; rfl
      rw [e, app4_lo (by omega), app4_lo (by omega), app4_lo (by omega), app4_lo (by omega), app4_1]
      exact byte_rel _
    · rw [ei]
      have e : rB x1 x2 x3 x4 x5 (n + 2 - n) = (x1 >>> ((8 : Int32) &&& 31)) &&& 255 := by rw [show n + 2 - n = 2 by omega]; rfl
      rw [e, app4_lo (by omega), app4_lo (by omega), app4_lo (by omega), app4_lo (by omega), app4_2]
      exact byte_rel _
    · rw [ei]
      have e : rB x1 x2 x3 x4 x5 (n + 3 - n) = (x1 >>> ((0 : Int32) &&& 31)) &&& 255 := by rw [show n + 3 - n = 3 by omega]; rfl
      rw [e, app4_lo (by omega), app4_lo (by omega), app4_lo (by omega), app4_lo (by omega), app4_3]
      exact byte_rel _
    · rw [ei]
      have e : rB x1 x2 x3 x4 x5 (n + 4 - n) = (x2 >>> ((24 : Int32) &&& 31)) &&& 255 := by rw [show n + 4 - n = 4 by omega]; rfl
      rw [e, app4_lo (by omega), app4_lo (by omega), app4_lo (by omega), show n + 4 = (n + 4) from rfl, app4_0]
      exact byte_rel _
    · rw [ei]
      have e : rB x1 x2 x3 x4 x5 (n + 5 - n) = (x2 >>> ((16 : Int32) &&& 31)) &&& 255 := by rw [show n + 5 - n = 5 by omega]; rfl
      rw [e, app4_lo (by omega), app4_lo (by omega), app4_lo (by omega), show n + 5 = (n + 4) + 1 from rfl, app4_1]
      exact byte_rel _
    · rw [ei]
      have e : rB x1 x2 x3 x4 x5 (n + 6 - n) = (x2 >>> ((8 : Int32) &&& 31)) &&& 255 := by rw [show n + 6 - n = 6 by omega]; rfl
      rw [e, app4_lo (by omega), app4_lo (by omega), app4_lo (by omega), show n + 6 = (n + 4) + 2 from rfl, app4_2]
      exact byte_rel _
    · rw [ei]
      have e : rB x1 x2 x3 x4 x5 (n + 7 - n) = (x2 >>> ((0 : Int32) &&& 31)) &&& 255 := by rw [show n + 7 - n = 7 by omega]; rfl
      rw [e, app4_lo (by omega), app4_lo (by omega), app4_lo (by omega), show n + 7 = (n + 4) + 3 from rfl, app4_3]
      exact byte_rel _
    · rw [ei]
      have e : rB x1 x2 x3 x4 x5 (n + 8 - n) = (x3 >>> ((24 : Int32) &&& 31)) &&& 255 := by rw [show n + 8 - n = 8 by omega]; rfl
      rw [e, app4_lo (by omega), app4_lo (by omega), show n + 8 = (n + 8) from rfl, app4_0]
      exact byte_rel _
    · rw [ei]
      have e : rB x1 x2 x3 x4 x5 (n + 9 - n) = (x3 >>> ((16 : Int32) &&& 31)) &&& 255 := by rw [show n + 9 - n = 9 by omega]; rfl
      rw [e, app4_lo (by omega), app4_lo (by omega), show n + 9 = (n + 8) + 1 from rfl, app4_1]
      exact byte_rel _
    · rw [ei]
      have e : rB x1 x2 x3 x4 x5 (n + 10 - n) = (x3 >>> ((8 : Int32) &&& 31)) &&& 255 := by rw [show n + 10 - n = 10 by omega]; rfl
      rw [e, app4_lo (by omega), app4_lo (by omega), show n + 10 = (n + 8) + 2 from rfl, app4_2]
      exact byte_rel _
    · rw [ei]
      have e : rB x1 x2 x3 x4 x5 (n + 11 - n) = (x3 >>> ((0 : Int32) &&& 31)) &&& 255 := by rw [show n + 11 - n = 11 by omega]; rfl
      rw [e, app4_lo (by omega), app4_lo (by omega), show n + 11 = (n + 8) + 3 from rfl, app4_3]
      exact byte_rel _
    · rw [ei]
      have e : rB x1 x2 x3 x4 x5 (n + 12 - n) = (x4 >>> ((24 : Int32) &&& 31)) &&& 255 := by rw [show n + 12 - n = 12 by omega]; rfl
      rw [e, app4_lo (by omega), show n + 12 = (n + 12) from rfl, app4_0]
      exact byte_rel _
    · rw [ei]
      have e : rB x1 x2 x3 x4 x5 (n + 13 - n) = (x4 >>> ((16 : Int32) &&& 31)) &&& 255 := by rw [show n + 13 - n = 13 by omega]; rfl
      rw [e, app4_lo (by omega), show n + 13 = (n + 12) + 1 from rfl, app4_1]
      exact byte_rel _
    · rw [ei]
      have e : rB x1 x2 x3 x4 x5 (n + 14 - n) = (x4 >>> ((8 : Int32) &&& 31)) &&& 255 := by rw [show n + 14 - n = 14 by omega]; rfl
      rw [e, app4_lo (by omega), show n + 14 = (n + 12) + 2 from rfl, app4_2]
      exact byte_rel _
    · rw [ei]
      have e : rB x1 x2 x3 x4 x5 (n + 15 - n) = (x4 >>> ((0 : Int32) &&& 31)) &&& 255 := by rw [show n + 15 - n = 15 by omega]; rfl
      rw [e, app4_lo (by omega), show n + 15 = (n + 12) + 3 from rfl, app4_3]
      exact byte_rel _
    · rw [ei]
      have e : rB x1 x2 x3 x4 x5 (n + 16 - n) = (x5 >>> ((24 : Int32) &&& 31)) &&& 255 := by rw [show n + 16 - n = 16 by omega]; rfl
      rw [e, show n + 16 = (n + 16) from rfl, app4_0]
      exact byte_rel _
    · rw [ei]
      have e : rB x1 x2 x3 x4 x5 (n + 17 - n) = (x5 >>> ((16 : Int32) &&& 31)) &&& 255 := by rw [show n + 17 - n = 17 by omega]; rfl
      rw [e, show n + 17 = (n + 16) + 1 from rfl, app4_1]
      exact byte_rel _
    · rw [ei]
      have e : rB x1 x2 x3 x4 x5 (n + 18 - n) = (x5 >>> ((8 : Int32) &&& 31)) &&& 255 := by rw [show n + 18 - n = 18 by omega]; rfl
      rw [e, show n + 18 = (n + 16) + 2 from rfl, app4_2]
      exact byte_rel _
    · rw [ei]
      have e : rB x1 x2 x3 x4 x5 (n + 19 - n) = (x5 >>> ((0 : Int32) &&& 31)) &&& 255 := by rw [show n + 19 - n = 19 by omega]; rfl
      rw [e, show n + 19 = (n + 16) + 3 from rfl, app4_3]
      exact byte_rel _
end FEED2
