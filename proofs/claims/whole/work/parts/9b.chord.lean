/-! ===== chord: the class ===== -/
def gNt (g : hG) (a b c : Rw) : hG := hR (hR (hR g 46 a) 47 b) 48 c
def coV (K : Kt) (w : Rw) (k v : Nat) : Nat := if 60 < v then 1000000 else if tunedR K w k (Int32.ofNat v) = -1 then 1000000 else (px_abs (tunedR K w k (Int32.ofNat v) - w (16 + k))).toNatClampNeg
/-- set s taken in with each note from i on -/
def jnI (s : Nat) (co : Nat → Nat) : Nat → Nat → (Nat → Nat) → (Nat → Nat)
  | 0, _, cu => cu
  | m + 1, i, cu => jnI s co m (i + 1) (if s.testBit i = true then cu else fun t => if t = s + 2 ^ i then min (cu t) (cu s + co i) else cu t)
def jnO (n : Nat) (co : Nat → Nat) : Nat → (Nat → Nat) → (Nat → Nat)
  | 0, cu => cu
  | m + 1, cu => jnO n co m (jnI m co n 0 cu)
section CHORDP
variable {n B s i : Nat} {co : Nat → Nat} {W : Nat → Nat → Prop} {cu : Nat → Nat}
theorem bit_set : ∀ n : Nat, n ≤ 4 → ∀ s : Nat, s < 2 ^ n → ∀ i : Nat, i < n → s.testBit i = false → (s + 2 ^ i < 2 ^ n ∧ (s + 2 ^ i).testBit i = true) := by decide +kernel
theorem bit_nset : ∀ s : Nat, s < 16 → ∀ i : Nat, i < 4 → s.testBit i = true → (s + 2 ^ i).testBit i = false := by decide +kernel
theorem two_le {n : Nat} (hn : n ≤ 4) : 2 ^ n ≤ 16 := Nat.pow_le_pow_right (by omega) hn
theorem two_pos (i : Nat) : 1 ≤ 2 ^ i := Nat.one_le_two_pow
/-- totals when all sets above s, and s with the notes below i, are taken in -/
def PJ (n B : Nat) (co : Nat → Nat) (W : Nat → Nat → Prop) (s i t x : Nat) : Prop := W t x ∨ ∃ e, e < n ∧ t.testBit e = true ∧ (s < t - 2 ^ e ∨ (t - 2 ^ e = s ∧ e < i)) ∧ co e < B ∧ ∃ y, W (t - 2 ^ e) y ∧ x = co e + y
theorem jnI_best (hn : n ≤ 4) (hs : s < 2 ^ n) (hco : ∀ i, i < n → co i ≤ B) : ∀ (m i : Nat) (cu : Nat → Nat), i + m = n → (∀ t, t < 2 ^ n → Best (PJ n B co W s i t) B (cu t)) → ∀ t, t < 2 ^ n → Best (PJ n B co W s n t) B (jnI s co m i cu t) := by
  have h16 := two_le hn
  intro m
  induction m with
  | zero => intro i cu hi h t ht; obtain rfl : i = n := by omega
            exact h t ht
  | succ m ih =>
    intro i cu hi h
    unfold jnI
    have hp2 := two_pos i
    refine ih (i + 1) _ (by omega) (fun t ht => ?_)
    by_cases hb : s.testBit i = true
    · rw [if_pos hb]
      refine Best_iff (fun x => ?_) (h t ht)
      unfold PJ
      constructor
      · intro q
        rcases q with q | ⟨e, h1, h2, h3, h4⟩
        · exact Or.inl q
        · exact Or.inr ⟨e, h1, h2, by omega, h4⟩
      · intro q
        rcases q with q | ⟨e, h1, h2, h3, h4⟩
        · exact Or.inl q
        · by_cases ee : e = i
          · by_cases h5 : s < t - 2 ^ e
            · exact Or.inr ⟨e, h1, h2, Or.inl h5, h4⟩
            · subst ee
              obtain ⟨-, o2, -⟩ := bit_off t (by omega) e (by omega) h2
              have : t = s + 2 ^ e := by omega
              rw [this, bit_nset s (by omega) e (by omega) hb] at h2
              cases h2
          · exact Or.inr ⟨e, h1, h2, by omega, h4⟩
    · rw [if_neg hb]
      obtain ⟨o1, o2⟩ := bit_set n hn s hs i (by omega) (Bool.eq_false_iff.mpr hb)
      by_cases ht2 : t = s + 2 ^ i
      · simp only [if_pos ht2]
        have bs := h s hs
        have bt := h t ht
        have hW : ∀ x, PJ n B co W s i s x ↔ W s x := by
          intro x
          unfold PJ
          constructor
          · intro q
            rcases q with q | ⟨e, h1, h2, h3, h4⟩
            · exact q
            · have := two_pos e
              obtain ⟨-, o2, -⟩ := bit_off s (by omega) e (by omega) h2
              omega
          · exact Or.inl
        have bs' := Best_iff hW bs
        by_cases hc : co i < B
        · rw [Nat.add_comm (cu s) (co i)]
          refine Best_iff (fun x => ?_) (Best_min (c := co i) bt bs')
          unfold PJ
          constructor
          · intro q
            rcases q with (q | ⟨e, h1, h2, h3, h4⟩) | ⟨y, hy, hx⟩
            · exact Or.inl q
            · exact Or.inr ⟨e, h1, h2, by omega, h4⟩
            · refine Or.inr ⟨i, by omega, by rw [ht2]; exact o2, Or.inr ⟨by omega, by omega⟩, hc, y, ?_, hx⟩
              rw [show t - 2 ^ i = s by omega]; exact hy
          · intro q
            rcases q with q | ⟨e, h1, h2, h3, h4, y, hy, hx⟩
            · exact Or.inl (Or.inl q)
            · by_cases ee : s < t - 2 ^ e ∨ (t - 2 ^ e = s ∧ e < i)
              · exact Or.inl (Or.inr ⟨e, h1, h2, ee, h4, y, hy, hx⟩)
              · have e1 : e = i := by omega
                subst e1
                refine Or.inr ⟨y, ?_, hx⟩
                rw [show t - 2 ^ e = s by omega] at hy; exact hy
        · have hle := bt.1
          rw [Nat.min_eq_left (by omega)]
          refine Best_iff (fun x => ?_) bt
          unfold PJ
          constructor
          · intro q
            rcases q with q | ⟨e, h1, h2, h3, h4⟩
            · exact Or.inl q
            · exact Or.inr ⟨e, h1, h2, by omega, h4⟩
          · intro q
            rcases q with q | ⟨e, h1, h2, h3, h4, y, hy, hx⟩
            · exact Or.inl q
            · by_cases ee : e = i
              · subst ee; exact absurd h4 hc
              · exact Or.inr ⟨e, h1, h2, by omega, h4, y, hy, hx⟩
      · simp only [if_neg ht2]
        refine Best_iff (fun x => ?_) (h t ht)
        unfold PJ
        constructor
        · intro q
          rcases q with q | ⟨e, h1, h2, h3, h4⟩
          · exact Or.inl q
          · exact Or.inr ⟨e, h1, h2, by omega, h4⟩
        · intro q
          rcases q with q | ⟨e, h1, h2, h3, h4⟩
          · exact Or.inl q
          · obtain ⟨-, o3, -⟩ := bit_off t (by omega) e (by omega) h2
            by_cases ee : e = i
            · subst ee; exact Or.inr ⟨e, h1, h2, by omega, h4⟩
            · exact Or.inr ⟨e, h1, h2, by omega, h4⟩
theorem jnO_best (hn : n ≤ 4) (hco : ∀ i, i < n → co i ≤ B) : ∀ (m : Nat) (cu : Nat → Nat), m ≤ 2 ^ n → (∀ t, t < 2 ^ n → Best (fun x => W t x ∨ ∃ e, e < n ∧ t.testBit e = true ∧ m ≤ t - 2 ^ e ∧ co e < B ∧ ∃ y, W (t - 2 ^ e) y ∧ x = co e + y) B (cu t)) → ∀ t, t < 2 ^ n → Best (fun x => W t x ∨ ∃ e, e < n ∧ t.testBit e = true ∧ co e < B ∧ ∃ y, W (t - 2 ^ e) y ∧ x = co e + y) B (jnO n co m cu t) := by
  intro m
  induction m with
  | zero =>
    intro cu _ h t ht
    refine Best_iff (fun x => ?_) (h t ht)
    constructor
    · intro q
      rcases q with q | ⟨e, h1, h2, _, h4⟩
      · exact Or.inl q
      · exact Or.inr ⟨e, h1, h2, h4⟩
    · intro q
      rcases q with q | ⟨e, h1, h2, h4⟩
      · exact Or.inl q
      · exact Or.inr ⟨e, h1, h2, Nat.zero_le _, h4⟩
  | succ m ih =>
    intro cu hm h
    unfold jnO
    refine ih _ (by omega) (fun t ht => ?_)
    refine Best_iff (fun x => ?_) (jnI_best (W := W) hn (show m < 2 ^ n by omega) hco n 0 cu (by omega) (fun t ht => Best_iff (fun x => ?_) (h t ht)) t ht)
    · unfold PJ
      constructor
      · intro q
        rcases q with q | ⟨e, h1, h2, h3, h4⟩
        · exact Or.inl q
        · exact Or.inr ⟨e, h1, h2, by omega, h4⟩
      · intro q
        rcases q with q | ⟨e, h1, h2, h3, h4⟩
        · exact Or.inl q
        · exact Or.inr ⟨e, h1, h2, by omega, h4⟩
    · unfold PJ
      constructor
      · intro q
        rcases q with q | ⟨e, h1, h2, h3, h4⟩
        · exact Or.inl q
        · exact Or.inr ⟨e, h1, h2, by omega, h4⟩
      · intro q
        rcases q with q | ⟨e, h1, h2, h3, h4⟩
        · exact Or.inl q
        · exact Or.inr ⟨e, h1, h2, by omega, h4⟩
/-- one kettle more -/
theorem jnO_WS {k : Nat} {co : Nat → Nat → Nat} (hn : n ≤ 4) (hco : ∀ i, i < n → co i k ≤ B) (h : ∀ t, t < 2 ^ n → Best (WS n B co k t) B (cu t)) : ∀ t, t < 2 ^ n → Best (WS n B co (k + 1) t) B (jnO n (fun i => co i k) (2 ^ n) cu t) := by
  intro t ht
  have h16 := two_le hn
  refine jnO_best (W := WS n B co k) hn hco (2 ^ n) cu (Nat.le_refl _) (fun t ht => Best_iff (fun x => ?_) (h t ht)) t ht
  constructor
  · exact Or.inl
  · intro q
    rcases q with q | ⟨e, h1, h2, h3, _⟩
    · exact q
    · have := two_pos e
      obtain ⟨-, o2, -⟩ := bit_off t (by omega) e (by omega) h2
      omega
theorem jnI_le (hB : ∀ t, cu t ≤ B) : ∀ (m i : Nat) (cu : Nat → Nat), (∀ t, cu t ≤ B) → ∀ t, jnI s co m i cu t ≤ B := by
  intro m
  induction m with
  | zero => intro i cu h; exact h
  | succ m ih =>
    intro i cu h
    unfold jnI
    refine ih _ _ (fun t => ?_)
    split
    · exact h t
    · dsimp only
      split
      · have := h t; omega
      · exact h t
end CHORDP
section CHORD
variable {d : Nat} {t : List px_E} {g : hG} {n s N S D L T cn sn : Nat} {r6 r7 r8 : Rw} {x : Int32} {co : Nat → Nat}
theorem gNt_6 {i : Nat} : hI (gNt g r6 r7 r8) 46 i x = gNt g (upd r6 i x) r7 r8 := by
  apply hG_ext
  · intro c j
    simp only [gNt, hR_at, hI_at, hJ_at, hR_2, hI_2, hJ_1, hJ_22, upd_at]
    (repeat' split) <;> first | rfl | (exfalso; omega)
  · intro c j; rfl
  · rfl
theorem gNt_7 {i : Nat} : hI (gNt g r6 r7 r8) 47 i x = gNt g r6 (upd r7 i x) r8 := by
  apply hG_ext
  · intro c j
    simp only [gNt, hR_at, hI_at, hJ_at, hR_2, hI_2, hJ_1, hJ_22, upd_at]
    (repeat' split) <;> first | rfl | (exfalso; omega)
  · intro c j; rfl
  · rfl
theorem gNt_8 {i : Nat} : hI (gNt g r6 r7 r8) 48 i x = gNt g r6 r7 (upd r8 i x) := by
  unfold gNt; rw [hI_R, hR_same, hR_hR]
theorem gNt_8r {f : Rw} : hR (gNt g r6 r7 r8) 48 f = gNt g r6 r7 f := by unfold gNt; rw [hR_hR]
theorem gNt_eta : gNt g (g.1 46) (g.1 47) (g.1 48) = g := by unfold gNt; rw [hR_self, hR_self, hR_self]
theorem gNt_46 : (gNt g r6 r7 r8).1 46 = r6 := rfl
theorem gNt_47 : (gNt g r6 r7 r8).1 47 = r7 := rfl
theorem gNt_48 : (gNt g r6 r7 r8).1 48 = r8 := rfl
theorem gNt_29 : (gNt g r6 r7 r8).1 29 = g.1 29 := rfl
theorem gNt_16 : (gNt g r6 r7 r8).1 16 = g.1 16 := rfl
theorem gNt_24 : (gNt g r6 r7 r8).1 24 = g.1 24 := rfl
theorem gNt_23 : (gNt g r6 r7 r8).1 23 = g.1 23 := rfl
theorem nn_min {a b : Nat} (ha : a < 2147483648) (hb : b < 2147483648) : px_min (Int32.ofNat a) (Int32.ofNat b) = Int32.ofNat (min a b) := by
  rw [ii_eq, px_min_i, ii_ofNat ha, ii_ofNat hb, ii_ofNat (by omega)]; omega
theorem bit_orI : ∀ s : Nat, s < 16 → ∀ i : Nat, i < 4 → Int32.ofNat s ||| ((1 : Int32) <<< (Int32.ofNat i &&& 31)) = Int32.ofNat (if s.testBit i = true then s else s + 2 ^ i) := by decide +kernel
theorem bit_shl : ∀ n : Nat, n ≤ 4 → ((1 : Int32) <<< (Int32.ofNat n &&& 31)) - 1 = Int32.ofNat (2 ^ n - 1) := by decide +kernel
set_option maxHeartbeats 4000000 in
theorem jo_in (hn : n ≤ 4) (hs : s < 2 ^ n) (hco : ∀ i, i < n → r7 i = Int32.ofNat (co i) ∧ co i ≤ 1000000) : ∀ m i : Nat, i + m = n → ∀ (cu : Nat → Nat) (r8 : Rw) (a4 : Option Value), (∀ t, cu t ≤ 1000000) → (∀ t, t < 16 → r8 t = Int32.ofNat (cu t)) → ∃ (c8 : Rw) (b3 b4 : Option Value), (∀ t, t < 16 → c8 t = Int32.ofNat (jnI s co m i cu t)) ∧
    bc (d + 1) M_X8_join none 12 [some (.ref 45), some (.int (Int32.ofNat n)), some (.int (Int32.ofNat s)), some (.int (Int32.ofNat i)), a4] [] (hp t (gNt g r6 r7 r8)) cn sn =
    bc (d + 1) M_X8_join none 66 [some (.ref 45), some (.int (Int32.ofNat n)), some (.int (Int32.ofNat s)), b3, b4] [] (hp t (gNt g r6 r7 c8)) cn sn := by
  have h16 := two_le hn
  intro m
  induction m with
  | zero =>
    intro i hi cu r8 a4 hle h8
    refine ⟨r8, some (.int (Int32.ofNat i)), a4, h8, ?_⟩
    rw [st_X8_join_12]
    simp (disch := omega) only [st_X8_join_13, st_X8_join_14, nn_lt, show ¬ i < n by omega, if_false, Nat.reduceAdd]
  | succ m ih =>
    intro i hi cu r8 a4 hle h8
    unfold jnI
    have hor := bit_orI s (by omega) i (by omega)
    by_cases hb : s.testBit i = true
    · rw [if_pos hb] at hor
      obtain ⟨c8, b3, b4, e1, e2⟩ := ih (i + 1) (by omega) cu r8 (some (.int (Int32.ofNat s))) hle h8
      refine ⟨c8, b3, b4, by rw [if_pos hb]; exact e1, ?_⟩
      rw [← e2, st_X8_join_12]
      simp (disch := omega) only [st_X8_join_13, st_X8_join_14, st_X8_join_17, st_X8_join_18, st_X8_join_19, st_X8_join_20, st_X8_join_21, st_X8_join_22, st_X8_join_24, st_X8_join_26, st_X8_join_27, st_X8_join_60, st_X8_join_63, hor, nn_lt, show i < n by omega, if_true, lc_r, lc_i, nn_r1, Nat.reduceAdd]
    · rw [if_neg hb] at hor
      obtain ⟨o1, o2⟩ := bit_set n hn s hs i (by omega) (Bool.eq_false_iff.mpr hb)
      have hp2 := two_pos i
      have q1 := hle (s + 2 ^ i)
      have q2 := hle s
      have q3 := hco i (by omega)
      have w1 : ∀ t, (fun t => if t = s + 2 ^ i then min (cu t) (cu s + co i) else cu t) t ≤ 1000000 := by
        intro t
        dsimp only
        have := hle t
        split <;> omega
      have w2 : ∀ t, t < 16 → upd r8 (s + 2 ^ i) (Int32.ofNat (min (cu (s + 2 ^ i)) (cu s + co i))) t = Int32.ofNat ((fun t => if t = s + 2 ^ i then min (cu t) (cu s + co i) else cu t) t) := by
        intro t ht
        rw [upd_at]
        dsimp only
        split
        · next h => rw [h]
        · exact h8 t ht
      obtain ⟨c8, b3, b4, e1, e2⟩ := ih (i + 1) (by omega) (fun t => if t = s + 2 ^ i then min (cu t) (cu s + co i) else cu t) (upd r8 (s + 2 ^ i) (Int32.ofNat (min (cu (s + 2 ^ i)) (cu s + co i)))) (some (.int (Int32.ofNat (s + 2 ^ i)))) w1 w2
      refine ⟨c8, b3, b4, by rw [if_neg hb]; exact e1, ?_⟩
      generalize hT : s + 2 ^ i = T at *
      have hTs : ¬ T = s := by omega
      rw [← e2, st_X8_join_12]
      simp (disch := omega) only [st_X8_join_13, st_X8_join_14, st_X8_join_17, st_X8_join_18, st_X8_join_19, st_X8_join_20, st_X8_join_21, st_X8_join_22, st_X8_join_24, st_X8_join_26, st_X8_join_27, st_X8_join_30, st_X8_join_31, st_X8_join_34, st_X8_join_36, st_X8_join_37, st_X8_join_40, st_X8_join_42, st_X8_join_43, st_X8_join_44, st_X8_join_47, st_X8_join_48, st_X8_join_49, st_X8_join_50, st_X8_join_53, st_X8_join_54, st_X8_join_55, st_X8_join_56, st_X8_join_59, st_X8_join_60, st_X8_join_63, hor, nn_lt, nn_inj, hTs, if_false, show i < n by omega, if_true, bM_some, bP_some, m2_ir, hg_45_1, hg_45_2, ha_47, ha_48, hw_48, gNt_47, gNt_48, gNt_8, h8, q3.1, nn_out, nn_clamp, cond_false, nn_add, nn_min, lc_r, lc_i, nn_r1, Nat.reduceAdd]
def svI (m : Nat) : Int32 := if m = 0 then -1 else Int32.ofNat (m - 1)
set_option maxHeartbeats 4000000 in
theorem jo_out (hn : n ≤ 4) (hco : ∀ i, i < n → r7 i = Int32.ofNat (co i) ∧ co i ≤ 1000000) : ∀ m : Nat, m ≤ 2 ^ n → ∀ (cu : Nat → Nat) (r8 : Rw) (a3 a4 : Option Value), (∀ t, cu t ≤ 1000000) → (∀ t, t < 16 → r8 t = Int32.ofNat (cu t)) → ∃ c8 : Rw, (∀ t, t < 16 → c8 t = Int32.ofNat (jnO n co m cu t)) ∧ (∀ t, jnO n co m cu t ≤ 1000000) ∧
    bc (d + 1) M_X8_join none 6 [some (.ref 45), some (.int (Int32.ofNat n)), some (.int (svI m)), a3, a4] [] (hp t (gNt g r6 r7 r8)) cn sn = some (.inl none, hp t (gNt g r6 r7 c8), cn, sn) := by
  have h16 := two_le hn
  intro m
  induction m with
  | zero =>
    intro hm cu r8 a3 a4 hle h8
    refine ⟨r8, h8, hle, ?_⟩
    rw [show svI 0 = -1 from rfl, st_X8_join_6]
    simp (disch := omega) only [st_X8_join_7, st_X8_join_72, show ((-1 : Int32) < 0) = True by decide, if_true]
  | succ m ih =>
    intro hm cu r8 a3 a4 hle h8
    obtain ⟨c8, b3, b4, e1, e2⟩ := jo_in (d := d) (t := t) (g := g) (r6 := r6) (cn := cn) (sn := sn) (s := m) hn (by omega) hco n 0 (by omega) cu r8 a4 hle h8
    obtain ⟨d8, f1, f2, f3⟩ := ih (by omega) (jnI m co n 0 cu) c8 b3 b4 (jnI_le (co := co) (s := m) hle n 0 cu hle) e1
    refine ⟨d8, f1, f2, ?_⟩
    rw [show Int32.ofNat 0 = (0 : Int32) from rfl] at e2
    rw [show svI (m + 1) = Int32.ofNat m from rfl, st_X8_join_6]
    simp (disch := omega) only [st_X8_join_7, st_X8_join_10, st_X8_join_11, nn_l0, Nat.not_lt_zero, if_false, lc_r, lc_i, Nat.reduceAdd]
    refine Eq.trans e2 (Eq.trans ?_ f3)
    have es : Int32.ofNat m + -1 = svI m := by
      unfold svI
      by_cases h0 : m = 0
      · rw [if_pos h0, h0]; rfl
      · rw [if_neg h0, nn_q1 (by omega)]
    simp (disch := omega) only [st_X8_join_66, st_X8_join_69, in_m1, es, lc_r, lc_i, Nat.reduceAdd]
theorem c_join (hn : n ≤ 4) (hco : ∀ i, i < n → r7 i = Int32.ofNat (co i) ∧ co i ≤ 1000000) {cu : Nat → Nat} (hle : ∀ t, cu t ≤ 1000000) (h8 : ∀ t, t < 16 → r8 t = Int32.ofNat (cu t)) : ∃ c8 : Rw, (∀ t, t < 16 → c8 t = Int32.ofNat (jnO n co (2 ^ n) cu t)) ∧ (∀ t, jnO n co (2 ^ n) cu t ≤ 1000000) ∧
    bc (d + 1) M_X8_join none 0 [some (.ref 45), some (.int (Int32.ofNat n)), none, none, none] [] (hp t (gNt g r6 r7 r8)) cn sn = some (.inl none, hp t (gNt g r6 r7 c8), cn, sn) := by
  obtain ⟨c8, e1, e2, e3⟩ := jo_out (d := d) (t := t) (g := g) (r6 := r6) (cn := cn) (sn := sn) hn hco (2 ^ n) (Nat.le_refl _) cu r8 none none hle h8
  refine ⟨c8, e1, e2, Eq.trans ?_ e3⟩
  have hp2 := two_pos n
  rw [show svI (2 ^ n) = Int32.ofNat (2 ^ n - 1) by unfold svI; rw [if_neg (by omega)]]
  simp (disch := omega) only [st_X8_join_0, st_X8_join_1, st_X8_join_2, st_X8_join_3, st_X8_join_4, st_X8_join_5, bit_shl n hn, lc_r, lc_i, lc_n, Nat.reduceAdd]
end CHORD
