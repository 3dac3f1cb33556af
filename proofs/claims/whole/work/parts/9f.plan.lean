/-! ===== soonest: plain functions; who can't sing stays so ===== -/
section PLANP
variable {K : Kt} {N S D L T dd : Nat} {w : Rw}
theorem seekR_b {f : Rw → Rw} {P : Rw → Rw → Bool} : ∀ (m i : Nat) (w : Rw), seekR f P m i w = -1 ∨ ∃ v, i ≤ v ∧ v < i + m ∧ seekR f P m i w = Int32.ofNat v := by
  intro m
  induction m with
  | zero => intro i w; exact Or.inl rfl
  | succ m ih =>
    intro i w
    cases h : P w (f w) with
    | true => rw [seekR_t h]; exact Or.inr ⟨i, by omega, by omega, rfl⟩
    | false =>
      rw [seekR_f h]
      rcases ih (i + 1) (f w) with e | ⟨v, h1, h2, h3⟩
      · exact Or.inl e
      · exact Or.inr ⟨v, by omega, by omega, h3⟩
theorem cnt_ge {b : Nat → Bool} : ∀ (n m : Nat) (p : Nat → Nat), (∀ i, i < m → p i < n ∧ b (p i) = true) → (∀ i j, i < m → j < m → ¬ i = j → ¬ p i = p j) → m ≤ cntN b n := by
  intro n
  induction n with
  | zero =>
    intro m p h1 _
    cases m with
    | zero => exact Nat.le_refl 0
    | succ m => exact absurd (h1 0 (by omega)).1 (Nat.not_lt_zero _)
  | succ n ih =>
    intro m p h1 h2
    unfold cntN
    by_cases h : ∃ i, i < m ∧ p i = n
    · obtain ⟨i0, hi0, e0⟩ := h
      have hb : b n = true := by rw [← e0]; exact (h1 i0 hi0).2
      have := ih (m - 1) (fun i => if i = i0 then p (m - 1) else p i) (fun i hi => by
        by_cases e : i = i0
        · simp only [if_pos e]
          have q := h1 (m - 1) (by omega)
          have q2 := h2 (m - 1) i0 (by omega) hi0 (by omega)
          exact ⟨by omega, q.2⟩
        · simp only [if_neg e]
          have q := h1 i (by omega)
          have q2 := h2 i i0 (by omega) hi0 e
          exact ⟨by omega, q.2⟩) (fun i j hi hj hne => by
        by_cases e : i = i0
        · by_cases e' : j = i0
          · omega
          · simp only [if_pos e, if_neg e']; exact h2 (m - 1) j (by omega) (by omega) (by omega)
        · by_cases e' : j = i0
          · simp only [if_neg e, if_pos e']; exact h2 i (m - 1) (by omega) (by omega) (by omega)
          · simp only [if_neg e, if_neg e']; exact h2 i j (by omega) (by omega) hne)
      rw [hb, cond_true]; omega
    · have := ih m p (fun i hi => by
        have q := h1 i hi
        have : ¬ p i = n := fun z => h ⟨i, hi, z⟩
        exact ⟨by omega, q.2⟩) h2
      omega
theorem cnt_mono {b b' : Nat → Bool} : ∀ m : Nat, (∀ j, j < m → b j = true → b' j = true) → cntN b m ≤ cntN b' m := by
  intro m
  induction m with
  | zero => intro _; exact Nat.le_refl 0
  | succ m ih =>
    intro h
    unfold cntN
    have h1 := ih (fun j hj => h j (by omega))
    cases hb : b m with
    | false => rw [cond_false]; omega
    | true => rw [h m (by omega) hb, cond_true]; omega
/-- it is hot, or may get so, and could sing -/
def vcB (K : Kt) (w : Rw) (j : Nat) : Bool := (!decide (w j = -1) || decide (100 < w (8 + j))) && !decide (couldR K j w = 0)
theorem hv_vc {j : Nat} (hj : j < 8) (hh : 0 ≤ (w (8 + j)).toInt ∧ (w (8 + j)).toInt ≤ 150) (h : vcB K w j = false) : hvR K j w (40 + j) = -1 ∧ (w j = -1 ∧ (warmR K (powerR K (w j)) j w (8 + j)).toInt ≤ 99 ∨ couldR K j w = 0) := by
  have hc : w j = -1 ∧ (warmR K (powerR K (w j)) j w (8 + j)).toInt ≤ 99 ∨ couldR K j w = 0 := by
    unfold vcB at h
    by_cases h1 : couldR K j w = 0
    · exact Or.inr h1
    · rw [decide_eq_false h1, Bool.not_false, Bool.and_true, Bool.or_eq_false_iff, Bool.not_eq_false', decide_eq_true_eq, decide_eq_false_iff_not] at h
      refine Or.inl ⟨h.1, ?_⟩
      have h3 := h.2
      rw [ii_lt, ti_100] at h3
      rw [h.1]
      unfold warmR
      rw [if_pos (show powerR K (-1) = 0 by unfold powerR; rw [if_pos (by decide)]), upd_same, px_max_i, ti_0]
      split
      · rw [ii_sub] <;> rw [ti_1] <;> omega
      · rw [ii_sub] <;> rw [ti_2] <;> omega
  refine ⟨?_, hc⟩
  apply Classical.byContradiction
  intro z
  obtain ⟨z1, z2⟩ := hvR_s hj z
  rcases hc with ⟨_, hc⟩ | hc
  · rw [ii_lt, ti_100] at z1; omega
  · exact z2 hc
theorem vc_step (hK : KN K N S D L) (hO : KO K N S D L) (hR : RI K N S T w) {j : Nat} (hj : j < N) (h : vcB K (minR K N D L w) j = true) : vcB K w j = true := by
  have h8 := hK.2.1
  cases hv : vcB K w j with
  | true => rfl
  | false =>
    exfalso
    obtain ⟨q1, q2, q3, q4, q5⟩ := hR.1 j hj
    obtain ⟨s1, -⟩ := hO.1 j hj
    obtain ⟨n1, n2⟩ := hv_vc (by omega) q2 hv
    have m1 : minR K N D L w (8 + j) = hbR K j w (8 + j) := by rw [minR_at hK hO (by omega) (by omega) (by omega), show (8 + j) % 8 = j by omega]
    have m2 : minR K N D L w (16 + j) = hbR K j w (16 + j) := by rw [minR_at hK hO (by omega) (by omega) (by omega), show (16 + j) % 8 = j by omega]
    have m3 : minR K N D L w (24 + j) = hbR K j w (24 + j) := by rw [minR_at hK hO (by omega) (by omega) (by omega), show (24 + j) % 8 = j by omega]
    have fc := (hbR_fc (K := K) (w := w) (j := j) (by omega) s1.2 (by omega) q3.1 q3.2 q4).2.2 (by rw [hbR_n (by omega)]; exact n1)
    have ec : couldR K j (minR K N D L w) = couldR K j w := by
      unfold couldR; rw [m2, m3, fc.1, fc.2]
    unfold vcB at h
    rw [ec, Bool.and_eq_true] at h
    rcases n2 with ⟨n2, n3⟩ | n2
    · have e0 : minR K N D L w j = -1 := by
        rcases minR_on (w := w) hK hO (j := j) (by omega) with e | e
        · rw [e]; exact n2
        · exact e
      rw [e0, decide_eq_true rfl, Bool.not_true, Bool.false_or, decide_eq_true_eq, m1, hbR_h (by omega), ii_lt, ti_100] at h
      omega
    · rw [n2, decide_eq_true rfl] at h
      cases h.2
theorem minR_rd (hK : KN K N S D L) (hO : KO K N S D L) (hd : dd < D) (h : w (48 + dd) = -1) (hr : ¬ minR K N D L w (48 + dd) = -1) : ¬ chordV K (sgR K N w) N dd (K 6 dd).toNatClampNeg 61 0 = 0 := by
  have h8 := hK.2.1
  have h5 := hK.2.2.2.2.2.1
  intro hz
  apply hr
  obtain ⟨u, e, q, -⟩ := minR_eq (w := w) hK hO
  rw [e, upd_oth (by omega), q (48 + dd) (by omega), boilL_n h8 (by omega)]
  have key : ∀ (m j : Nat) (v : Rw), j + m ≤ 5 → (∀ i, i < 48 → v i = sgR K N w i) → v (48 + dd) = -1 → loopR (fun dd => readyM K N dd 61 0) m j v (48 + dd) = -1 := by
    intro m
    induction m with
    | zero => intro j v _ _ hv; exact hv
    | succ m ih =>
      intro j v hj hv hv2
      unfold loopR
      apply ih (j + 1) _ (by omega)
      · intro i hi; rw [readyM_o (by omega) hi]; exact hv i hi
      · by_cases ej : j = dd
        · subst ej
          have ec : ∀ (m v' : Nat), chordV K v N j (K 6 j).toNatClampNeg m v' = chordV K (sgR K N w) N j (K 6 j).toNatClampNeg m v' := by
            have es : ∀ (x : Int32) (m j : Nat), j + m ≤ 8 → sungR v x m j = sungR (sgR K N w) x m j := by
              intro x m
              induction m with
              | zero => intro j _; rfl
              | succ m ih => intro j hj; unfold sungR; rw [hv (40 + j) (by omega), ih (j + 1) (by omega)]
            have eb : ∀ (x : Int32) (m i : Nat) (b : Int32), chordB v N (fun i => K 7 (j * 3 + i)) x m i b = chordB (sgR K N w) N (fun i => K 7 (j * 3 + i)) x m i b := by
              intro x m
              induction m with
              | zero => intro i b; rfl
              | succ m ih => intro i b; unfold chordB; rw [es _ N 0 (by omega), ih]
            intro m
            induction m with
            | zero => intro v'; rfl
            | succ m ih => intro v'; unfold chordV; rw [es _ N 0 (by omega), eb, ih]
          unfold readyM
          rw [if_pos hv2, ec, if_pos hz]; exact hv2
        · unfold readyM
          split
          · split
            · exact hv2
            · rw [upd_oth (by omega)]; exact hv2
          · exact hv2
  refine key D 0 _ (by omega) (fun i _ => rfl) ?_
  rw [(sgR_at h8).1 (by omega)]; exact h
/-- a dish that becomes ready has as many voices as notes -/
theorem rd_enough (hK : KN K N S D L) (hO : KO K N S D L) (hR : RI K N S T w) (hd : dd < D) (h : w (48 + dd) = -1) (hr : ¬ minR K N D L w (48 + dd) = -1) : (K 6 dd).toNatClampNeg < cntN (vcB K w) N := by
  have h8 := hK.2.1
  obtain ⟨-, hM3, hst, hdi⟩ := hO.2.2.1 dd hd
  have hc := minR_rd hK hO hd h hr
  rw [chordV_iff] at hc
  obtain ⟨u, -, hu, hc⟩ := hc
  rw [chordB_iff _ _ _ (sungR_01 _ _ _)] at hc
  obtain ⟨hc1, hc2⟩ := hc
  have hx : ∀ i, i < (K 6 dd).toNatClampNeg + 1 → ∃ j, j < N ∧ ¬ sgR K N w (40 + j) = -1 ∧ sgR K N w (40 + j) = (if i = 0 then Int32.ofNat u else Int32.ofNat u + K 7 (dd * 3 + (i - 1))) := by
    intro i hi
    by_cases e : i = 0
    · obtain ⟨j, _, h2, h3, h4⟩ := (sungR_iff N 0).mp hc1
      exact ⟨j, by omega, h3, by rw [if_pos e]; exact h4⟩
    · obtain ⟨j, _, h2, h3, h4⟩ := (sungR_iff N 0).mp (hc2 (i - 1) (by omega) (by omega))
      exact ⟨j, by omega, h3, by rw [if_neg e]; exact h4⟩
  have hval : ∀ i, i < (K 6 dd).toNatClampNeg + 1 → ((if i = 0 then Int32.ofNat u else Int32.ofNat u + K 7 (dd * 3 + (i - 1))) : Int32).toInt = u + (if i = 0 then 0 else (K 7 (dd * 3 + (i - 1))).toInt) := by
    intro i hi
    have e0 := ii_ofNat (a := u) (by omega)
    by_cases e : i = 0
    · rw [if_pos e, if_pos e, e0]; omega
    · rw [if_neg e, if_neg e]
      have := hst (i - 1) (by omega)
      rw [ii_add] <;> omega
  have hne : ∀ i i', i < i' → i' < (K 6 dd).toNatClampNeg + 1 → ¬ ((if i = 0 then Int32.ofNat u else Int32.ofNat u + K 7 (dd * 3 + (i - 1))) : Int32) = (if i' = 0 then Int32.ofNat u else Int32.ofNat u + K 7 (dd * 3 + (i' - 1))) := by
    intro i i' h1 h2 z
    have z1 := congrArg Int32.toInt z
    rw [hval i (by omega), hval i' h2, if_neg (show ¬ i' = 0 by omega)] at z1
    have s1 := hst (i' - 1) (by omega)
    by_cases e : i = 0
    · rw [if_pos e] at z1; omega
    · rw [if_neg e] at z1
      exact hdi (i - 1) (i' - 1) (by omega) (by omega) (Int32.toInt_inj.mp (by omega))
  have key := cnt_ge (b := bS (sgR K N w)) N ((K 6 dd).toNatClampNeg + 1) (fun i => if hi : i < (K 6 dd).toNatClampNeg + 1 then (hx i hi).choose else 0) (fun i hi => by
    simp only [dif_pos hi]
    have q := (hx i hi).choose_spec
    refine ⟨q.1, ?_⟩
    unfold bS
    rw [decide_eq_false q.2.1]; rfl) (fun i i' hi hi' hii z => by
    simp only [dif_pos hi, dif_pos hi'] at z
    have q := (hx i hi).choose_spec.2.2
    have q' := (hx i' hi').choose_spec.2.2
    rw [z] at q
    rw [q] at q'
    rcases Nat.lt_or_ge i i' with hlt | hge
    · exact hne i i' hlt hi' q'
    · exact hne i' i (by omega) hi q'.symm)
  have mono := cnt_mono (b := bS (sgR K N w)) (b' := vcB K w) N (fun j hj hb => by
    cases hv : vcB K w j with
    | true => rfl
    | false =>
      exfalso
      have n1 := (hv_vc (K := K) (w := w) (j := j) (by omega) (hR.1 j hj).2.1 hv).1
      unfold bS at hb
      rw [(sgR_at h8).2 (by omega) (by omega), show (40 + j) % 8 = j by omega, n1] at hb
      cases hb)
  omega
def rdL (K : Kt) (N D L dd : Nat) : Nat → Nat → Rw → Int32
  | 0, _, _ => -1
  | m + 1, i, w => if (K 6 dd).toNatClampNeg < cntN (vcB K w) N then (if minR K N D L w (48 + dd) = -1 then rdL K N D L dd m (i + 1) (minR K N D L w) else Int32.ofNat i) else -1
theorem seek_no (hK : KN K N S D L) (hO : KO K N S D L) (hd : dd < D) : ∀ (m i : Nat) (w : Rw) (T : Nat), RI K N S T w → T + m < 100000 → w (48 + dd) = -1 → ¬ (K 6 dd).toNatClampNeg < cntN (vcB K w) N → seekR (minR K N D L) (fun _ w' => bR w' dd) m i w = -1 := by
  intro m
  induction m with
  | zero => intro i w T _ _ _ _; rfl
  | succ m ih =>
    intro i w T hR hT hw hn
    have h1 : minR K N D L w (48 + dd) = -1 := Classical.byContradiction fun z => hn (rd_enough hK hO hR hd hw z)
    rw [seekR_f (by unfold bR; simp only [h1, decide_true, Bool.not_true])]
    refine ih _ _ (T + 1) (RI_min hK hO hR (by omega)) (by omega) h1 ?_
    have := cnt_mono (b := vcB K (minR K N D L w)) (b' := vcB K w) N (fun j hj hb => vc_step hK hO hR hj hb)
    omega
theorem rdL_seek (hK : KN K N S D L) (hO : KO K N S D L) (hd : dd < D) : ∀ (m i : Nat) (w : Rw) (T : Nat), RI K N S T w → T + m < 100000 → w (48 + dd) = -1 → rdL K N D L dd m i w = seekR (minR K N D L) (fun _ w' => bR w' dd) m i w := by
  intro m
  induction m with
  | zero => intro i w T _ _ _; rfl
  | succ m ih =>
    intro i w T hR hT hw
    by_cases h : (K 6 dd).toNatClampNeg < cntN (vcB K w) N
    · unfold rdL
      rw [if_pos h]
      by_cases h1 : minR K N D L w (48 + dd) = -1
      · rw [if_pos h1, seekR_f (by unfold bR; simp only [h1, decide_true, Bool.not_true])]
        exact ih _ _ (T + 1) (RI_min hK hO hR (by omega)) (by omega) h1
      · rw [if_neg h1, seekR_t (by unfold bR; simp only [h1, decide_false, Bool.not_false])]
    · rw [seek_no hK hO hd (m + 1) i w T hR hT hw h]
      unfold rdL
      rw [if_neg h]
end PLANP
