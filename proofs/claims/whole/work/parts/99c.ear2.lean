/-! ===== what fits, in the words of both ===== -/
def hAt (N : Nat) (row : Rw) (v : Int32) : Bool := if v = -1 then !sang N row else decide (sungR row v N 0 = 1)
/-- what is heard from place i on, of m, is so -/
def fitL (f : Rw → Rw) (N : Nat) (w hm hn : Rw) : Nat → Nat → Bool
  | 0, _ => true
  | m + 1, i => if hAt N (iterR f (hm i).toNatClampNeg w) (hn i) then fitL f N w hm hn m (i + 1) else false
section EAR2
variable {d : Nat} {t : List px_E} {g : hG} {j q N S D L T cn sn : Nat} {w v k hm hn : Rw} {s : Int32} {n : Int64} {x y : Int32} {K : Kt} {F : Nat → Int64}
theorem notes_0 : ∀ m : Nat, cntN (bS w) m = 0 → notesN w m = 0 := by
  intro m
  induction m with
  | zero => intro _; rfl
  | succ m ih =>
    intro h
    unfold cntN at h
    unfold notesN
    cases hb : bS w m with
    | true => rw [hb, cond_true] at h; omega
    | false =>
      rw [hb, cond_false] at h
      unfold bS at hb
      rw [Bool.not_eq_false', decide_eq_true_eq] at hb
      rw [if_pos hb]
      exact ih h
theorem cnt_pos : ∀ m : Nat, ¬ cntN (bS w) m = 0 → ∃ j, j < m ∧ ¬ w (40 + j) = -1 := by
  intro m
  induction m with
  | zero => intro h; exact absurd rfl h
  | succ m ih =>
    intro h
    by_cases hz : w (40 + m) = -1
    · have hb : bS w m = false := by unfold bS; rw [decide_eq_true hz]; rfl
      unfold cntN at h
      rw [hb, cond_false, Nat.add_zero] at h
      obtain ⟨j, h1, h2⟩ := ih h
      exact ⟨j, by omega, h2⟩
    · exact ⟨m, by omega, hz⟩
theorem notes_iff (hb : ∀ j, j < N → -1 ≤ (w (40 + j)).toInt ∧ (w (40 + j)).toInt ≤ 60) : notesN w N = 0 ↔ cntN (bS w) N = 0 := by
  constructor
  · intro h
    apply Classical.byContradiction
    intro z
    obtain ⟨j, hj, hne⟩ := cnt_pos N z
    have hbj := hb j hj
    rw [ii_eq, ti_m1] at hne
    have h0 : 0 ≤ (w (40 + j)).toInt := by omega
    have e1 := ii_clamp (a := w (40 + j))
    have := (tb_notes N hb (w (40 + j)).toNatClampNeg (by omega)).mpr ⟨j, hj, (ii_nat h0).symm⟩
    rw [h, tb_zero] at this
    cases this
  · exact notes_0 N
theorem shr_bit {u : Nat} {a : Int64} (hu : u < 61) : (shr a (Int32.ofNat u) &&& 1 = 1) ↔ tb a u = true := by
  have h1 : ∀ i : Nat, i < 64 → tb 1 i = decide (i = 0) := by unfold tb; decide +kernel
  have e : ∀ i, i < 64 → tb (shr a (Int32.ofNat u) &&& 1) i = (decide (i = 0) && tb a u) := by
    intro i hi
    rw [tb_and, tb_shr (by omega), h1 i hi]
    by_cases h0 : i = 0
    · subst h0; rw [Nat.add_zero, decide_eq_true rfl, Bool.and_true, Bool.true_and]
    · rw [decide_eq_false h0, Bool.and_false, Bool.false_and]
  constructor
  · intro h
    have := e 0 (by omega)
    rw [h, h1 0 (by omega), decide_eq_true rfl, Bool.true_and] at this
    exact this.symm
  · intro h
    apply tb_ext
    intro i hi
    rw [e i hi, h, Bool.and_true, h1 i hi]
theorem soB_at (hb : ∀ j, j < N → -1 ≤ (w (40 + j)).toInt ∧ (w (40 + j)).toInt ≤ 60) (hx : -1 ≤ x.toInt ∧ x.toInt ≤ 60) : ((if x = -1 then notesN w N = 0 else shr (notesN w N) x &&& 1 = 1) ↔ hAt N w x = true) := by
  unfold hAt
  by_cases h : x = -1
  · rw [if_pos h, if_pos h, notes_iff hb]
    unfold sang
    rw [Bool.not_not, decide_eq_true_eq]
  · rw [if_neg h, if_neg h]
    rw [ii_eq, ti_m1] at h
    have h0 : 0 ≤ x.toInt := by omega
    have e1 := ii_clamp (a := x)
    have ex : x = Int32.ofNat x.toNatClampNeg := (ii_nat h0).symm
    generalize x.toNatClampNeg = u at *
    subst ex
    rw [shr_bit (by omega), sung_tb hb (by omega), decide_eq_true_eq]
    constructor
    · intro q; rw [if_pos q]
    · intro q
      apply Classical.byContradiction
      intro z
      rw [if_neg z] at q
      exact absurd q (by decide)
theorem minR_nb (hK : KN K N S D L) (hO : KO K N S D L) : ∀ j, j < N → -1 ≤ (minR K N D L w (40 + j)).toInt ∧ (minR K N D L w (40 + j)).toInt ≤ 60 := by
  intro j hj
  have h8 := hK.2.1
  rw [minR_sg hK hO hj]
  exact voice_nb (K := K) N 0 (warmL K N w) (by omega) (fun i hi => absurd hi (Nat.not_lt_zero _)) j (by omega)
theorem iterR_last {f : Rw → Rw} : ∀ (m : Nat) (w : Rw), iterR f (m + 1) w = f (iterR f m w) := by
  intro m
  induction m with
  | zero => intro w; rfl
  | succ m ih => intro w; rw [show iterR f (m + 1 + 1) w = iterR f (m + 1) (f w) from rfl, ih (f w)]; rfl
theorem soB_fit (hK : KN K N S D L) (hO : KO K N S D L) (hb : ∀ i, i < q → (1 ≤ (hm i).toInt ∧ (hm i).toInt ≤ 60) ∧ (-1 ≤ (hn i).toInt ∧ (hn i).toInt ≤ 60)) : ∀ m i : Nat, i + m = q → soB (chL (minR K N D L) N 60 1 w F) hm hn m i = fitL (minR K N D L) N w hm hn m i := by
  intro m
  induction m with
  | zero => intro i _; rfl
  | succ m ih =>
    intro i hi
    obtain ⟨b1, b2⟩ := hb i (by omega)
    have hc := ii_clamp (a := hm i)
    have hrow : chL (minR K N D L) N 60 1 w F (hm i).toNatClampNeg = notesN (iterR (minR K N D L) (hm i).toNatClampNeg w) N := by
      rw [chL_at, if_pos (by omega), show (hm i).toNatClampNeg - 1 + 1 = (hm i).toNatClampNeg by omega]
    have hbn : ∀ j, j < N → -1 ≤ (iterR (minR K N D L) (hm i).toNatClampNeg w (40 + j)).toInt ∧ (iterR (minR K N D L) (hm i).toNatClampNeg w (40 + j)).toInt ≤ 60 := by
      obtain ⟨u, hu⟩ : ∃ u, (hm i).toNatClampNeg = u + 1 := ⟨(hm i).toNatClampNeg - 1, by omega⟩
      rw [hu, iterR_last]
      exact minR_nb hK hO
    have key := soB_at (x := hn i) hbn b2
    unfold soB fitL
    rw [ih (i + 1) (by omega)]
    simp only [hrow]
    by_cases h : hAt N (iterR (minR K N D L) (hm i).toNatClampNeg w) (hn i) = true
    · rw [if_pos (key.mpr h), if_pos h]
    · rw [if_neg (fun z => h (key.mp z)), if_neg h]
set_option maxHeartbeats 4000000 in
theorem c_fits (hK : KN (kC g) N S D L) (hO : KO (kC g) N S D L) (hq8 : q ≤ 8) (hH : g.1 34 2 = Int32.ofNat q) (hb : ∀ i, i < q → (1 ≤ (g.1 35 i).toInt ∧ (g.1 35 i).toInt ≤ 60) ∧ (-1 ≤ (g.1 36 i).toInt ∧ (g.1 36 i).toInt ≤ 60)) (hz : Z54 w) : ∃ (w' : Rw) (s' : Int32) (n' : Int64) (v' k' : Rw), Z54 w' ∧
    bc (d + 4) M_X1_fits none 0 [some (.ref 37), some (.ref 16), some (.ref 34), none, none, none, none, none] [] (hp t (gP (hQ g 39 F) 38 w s n v k)) cn sn = some (.inl (some (.int (bif fitL (minR (kC g) N D L) N w (g.1 35) (g.1 36) q 0 then 1 else 0))), hp t (gP (hQ g 39 (chL (minR (kC g) N D L) N 60 1 w F)) 38 w' s' n' v' k'), cn, sn) := by
  obtain ⟨w', s', n', v', k', b3, hz', e⟩ := c_fits_1 (d := d) (t := t) (cn := cn) (sn := sn) hK hO none none none none 60 1 (by omega) w s n v k F hz
  refine ⟨w', s', n', v', k', hz', ?_⟩
  have e2 := c_fits_2 (d := d) (t := t) (g := g) (F := chL (minR (kC g) N D L) N 60 1 w F) (w := w') (s := s') (n := n') (v := v') (k := k') (cn := cn) (sn := sn) hq8 hH (fun i hi => (hb i hi).1) q 0 (by omega) none none none none
  rw [soB_fit hK hO hb q 0 (by omega)] at e2
  rw [show Int32.ofNat 1 = (1 : Int32) from rfl] at e
  rw [show Int32.ofNat 0 = (0 : Int32) from rfl] at e2
  simp only [st_X1_fits_0, st_X1_fits_1, lc_r, lc_n, Nat.reduceAdd]
  rw [e]
  simp only [st_X1_fits_32, st_X1_fits_33, lc_r, lc_n, Nat.reduceAdd]
  exact e2
end EAR2
