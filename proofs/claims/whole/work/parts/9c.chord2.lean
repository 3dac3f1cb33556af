/-! ===== chord: the class, by kettles and by roots ===== -/
def ntV (K : Kt) (dd root i : Nat) : Nat := if i = 0 then root else root + (K 7 (dd * 3 + i - 1)).toNatClampNeg
section CHORD2
variable {d : Nat} {t : List px_E} {g : hG} {n N S D L T cn sn : Nat} {r6 r7 r8 : Rw} {x : Int32}
theorem tuneR_b {K : Kt} {w : Rw} {j : Nat} {v : Int32} : ∀ (m f : Nat) (b : Int32), f + m ≤ 41 → (b = -1 ∨ ∃ u : Nat, u ≤ 40 ∧ b = Int32.ofNat u) → (tuneR K w j v m f b = -1 ∨ ∃ u : Nat, u ≤ 40 ∧ tuneR K w j v m f b = Int32.ofNat u) := by
  intro m
  induction m with
  | zero => intro f b _ h; exact h
  | succ m ih =>
    intro f b hf h
    unfold tuneR
    apply ih _ _ (by omega)
    repeat' split
    · exact Or.inr ⟨f, by omega, rfl⟩
    · exact Or.inr ⟨f, by omega, rfl⟩
    · exact h
    · exact h
theorem tunedR_b {K : Kt} {w : Rw} {j : Nat} {v : Int32} (hs : 1 ≤ (K 2 j).toInt ∧ (K 2 j).toInt ≤ 40) : tunedR K w j v = -1 ∨ ∃ u : Nat, u ≤ 40 ∧ tunedR K w j v = Int32.ofNat u := by
  unfold tunedR
  split
  · exact Or.inl rfl
  · have := ii_clamp (a := K 2 j)
    exact tuneR_b _ _ _ (by omega) (Or.inl rfl)
theorem abs_n {K : Kt} {w : Rw} {j : Nat} {v : Int32} (hs : 1 ≤ (K 2 j).toInt ∧ (K 2 j).toInt ≤ 40) (hf : 0 ≤ (w (16 + j)).toInt ∧ (w (16 + j)).toInt ≤ 40) (h : ¬ tunedR K w j v = -1) : px_abs (tunedR K w j v - w (16 + j)) = Int32.ofNat (px_abs (tunedR K w j v - w (16 + j))).toNatClampNeg ∧ (px_abs (tunedR K w j v - w (16 + j))).toNatClampNeg ≤ 40 := by
  rcases tunedR_b (w := w) (v := v) hs with e | ⟨u, hu, e⟩
  · exact absurd e h
  · rw [e]
    have e1 := abs_f (f := u) (x := w (16 + j)) hu hf.1 hf.2
    have e2 := ii_clamp (a := px_abs (Int32.ofNat u - w (16 + j)))
    constructor
    · exact (ii_nat (by rw [e1]; split <;> omega)).symm
    · rw [e1] at e2; split at e2 <;> omega
theorem coV_b {K : Kt} {w : Rw} {k v : Nat} (hs : 1 ≤ (K 2 k).toInt ∧ (K 2 k).toInt ≤ 40) (hf : 0 ≤ (w (16 + k)).toInt ∧ (w (16 + k)).toInt ≤ 40) : coV K w k v ≤ 40 ∨ coV K w k v = 1000000 := by
  unfold coV
  split
  · exact Or.inr rfl
  · split
    · exact Or.inr rfl
    · exact Or.inl (abs_n hs hf (by assumption)).2
set_option maxHeartbeats 2000000 in
theorem c_cupsTo {k v : Nat} (hk : k < 8) (hv : v ≤ 100) (hs : 1 ≤ (kC g 2 k).toInt ∧ (kC g 2 k).toInt ≤ 40) (hf : 0 ≤ (g.1 29 (16 + k)).toInt ∧ (g.1 29 (16 + k)).toInt ≤ 40) :
    bc (d + 2) M_X8_cupsTo none 0 [some (.ref 45), some (.ref 16), some (.ref 29), some (.int (Int32.ofNat k)), some (.int (Int32.ofNat v)), none] [] (hp t g) cn sn = some (.inl (some (.int (Int32.ofNat (coV (kC g) (g.1 29) k v)))), hp t g, cn, sn) := by
  unfold coV
  by_cases h1 : 60 < v
  · rw [if_pos h1]
    simp (disch := omega) only [st_X8_cupsTo_0, st_X8_cupsTo_2, st_X8_cupsTo_4, st_X8_cupsTo_7, st_X8_cupsTo_8, st_X8_cupsTo_20, st_X8_cupsTo_22, st_X8_cupsTo_24, st_X8_cupsTo_25, st_X8_cupsTo_28, st_X8_cupsTo_30, st_X8_cupsTo_45, nn_g60, h1, if_true, lc_r, lc_i, lc_n, Nat.reduceAdd]
    rfl
  · rw [if_neg h1]
    have e := c_near (d := d) (t := t) (cn := 0) (sn := 0) (v := Int32.ofNat v) hk hs hf
    by_cases h2 : tunedR (kC g) (g.1 29) k (Int32.ofNat v) = -1
    · rw [if_pos h2]
      rw [h2] at e
      simp (disch := omega) only [st_X8_cupsTo_0, st_X8_cupsTo_2, st_X8_cupsTo_4, st_X8_cupsTo_11, st_X8_cupsTo_12, st_X8_cupsTo_13, st_X8_cupsTo_14, st_X8_cupsTo_15, st_X8_cupsTo_20, st_X8_cupsTo_22, st_X8_cupsTo_24, st_X8_cupsTo_25, st_X8_cupsTo_28, st_X8_cupsTo_30, st_X8_cupsTo_45, st_X8_cupsTo_17 (p := 45) hq_45 ps_, nn_g60, h1, if_false, e, if_true, bC_inl, Option.toList, List.cons_append, List.nil_append, Nat.add_zero, lc_r, lc_i, lc_n, Nat.reduceAdd]
      rfl
    · rw [if_neg h2, ← (abs_n hs hf h2).1]
      simp (disch := omega) only [st_X8_cupsTo_0, st_X8_cupsTo_2, st_X8_cupsTo_4, st_X8_cupsTo_11, st_X8_cupsTo_12, st_X8_cupsTo_13, st_X8_cupsTo_14, st_X8_cupsTo_15, st_X8_cupsTo_20, st_X8_cupsTo_22, st_X8_cupsTo_24, st_X8_cupsTo_25, st_X8_cupsTo_33, st_X8_cupsTo_35, st_X8_cupsTo_36, st_X8_cupsTo_38, st_X8_cupsTo_39, st_X8_cupsTo_40, st_X8_cupsTo_41, st_X8_cupsTo_42, st_X8_cupsTo_45, st_X8_cupsTo_17 (p := 45) hq_45 ps_, nn_g60, h1, if_false, e, h2, bM_some, bP_some, m1_, ha_29, nn_16, nn_out, nn_clamp, cond_false, bC_inl, Option.toList, List.cons_append, List.nil_append, Nat.add_zero, lc_r, lc_i, lc_n, Nat.reduceAdd]
set_option maxHeartbeats 4000000 in
/-- what kettle k costs, note by note -/
theorem cf_in {nt : Nat → Nat} {k : Nat} (hK : KN (kC g) N S D L) (hO : KO (kC g) N S D L) (hR' : RI (kC g) N S T (g.1 29)) (hn : n ≤ 4) (hk : k < N) (hnt : ∀ i, i < n → r6 i = Int32.ofNat (nt i) ∧ nt i ≤ 100) (a4 : Option Value) : ∀ m i : Nat, i + m = n → ∀ r7 : Rw, (∀ e, e < i → r7 e = Int32.ofNat (coV (kC g) (g.1 29) k (nt e))) → ∃ (c7 : Rw) (b6 : Option Value), (∀ e, e < n → c7 e = Int32.ofNat (coV (kC g) (g.1 29) k (nt e))) ∧
    bc (d + 3) M_X8_cupsFor none 38 [some (.ref 45), some (.ref 16), some (.ref 29), some (.int (Int32.ofNat n)), a4, some (.int (Int32.ofNat k)), some (.int (Int32.ofNat i))] [] (hp t (gNt g r6 r7 r8)) cn sn =
    bc (d + 3) M_X8_cupsFor none 72 [some (.ref 45), some (.ref 16), some (.ref 29), some (.int (Int32.ofNat n)), a4, some (.int (Int32.ofNat k)), b6] [] (hp t (gNt g r6 c7 r8)) cn sn := by
  have h8 := hK.2.1
  have hs := (hO.1 k hk).1
  have hf := (hR'.1 k hk).2.2.1
  intro m
  induction m with
  | zero =>
    intro i hi r7 h7
    refine ⟨r7, some (.int (Int32.ofNat i)), fun e he => h7 e (by omega), ?_⟩
    rw [st_X8_cupsFor_38]
    simp (disch := omega) only [st_X8_cupsFor_40, st_X8_cupsFor_41, nn_lt, show ¬ i < n by omega, if_false, Nat.reduceAdd]
  | succ m ih =>
    intro i hi r7 h7
    have q := hnt i (by omega)
    have ec := c_cupsTo (d := d) (t := t) (g := gNt g r6 r7 r8) (cn := 0) (sn := 0) (k := k) (v := nt i) (by omega) q.2 hs ⟨hf.1, Int.le_trans hf.2 hs.2⟩
    rw [show kC (gNt g r6 r7 r8) = kC g from rfl, gNt_29] at ec
    obtain ⟨c7, b6, e1, e2⟩ := ih (i + 1) (by omega) (upd r7 i (Int32.ofNat (coV (kC g) (g.1 29) k (nt i)))) (fun e he => by
      rw [upd_at]
      split
      · next h => rw [h]
      · exact h7 e (by omega))
    refine ⟨c7, b6, e1, ?_⟩
    rw [← e2, st_X8_cupsFor_38]
    simp (disch := omega) only [st_X8_cupsFor_40, st_X8_cupsFor_41, st_X8_cupsFor_44, st_X8_cupsFor_45, st_X8_cupsFor_48, st_X8_cupsFor_50, st_X8_cupsFor_51, st_X8_cupsFor_52, st_X8_cupsFor_53, st_X8_cupsFor_55, st_X8_cupsFor_56, st_X8_cupsFor_59, st_X8_cupsFor_61, st_X8_cupsFor_65, st_X8_cupsFor_66, st_X8_cupsFor_69, st_X8_cupsFor_62 (p := 45) hq_45 ps_ir, nn_lt, show i < n by omega, if_true, bM_some, hg_45_0, hg_45_1, ha_46, hw_47, gNt_46, gNt_7, q.1, ec, nn_out, nn_clamp, cond_false, bC_inl, Option.toList, List.cons_append, List.nil_append, Nat.add_zero, lc_r, lc_i, nn_r1, Nat.reduceAdd]
set_option maxHeartbeats 4000000 in
theorem cf_out {nt : Nat → Nat} (hK : KN (kC g) N S D L) (hO : KO (kC g) N S D L) (hR' : RI (kC g) N S T (g.1 29)) (hn : n ≤ 4) (hnt : ∀ i, i < n → r6 i = Int32.ofNat (nt i) ∧ nt i ≤ 100) : ∀ m k : Nat, k + m = N → ∀ (r7 r8 : Rw) (cu : Nat → Nat) (a6 : Option Value), (∀ t, cu t ≤ 1000000) → (∀ t, t < 16 → r8 t = Int32.ofNat (cu t)) → (∀ t, t < 2 ^ n → Best (WS n 1000000 (fun i k => coV (kC g) (g.1 29) k (nt i)) k t) 1000000 (cu t)) → ∃ (c7 c8 : Rw) (v : Nat), Best (WS n 1000000 (fun i k => coV (kC g) (g.1 29) k (nt i)) N (2 ^ n - 1)) 1000000 v ∧
    bc (d + 3) M_X8_cupsFor none 26 [some (.ref 45), some (.ref 16), some (.ref 29), some (.int (Int32.ofNat n)), some (.int (Int32.ofNat (2 ^ n - 1))), some (.int (Int32.ofNat k)), a6] [] (hp t (gNt g r6 r7 r8)) cn sn = some (.inl (some (.int (Int32.ofNat v))), hp t (gNt g r6 c7 c8), cn, sn) := by
  have hN : g.1 16 10 = Int32.ofNat N := hK.1
  have h8 := hK.2.1
  have h16 := two_le hn
  have hp2 := two_pos n
  intro m
  induction m with
  | zero =>
    intro k hk r7 r8 cu a6 hle hr8 hB
    obtain rfl : k = N := by omega
    refine ⟨r7, r8, cu (2 ^ n - 1), hB _ (by omega), ?_⟩
    rw [st_X8_cupsFor_26]
    simp (disch := omega) only [st_X8_cupsFor_28, st_X8_cupsFor_29, st_X8_cupsFor_32, st_X8_cupsFor_83, st_X8_cupsFor_84, st_X8_cupsFor_87, st_X8_cupsFor_89, st_X8_cupsFor_90, bM_some, hg_16_10, hg_45_2, gNt_16, hN, nn_lt, Nat.lt_irrefl, if_false, ha_48, gNt_48, hr8, nn_out, nn_clamp, cond_false, Nat.reduceAdd]
  | succ m ih =>
    intro k hk r7 r8 cu a6 hle hr8 hB
    have hs := (hO.1 k (by omega)).1
    have hf := (hR'.1 k (by omega)).2.2.1
    have hcb : ∀ i, coV (kC g) (g.1 29) k (nt i) ≤ 1000000 := fun i => by
      rcases coV_b (v := nt i) hs (w := g.1 29) ⟨hf.1, Int.le_trans hf.2 hs.2⟩ with h | h <;> omega
    obtain ⟨c7, b6, e1, e2⟩ := cf_in (d := d) (t := t) (r8 := r8) (cn := cn) (sn := sn) hK hO hR' hn (k := k) (by omega) hnt (some (.int (Int32.ofNat (2 ^ n - 1)))) n 0 (by omega) r7 (fun e he => absurd he (Nat.not_lt_zero e))
    obtain ⟨c8, j1, j2, j3⟩ := c_join (d := d + 1) (t := t) (g := g) (r6 := r6) (r7 := c7) (r8 := r8) (cn := 0) (sn := 0) (co := fun i => coV (kC g) (g.1 29) k (nt i)) hn (fun i hi => ⟨e1 i hi, hcb i⟩) hle hr8
    obtain ⟨d7, d8, v, f1, f2⟩ := ih (k + 1) (by omega) c7 c8 _ b6 j2 j1 (jnO_WS (co := fun i k => coV (kC g) (g.1 29) k (nt i)) hn (fun i _ => hcb i) hB)
    refine ⟨d7, d8, v, f1, ?_⟩
    rw [← f2, st_X8_cupsFor_26]
    rw [show Int32.ofNat 0 = (0 : Int32) from rfl] at e2
    simp (disch := omega) only [st_X8_cupsFor_28, st_X8_cupsFor_29, st_X8_cupsFor_32, st_X8_cupsFor_35, st_X8_cupsFor_36, bM_some, hg_16_10, gNt_16, hN, nn_lt, show k < N by omega, if_true, lc_r, lc_i, Nat.reduceAdd]
    refine Eq.trans e2 ?_
    simp (disch := omega) only [st_X8_cupsFor_72, st_X8_cupsFor_73, st_X8_cupsFor_77, st_X8_cupsFor_80, st_X8_cupsFor_74 (p := 45) hq_45 ps_, j3, bC_inl, Option.toList, List.nil_append, Nat.add_zero, lc_r, lc_i, nn_r1, Nat.reduceAdd]
set_option maxHeartbeats 4000000 in
theorem c_cupsFor {nt : Nat → Nat} (hK : KN (kC g) N S D L) (hO : KO (kC g) N S D L) (hR' : RI (kC g) N S T (g.1 29)) (hn : n ≤ 4) (hnt : ∀ i, i < n → r6 i = Int32.ofNat (nt i) ∧ nt i ≤ 100) : ∃ (c7 c8 : Rw) (v : Nat), Best (WS n 1000000 (fun i k => coV (kC g) (g.1 29) k (nt i)) N (2 ^ n - 1)) 1000000 v ∧
    bc (d + 3) M_X8_cupsFor none 0 [some (.ref 45), some (.ref 16), some (.ref 29), some (.int (Int32.ofNat n)), none, none, none] [] (hp t (gNt g r6 r7 r8)) cn sn = some (.inl (some (.int (Int32.ofNat v))), hp t (gNt g r6 c7 c8), cn, sn) := by
  have h16 := two_le hn
  obtain ⟨c7, c8, v, e1, e2⟩ := cf_out (d := d) (t := t) (g := g) (r6 := r6) (cn := cn) (sn := sn) hK hO hR' hn hnt N 0 (by omega) r7 (upd (filF 1000000 16 0 r8) 0 0) (fun t => if t = 0 then 0 else 1000000) none (fun t => by split <;> omega) (fun t ht => by
      rw [upd_at]
      split
      · rfl
      · unfold filF; rw [if_pos (by omega)]; rfl) (fun t ht => by
      split
      · next h => exact Best_iff (fun x => by unfold WS; exact ⟨fun q => ⟨h, q⟩, fun q => q.2⟩) (Best_0 (by omega))
      · next h => exact Best_iff (fun x => by unfold WS; exact ⟨fun q => q.elim, fun q => h q.1⟩) Best_no)
  refine ⟨c7, c8, v, e1, Eq.trans ?_ e2⟩
  have ef := fill_48 (d := d + 2) (t := t) (g := gNt g r6 r7 r8) (cn := 0) (sn := 0) (x := 1000000)
  rw [gNt_8r, gNt_48] at ef
  rw [show Int32.ofNat 0 = (0 : Int32) from rfl]
  simp (disch := omega) only [st_X8_cupsFor_0, st_X8_cupsFor_1, st_X8_cupsFor_2, st_X8_cupsFor_3, st_X8_cupsFor_4, st_X8_cupsFor_5, st_X8_cupsFor_7, st_X8_cupsFor_8, st_X8_cupsFor_11, st_X8_cupsFor_16, st_X8_cupsFor_17, st_X8_cupsFor_20, st_X8_cupsFor_21, st_X8_cupsFor_22, st_X8_cupsFor_23, st_X8_cupsFor_24, st_X8_cupsFor_13 ps_, bit_shl n hn, bM_some, hg_45_2, ef, hw_48, gNt_8, nn_oc0, nn_c0, cond_false, bC_inl, Option.toList, List.nil_append, Nat.add_zero, lc_r, lc_i, lc_n, Nat.reduceAdd]
end CHORD2
