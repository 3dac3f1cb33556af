/-! ===== restore and kitchen: side by side ===== -/
section KITCHEN2
variable {N S D L n q T n' q' T' : Nat} {ac ac' : Nat → Rw} {o : Option Im} {t t1 : List px_E} {g g1 g2 G B gc : hG} {w w' a k f : Rw} {v x y : Int32} {K : Kt}
theorem kC_esC' (h : ∀ c j, 16 ≤ c → c ≤ 26 → g1.1 c j = g.1 c j) : kC g1 = kC g := by
  funext c j
  unfold kC
  split
  all_goals first
    | rfl
    | (exact h _ _ (by omega) (by omega))
    | (split <;> exact h _ _ (by omega) (by omega))
theorem gbk_at {R A M Q s : Rw} {f m n : Int32} {c j : Nat} (h : ¬ c = 29 ∧ ¬ (31 ≤ c ∧ c ≤ 36) ∧ ¬ (c = 37 ∧ j = 4) ∧ ¬ (c = 41 ∧ j = 4)) : (gC (gbk g R A f m M Q n s)).1 c j = g.1 c j := by
  unfold gC gbk
  rw [hI_at, if_neg (by omega), hI_at, if_neg (by omega), hR_at, if_neg (by omega), hI_at, if_neg (by omega), hR_at, if_neg (by omega), hR_at, if_neg (by omega), hI_at, if_neg (by omega), hI_at, if_neg (by omega), hR_at, if_neg (by omega), hR_at, if_neg (by omega)]
theorem unp_cp {F F' : Rw} {i j : Nat} (hi : i < 40) (hj : j < 54) : unpR (cpN F F' 2160) (54 * i) j = unpR F (54 * i) j := by
  unfold unpR cpN
  split
  · exact if_pos (by omega)
  · exact if_pos (by omega)
theorem RelP_res {o : Im} (H : RelP N S D L n q T ac (some o) t g) {R A M Q s : Rw} {f m n0 : Int32} (hz : Z54 R) (gi : GIm (kC g) N S R A f m M Q n0 s o) : RelP N S D L o.1 o.2.1 T o.2.2.1 (some o) t (gM (gRe (gC (gbk g R A f m M Q n0 s))) (unpR ((gC (gbk g R A f m M Q n0 s)).1 83) 0) a k) := by
  obtain ⟨i1, i2, ⟨i3, i3', i3''⟩, i4, i5, i6⟩ := gi
  have hE : ∀ c j, ¬ c = 29 → ¬ (31 ≤ c ∧ c ≤ 36) → ¬ (c = 37 ∧ j = 4) → ¬ (c = 41 ∧ j = 4) → (gC (gbk g R A f m M Q n0 s)).1 c j = g.1 c j := fun c j h1 h2 h3 h4 => gbk_at ⟨h1, h2, h3, h4⟩
  have e29 : (gC (gbk g R A f m M Q n0 s)).1 29 = R := (show _ = va_cpy R (g.1 29) 0 0 54 from rfl).trans (cp54' hz (r_z H))
  have e35 : (gC (gbk g R A f m M Q n0 s)).1 35 = va_cpy M (g.1 35) 0 0 8 := rfl
  have e36 : (gC (gbk g R A f m M Q n0 s)).1 36 = va_cpy Q (g.1 36) 0 0 8 := rfl
  have e31 : (gC (gbk g R A f m M Q n0 s)).1 31 = va_cpy s (g.1 31) 0 0 3 := rfl
  have e33 : (gC (gbk g R A f m M Q n0 s)).1 33 = va_cpy A (g.1 33) 0 0 2160 := rfl
  have eK : kC (gC (gbk g R A f m M Q n0 s)) = kC g := kC_esC' (fun c j h1 h2 => hE c j (by omega) (by omega) (by omega) (by omega))
  have h40 := i2.1.1
  have hc : CI N S D L o.1 o.2.1 T o.2.2.1 (gC (gbk g R A f m M Q n0 s)) := by
    refine CI_act H.1 (fun c j h => hE c j (by unfold esC at h; omega) (by unfold esC at h; omega) (by unfold esC at h; omega) (by unfold esC at h; omega)) (by rw [e29]; exact i1) (by rw [e29]; exact hz) ?_ i2.2 ⟨i3, i3', fun i hi => ?_⟩ (fun dd hd h => ?_) (Or.inl rfl)
    · obtain ⟨h1, f', h2, h3, h4, h5⟩ := i2.1
      refine ⟨h1, f', h2, h3, h4, fun i hi j hj => ?_⟩
      rw [e33, cpy_lt (by have := Nat.mod_lt (f' + i) (show 0 < 40 by omega); omega)]
      exact h5 i hi j hj
    · rw [e35, e36, cpy_lt (by omega), cpy_lt (by omega)]
      exact i3'' i hi
    · have h5 := (r_K H).2.2.2.2.2.1
      exact absurd (show (-1 : Int32) = Int32.ofNat dd from h) (ofN_m1 (by omega))
  obtain ⟨-, ⟨m1, m2, m3, m4, m5, m6, m7, m8, m9⟩, ic, im⟩ := H
  have im' := im
  obtain ⟨j0, j1, j2, j3, j4, j5, j6⟩ := im
  generalize hG1 : gC (gbk g R A f m M Q n0 s) = g1 at *
  have hM : ∀ c j, ¬ (c = 49 ∧ (j = 33 ∨ j = 2 ∨ j = 34 ∨ j = 35)) → ¬ c = 71 → ¬ c = 78 → ¬ c = 79 → ¬ c = 62 → ¬ (64 ≤ c ∧ c ≤ 70) → ¬ c = 72 → ¬ c = 73 → (gM (gRe g1) (unpR (g1.1 83) 0) a k).1 c j = g1.1 c j := by
    intro c j h1 h2 h2' h2'' h2''' h3 h4 h5
    unfold gM mA gRe
    dsimp only
    rw [if_neg h4, if_neg h5, if_neg (by omega), if_neg (by omega), if_neg (by omega), hR_at, if_neg (by omega), hR_at, if_neg (by omega), hR_at, if_neg (by omega), hR_at, if_neg (by omega), hI_at, if_neg (by omega), hI_at, if_neg (by omega), hI_at, if_neg (by omega)]
  have e83 : g1.1 83 = g.1 83 := funext fun j => hE 83 j (by omega) (by omega) (by omega) (by omega)
  have e84 : g1.1 84 = g.1 84 := funext fun j => hE 84 j (by omega) (by omega) (by omega) (by omega)
  have e85 : g1.1 85 = g.1 85 := funext fun j => hE 85 j (by omega) (by omega) (by omega) (by omega)
  have e86 : g1.1 86 = g.1 86 := funext fun j => hE 86 j (by omega) (by omega) (by omega) (by omega)
  have e87 : g1.1 87 = g.1 87 := funext fun j => hE 87 j (by omega) (by omega) (by omega) (by omega)
  refine RelP_join (g1 := g1) (fun c j h => hM c j (by omega) (by omega) (by omega) (by omega) (by omega) (by omega) (by omega) (by omega)) hc ?_ ?_ ⟨?_, ?_⟩ ?_ ?_ ?_ ?_ ?_ ?_ ?_ ?_
  · rw [eK]; exact MK_cong (fun c j h1 h2 => (hM c j (by omega) (by omega) (by omega) (by omega) (by omega) (by omega) (by omega) (by omega)).trans (hE c j (by omega) (by omega) (by omega) (by omega))) m1
  · intro j hj; rw [mrow_gM hj, e29, e83, j1 j hj, i4 j hj]
  · show g1.1 49 51 = _
    rw [hE 49 51 (by omega) (by omega) (by omega) (by omega)]; exact j2
  · intro i hi j hj
    show unpR (cpN (g1.1 84) (g1.1 71) 2160) (54 * i) j = _
    rw [unp_cp (by omega) hj, e84]; exact j3 i hi j hj
  · show g1.1 49 52 = _
    rw [hE 49 52 (by omega) (by omega) (by omega) (by omega)]; exact j4
  · intro i hi
    show cpN (g1.1 85) (g1.1 78) 8 i = _ ∧ cpN (g1.1 86) (g1.1 79) 8 i = _
    rw [e35, e36, cpy_lt (by omega), cpy_lt (by omega), ← (i5 i hi).1, ← (i5 i hi).2, e85, e86]
    unfold cpN
    rw [if_pos (by omega), if_pos (by omega)]
    exact j5 i hi
  · intro i hi
    show cpN (g1.1 87) (g1.1 62) 3 i = _
    rw [e31, cpy_lt hi, ← i6 i hi, e87]
    unfold cpN
    rw [if_pos hi]
    exact j6 i hi
  · rw [hM 49 15 (by omega) (by omega) (by omega) (by omega) (by omega) (by omega) (by omega) (by omega), hE 49 15 (by omega) (by omega) (by omega) (by omega)]; exact m7
  · rw [show (gM (gRe g1) (unpR (g1.1 83) 0) a k).1 63 = g.1 63 from funext fun j => (hM 63 j (by omega) (by omega) (by omega) (by omega) (by omega) (by omega) (by omega) (by omega)).trans (hE 63 j (by omega) (by omega) (by omega) (by omega)), show g1.1 2 = g.1 2 from funext fun j => hE 2 j (by omega) (by omega) (by omega) (by omega)]; exact m8
  · rw [hM 49 24 (by omega) (by omega) (by omega) (by omega) (by omega) (by omega) (by omega) (by omega), hE 49 24 (by omega) (by omega) (by omega) (by omega), hE 1 3 (by omega) (by omega) (by omega) (by omega)]; exact m9
  · rw [eK, hE 0 11 (by omega) (by omega) (by omega) (by omega)]
    show IC (kC g) N S (some o) t (g1.2.2 0 10) (g1.2.2 37 3) (g.1 0 11)
    rw [← hG1]; exact ic
  · exact IM_cong (fun c j h => (hM c j (by omega) (by omega) (by omega) (by omega) (by omega) (by omega) (by omega) (by omega)).trans (hE c j (by omega) (by omega) (by omega) (by omega))) im'
theorem rl_restore (H : RelP N S D L n q T ac o t g) : OkD (fun h => bc 99 M_X9_restore none 0 [some (.ref 0)] [] h 0 0) (fun h => bc 99 M_X10_restore none 0 [some (.ref 49)] [] h 0 0) t g := by
  cases o with
  | none =>
    have h0 : g.1 0 11 = 0 := H.2.2.1.1
    refine okD_q H (Fr_rf H) (c_restore_n (d := 99) h0) (fun G HG hM hw hE => ?_)
    have e := m_restore_n (d := 98) (t := t) (g := G) (cn := 0) (sn := 0) (w := g.1 29) (a := G.1 72) (k := G.1 73) HG.2.2.2
    rw [r_gM hw] at e
    exact ⟨_, e, frm_1 HG hw⟩
  | some o =>
    obtain ⟨h0, R, A, f, m, M, Q, n0, s, hz, h, gi⟩ := H.2.2.1
    have hF : FrK g (gC (gbk g R A f m M Q n0 s)) := fun c j h => gbk_at (by omega)
    have j0 : g.1 49 50 = 1 := H.2.2.2.1
    have e2 := m_restore_y (d := 98) (t := t) (g := gC (gbk g R A f m M Q n0 s)) (cn := 0) (sn := 0) (w := g.1 29) (a := g.1 72) (k := g.1 73) ((hF 49 50 (by omega)).trans j0)
    have hg : gM (gC (gbk g R A f m M Q n0 s)) (g.1 29) (g.1 72) (g.1 73) = gC (gbk g R A f m M Q n0 s) := r_gM (g := gC (gbk g R A f m M Q n0 s)) (fun i hi => by rw [FrK_mrow hF, r_w H i hi])
    rw [hg] at e2
    have e1 : bc 99 M_X9_restore none 0 [some (.ref 0)] [] (hp t g) 0 0 = some (.inl (some (.int 1)), hp t (gC (gbk g R A f m M Q n0 s)), 0, 0) := by
      rcases h with ⟨h1, h2, h3⟩ | ⟨U, h1, h2, h3⟩ | ⟨U, h1, h2, h3⟩
      · rw [h3]; exact c_restore89 (d := 96) h1 h0
      · rw [h3]; exact c_restore90 (d := 96) h1 h0
      · rw [h3]; exact c_restore89 (d := 96) h1 h0
    exact ⟨_, t, _, _, 0, 0, e1, e2, RelP_rel (RelP_res H hz gi), by omega, by omega⟩
end KITCHEN2
