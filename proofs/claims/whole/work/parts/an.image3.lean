/-! ===== feed, image, restore: side by side ===== -/
section IMAGE3
variable {N S D L n q T n' q' T' : Nat} {ac ac' : Nat → Rw} {o : Option Im} {t t1 : List px_E} {g g1 g2 G B : hG} {w w' a k f : Rw} {v x y : Int32} {K : Kt}
/-- nothing of the class but cells 0, 1 and 2 is touched -/
theorem CI_low (H : CI N S D L n q T ac g) (hE : ∀ c j, c < 49 → 2 < c → g1.1 c j = g.1 c j) (hT : g1.1 1 2 = Int32.ofNat T' ∧ T' ≤ 600) : CI N S D L n q T' ac g1 := by
  have r : ∀ c, c < 49 → 2 < c → g1.1 c = g.1 c := fun c h1 h2 => funext fun j => hE c j h1 h2
  have eK : kC g1 = kC g := by
    funext c j
    unfold kC
    split
    all_goals first
      | rfl
      | (exact hE _ _ (by omega) (by omega))
      | (split <;> exact hE _ _ (by omega) (by omega))
  obtain ⟨c1, c2, c3, c4, c5, c6, c7, c8, c9, c10, c11, c12⟩ := H
  unfold CI cA
  unfold cA at c8
  rw [eK, r 29 (by omega) (by omega), r 30 (by omega) (by omega), r 38 (by omega) (by omega), r 42 (by omega) (by omega), r 32 (by omega) (by omega), r 33 (by omega) (by omega), r 34 (by omega) (by omega), r 35 (by omega) (by omega), r 36 (by omega) (by omega), r 41 (by omega) (by omega), r 44 (by omega) (by omega), r 37 (by omega) (by omega)]
  exact ⟨c1, c2, c3, c4, c5, c6, c7, c8, c9, hT, c11, c12⟩
theorem kC_low (hE : ∀ c j, c < 49 → 2 < c → g1.1 c j = g.1 c j) : kC g1 = kC g := by
  funext c j
  unfold kC
  split
  all_goals first
    | rfl
    | (exact hE _ _ (by omega) (by omega))
    | (split <;> exact hE _ _ (by omega) (by omega))
theorem rl_feed (H : RelP N S D L n q T ac o t g) (x1 x2 x3 x4 x5 : Int32) : OkD (fun h => bc 99 M_X9_feed none 0 [some (.ref 0), some (.int x1), some (.int x2), some (.int x3), some (.int x4), some (.int x5)] [] h 0 0) (fun h => bc 99 M_X10_feed none 0 [some (.ref 49), some (.int x1), some (.int x2), some (.int x3), some (.int x4), some (.int x5), none, none] [] h 0 0) t g := by
  have hT : g.1 1 2 = Int32.ofNat T ∧ T ≤ 600 := H.1.2.2.2.2.2.2.2.2.2.1
  have mT : g.1 49 15 = Int32.ofNat T := H.2.1.2.2.2.2.2.2.1
  by_cases hn : T + 20 ≤ 600
  · have e := c_feed_y (d := 98) (t := t) (cn := 0) (sn := 0) (x1 := x1) (x2 := x2) (x3 := x3) (x4 := x4) (x5 := x5) hT.1 hn
    generalize hW : app4 (app4 (app4 (app4 (app4 (g.1 2) T x1) (T + 4) x2) (T + 8) x3) (T + 12) x4) (T + 16) x5 = W at e
    have hF : FrK g (hI (hR g 2 W) 1 2 (Int32.ofNat (T + 20))) := FrK_hI (FrK_hR FrK_rf (by omega)) (by omega)
    have e2 := m_feed_y (d := 98) (t := t) (g := hI (hR g 2 W) 1 2 (Int32.ofNat (T + 20))) (w := g.1 29) (a := g.1 72) (k := g.1 73) (cn := 0) (sn := 0) (x1 := x1) (x2 := x2) (x3 := x3) (x4 := x4) (x5 := x5) ((hF 49 15 (by omega)).trans mT) hn
    have hg : gM (hI (hR g 2 W) 1 2 (Int32.ofNat (T + 20))) (g.1 29) (g.1 72) (g.1 73) = hI (hR g 2 W) 1 2 (Int32.ofNat (T + 20)) := r_gM (g := hI (hR g 2 W) 1 2 (Int32.ofNat (T + 20))) (fun i hi => by rw [FrK_mrow hF, r_w H i hi])
    rw [hg] at e2
    have hE : ∀ c j, c < 49 → 2 < c → (hI (hR g 2 W) 1 2 (Int32.ofNat (T + 20))).1 c j = g.1 c j := fun c j h1 h2 => by
      rw [hI_at, if_neg (by omega), hR_at, if_neg (by omega)]
    have eK := kC_low hE
    have tp := tape_feed (x1 := x1) (x2 := x2) (x3 := x3) (x4 := x4) (x5 := x5) H.2.1.2.2.2.2.2.2.2.1
    rw [hW] at tp
    generalize hQ' : loopR (fun i f => upd f (T + i) (rB x1 x2 x3 x4 x5 i)) 20 0 (g.1 63) = Q at tp
    have hQ2 : loopR (fun i f => upd f (T + i) (rB x1 x2 x3 x4 x5 i)) 20 0 ((hI (hR g 2 W) 1 2 (Int32.ofNat (T + 20))).1 63) = Q := hQ'
    rw [hQ2] at e2
    obtain ⟨hc, ⟨m1, m2, m3, m4, m5, m6, m7, m8, m9⟩, ic, im⟩ := H
    have hM : ∀ c j, 49 ≤ c → ¬ (c = 49 ∧ (j = 33 ∨ j = 2 ∨ j = 15)) → ¬ c = 63 → ¬ (64 ≤ c ∧ c ≤ 70) → ¬ c = 72 → ¬ c = 73 → (gM (hI (hR (hI (hI (hR g 2 W) 1 2 (Int32.ofNat (T + 20))) 49 2 0) 63 Q) 49 15 (Int32.ofNat (T + 20))) (g.1 29) (g.1 72) (g.1 73)).1 c j = g.1 c j := by
      intro c j h0 h1 h2 h3 h4 h5
      unfold gM mA
      dsimp only
      rw [if_neg h4, if_neg h5, if_neg (by omega), if_neg (by omega), if_neg (by omega), hI_at, if_neg (by omega), hR_at, if_neg (by omega), hI_at, if_neg (by omega)]
      exact hF c j h0
    refine ⟨_, t, _, _, 0, 0, e, e2, RelP_rel (RelP_join (N := N) (S := S) (D := D) (L := L) (n := n) (q := q) (T := T + 20) (ac := ac) (o := o) (g1 := hI (hR g 2 W) 1 2 (Int32.ofNat (T + 20))) ?_ (CI_low hc hE ⟨hI_eq, hn⟩) ?_ ?_ ?_ ?_ ?_ ?_ ?_ ?_ ?_ ?_ ?_), by omega, by omega⟩
    · intro c j h
      rw [gM_o (by omega), hI_at, if_neg (by omega), hR_at, if_neg (by omega), hI_at, if_neg (by omega)]
    · rw [eK]; exact MK_cong (fun c j h1 h2 => hM c j (by omega) (by omega) (by omega) (by omega) (by omega) (by omega)) m1
    · intro j hj; rw [mrow_gM hj, hE 29 j (by omega) (by omega)]
    · exact mAc_cong (hM 49 34 (by omega) (by omega) (by omega) (by omega) (by omega) (by omega)) (funext fun j => hM 71 j (by omega) (by omega) (by omega) (by omega) (by omega) (by omega)) m3
    · rw [hM 49 35 (by omega) (by omega) (by omega) (by omega) (by omega) (by omega)]; exact m4
    · intro j hj
      rw [hM 78 j (by omega) (by omega) (by omega) (by omega) (by omega) (by omega), hM 79 j (by omega) (by omega) (by omega) (by omega) (by omega) (by omega), hE 35 j (by omega) (by omega), hE 36 j (by omega) (by omega)]; exact m5 j hj
    · intro j hj
      rw [hM 62 j (by omega) (by omega) (by omega) (by omega) (by omega) (by omega), hE 31 j (by omega) (by omega)]; exact m6 j hj
    · rw [gM_49 (by omega), hI_eq]
    · exact tp
    · rw [hM 49 24 (by omega) (by omega) (by omega) (by omega) (by omega) (by omega), hI_at, if_neg (by omega), hR_at, if_neg (by omega)]; exact m9
    · rw [eK]; exact ic
    · exact IM_cong (fun c j h => hM c j (by omega) (by omega) (by omega) (by omega) (by omega) (by omega)) im
  · refine okD_q H (Fr_rf H) (c_feed_n (d := 98) hT.1 hn hT.2) (fun G HG hM hw hE => ?_)
    have e := m_feed_n (d := 98) (t := t) (g := G) (cn := 0) (sn := 0) (w := g.1 29) (a := G.1 72) (k := G.1 73) (x1 := x1) (x2 := x2) (x3 := x3) (x4 := x4) (x5 := x5) HG.2.1.2.2.2.2.2.2.1 hn hT.2
    rw [r_gM hw] at e
    exact ⟨_, e, frm_1 HG hw⟩
theorem cp54' {f f' : Rw} (h : Z54 f) (h' : Z54 f') : va_cpy f f' 0 0 54 = f := cp54 h h'
/-- the image taken: what holds of its contents -/
theorem GI_img (H : RelP N S D L n q T ac o t g) {R A M Q s : Rw} (hR' : Z54 R) : GIm (kC g) N S (va_cpy (g.1 29) R 0 0 54) (va_cpy (g.1 33) A 0 0 2160) (g.1 32 1) (g.1 32 2) (va_cpy (g.1 35) M 0 0 8) (va_cpy (g.1 36) Q 0 0 8) (g.1 34 2) (va_cpy (g.1 31) s 0 0 3) (n, q, ac, g.1 29, g.1 35, g.1 36, g.1 31) ∧ Z54 (va_cpy (g.1 29) R 0 0 54) := by
  rw [cp54' (r_z H) hR']
  refine ⟨⟨r_R H, ⟨?_, r_cA2 H⟩, ⟨(r_H H).1, (r_H H).2.1, fun i hi => ?_⟩, fun i hi => rfl, fun i hi => ?_, fun i hi => ?_⟩, r_z H⟩
  · obtain ⟨h1, f', h2, h3, h4, h5⟩ := r_cA H
    refine ⟨h1, f', h2, h3, h4, fun i hi j hj => ?_⟩
    rw [cpy_lt (by have := Nat.mod_lt (f' + i) (show 0 < 40 by omega); omega)]
    exact h5 i hi j hj
  · have h8 := (r_H H).1
    have hi' : i < q := hi
    rw [cpy_lt (by omega), cpy_lt (by omega)]
    exact (r_H H).2.2 i hi
  · have h8 := (r_H H).1
    have hi' : i < q := hi
    rw [cpy_lt (by omega), cpy_lt (by omega)]
    exact ⟨rfl, rfl⟩
  · rw [cpy_lt hi]
theorem RelP_img (H : RelP N S D L n q T ac o t g) (h1 : ∀ c j, g1.1 c j = (hI g 0 11 1).1 c j) (ic : IC (kC g) N S (some (n, q, ac, g.1 29, g.1 35, g.1 36, g.1 31)) t1 (g1.2.2 0 10) (g1.2.2 37 3) 1) : RelP N S D L n q T ac (some (n, q, ac, g.1 29, g.1 35, g.1 36, g.1 31)) t1 (gM (gIm g1 (g.1 29)) (g.1 29) a k) := by
  have hE : ∀ c j, ¬ c = 0 → g1.1 c j = g.1 c j := fun c j h => by rw [h1, hI_at, if_neg (by omega)]
  have eK : kC g1 = kC g := kC_low (fun c j _ h => hE c j (by omega))
  have hn := (r_cA H).1
  have hq := (r_H H).1
  obtain ⟨hc, ⟨m1, m2, m3, m4, m5, m6, m7, m8, m9⟩, -, -⟩ := H
  have hM : ∀ c j, ¬ (c = 49 ∧ (j = 33 ∨ j = 2 ∨ j = 50 ∨ j = 51 ∨ j = 52)) → ¬ (83 ≤ c ∧ c ≤ 87) → ¬ (64 ≤ c ∧ c ≤ 70) → ¬ c = 72 → ¬ c = 73 → (gM (gIm g1 (g.1 29)) (g.1 29) a k).1 c j = g1.1 c j := by
    intro c j h1 h2 h3 h4 h5
    unfold gM mA gIm
    dsimp only
    rw [if_neg h4, if_neg h5, if_neg (by omega), if_neg (by omega), if_neg (by omega), hR_at, if_neg (by omega), hR_at, if_neg (by omega), hR_at, if_neg (by omega), hR_at, if_neg (by omega), hR_at, if_neg (by omega), hI_at, if_neg (by omega), hI_at, if_neg (by omega), hI_at, if_neg (by omega), hI_at, if_neg (by omega)]
  have hM2 : ∀ c j, 49 ≤ c → ¬ (c = 49 ∧ (j = 33 ∨ j = 2 ∨ j = 50 ∨ j = 51 ∨ j = 52)) → ¬ (83 ≤ c ∧ c ≤ 87) → ¬ (64 ≤ c ∧ c ≤ 70) → ¬ c = 72 → ¬ c = 73 → (gM (gIm g1 (g.1 29)) (g.1 29) a k).1 c j = g.1 c j := fun c j h0 h1 h2 h3 h4 h5 => (hM c j h1 h2 h3 h4 h5).trans (hE c j (by omega))
  refine RelP_join (g1 := g1) (fun c j h => hM c j (by omega) (by omega) (by omega) (by omega) (by omega)) (CI_low hc (fun c j _ h => hE c j (by omega)) (by rw [hE 1 2 (by omega)]; exact hc.2.2.2.2.2.2.2.2.2.1)) ?_ ?_ ?_ ?_ ?_ ?_ ?_ ?_ ?_ ?_ ?_
  · rw [eK]; exact MK_cong (fun c j h1 h2 => hM2 c j (by omega) (by omega) (by omega) (by omega) (by omega) (by omega)) m1
  · intro j hj; rw [mrow_gM hj, hE 29 j (by omega)]
  · exact mAc_cong (hM2 49 34 (by omega) (by omega) (by omega) (by omega) (by omega) (by omega)) (funext fun j => hM2 71 j (by omega) (by omega) (by omega) (by omega) (by omega) (by omega)) m3
  · rw [hM2 49 35 (by omega) (by omega) (by omega) (by omega) (by omega) (by omega)]; exact m4
  · intro j hj
    rw [hM2 78 j (by omega) (by omega) (by omega) (by omega) (by omega) (by omega), hM2 79 j (by omega) (by omega) (by omega) (by omega) (by omega) (by omega), hE 35 j (by omega), hE 36 j (by omega)]; exact m5 j hj
  · intro j hj
    rw [hM2 62 j (by omega) (by omega) (by omega) (by omega) (by omega) (by omega), hE 31 j (by omega)]; exact m6 j hj
  · rw [hM2 49 15 (by omega) (by omega) (by omega) (by omega) (by omega) (by omega)]; exact m7
  · rw [show (gM (gIm g1 (g.1 29)) (g.1 29) a k).1 63 = g.1 63 from funext fun j => hM2 63 j (by omega) (by omega) (by omega) (by omega) (by omega) (by omega), show g1.1 2 = g.1 2 from funext fun j => hE 2 j (by omega)]; exact m8
  · rw [hM2 49 24 (by omega) (by omega) (by omega) (by omega) (by omega) (by omega), hE 1 3 (by omega)]; exact m9
  · rw [eK, h1 0 11, hI_eq]; exact ic
  · have e71 : g1.1 71 = g.1 71 := funext fun j => hE 71 j (by omega)
    have e78 : g1.1 78 = g.1 78 := funext fun j => hE 78 j (by omega)
    have e79 : g1.1 79 = g.1 79 := funext fun j => hE 79 j (by omega)
    have e62 : g1.1 62 = g.1 62 := funext fun j => hE 62 j (by omega)
    refine ⟨rfl, fun i hi => ?_, ?_, fun i hi j hj => ?_, ?_, fun i hi => ?_, fun i hi => ?_⟩
    · show unpR (packR (g1.1 83) 0 (g.1 29)) 0 i = g.1 29 i
      exact unp_pack hi
    · show g1.1 49 34 = _
      rw [hE 49 34 (by omega)]; exact m3.1
    · show unpR (cpN (g1.1 71) (g1.1 84) 2160) (54 * i) j = _
      have hi' : i < n := hi
      have e : unpR (cpN (g1.1 71) (g1.1 84) 2160) (54 * i) j = unpR (g1.1 71) (54 * i) j := by
        unfold unpR cpN
        split
        · exact if_pos (by omega)
        · exact if_pos (by omega)
      rw [e, e71]
      exact m3.2 i hi j hj
    · show g1.1 49 35 = _
      rw [hE 49 35 (by omega)]; exact m4
    · have hi' : i < q := hi
      show cpN (g1.1 78) (g1.1 85) 8 i = g.1 35 i ∧ cpN (g1.1 79) (g1.1 86) 8 i = g.1 36 i
      unfold cpN
      rw [if_pos (by omega), if_pos (by omega), e78, e79]
      exact m5 i hi'
    · show cpN (g1.1 62) (g1.1 87) 3 i = g.1 31 i
      unfold cpN
      rw [if_pos hi, e62]
      exact m6 i hi
theorem rl_image (H : RelP N S D L n q T ac o t g) : OkN (fun h => bc 99 M_X9_image none 0 [some (.ref 0)] [] h 0 0) (fun h => bc 99 M_X10_image none 0 [some (.ref 49)] [] h 0 0) t g := by
  have fin : ∀ (t1 : List px_E) (g1 : hG) (c1 s1 : Nat), (∀ c j, g1.1 c j = (hI g 0 11 1).1 c j) → IC (kC g) N S (some (n, q, ac, g.1 29, g.1 35, g.1 36, g.1 31)) t1 (g1.2.2 0 10) (g1.2.2 37 3) 1 → c1 ≤ 10 → s1 ≤ 5000 →
      bc 99 M_X9_image none 0 [some (.ref 0)] [] (hp t g) 0 0 = some (.inl none, hp t1 g1, c1, s1) → OkN (fun h => bc 99 M_X9_image none 0 [some (.ref 0)] [] h 0 0) (fun h => bc 99 M_X10_image none 0 [some (.ref 49)] [] h 0 0) t g := by
    intro t1 g1 c1 s1 h1 hic hc hs e
    have hF : FrK g g1 := fun c j h => by rw [h1, hI_at, if_neg (by omega)]
    have e2 := m_image (d := 98) (t := t1) (g := g1) (cn := 0) (sn := 0) (w := g.1 29) (a := g1.1 72) (k := g1.1 73)
    rw [r_gM (fun i hi => by rw [FrK_mrow hF, r_w H i hi])] at e2
    exact ⟨t1, g1, _, c1, s1, e, e2, RelP_rel (RelP_img H h1 hic), hc, hs⟩
  have hTI : ∀ (R A : Rw) (f m : Int32) (M Q : Rw) (n0 : Int32) (s : Rw), Z54 R → TI R A f m M Q n0 s t (g.2.2 0 10) (g.2.2 37 3) → OkN (fun h => bc 99 M_X9_image none 0 [some (.ref 0)] [] h 0 0) (fun h => bc 99 M_X10_image none 0 [some (.ref 49)] [] h 0 0) t g := by
    intro R A f m M Q n0 s hz h
    obtain ⟨gi, gz⟩ := GI_img (A := A) (M := M) (Q := Q) (s := s) H hz
    rcases h with ⟨h1, h2, h3⟩ | ⟨U, h1, h2, h3⟩ | ⟨U, h1, h2, h3⟩
    · subst h3
      exact fin _ _ 0 0 (fun _ _ => rfl) ⟨rfl, _, _, _, _, _, _, _, _, gz, Or.inl ⟨h1, h2, rfl⟩, gi⟩ (by omega) (by omega) (c_image89 (d := 96) h1)
    · subst h3
      exact fin _ _ 0 0 (fun _ _ => rfl) ⟨rfl, _, _, _, _, _, _, _, _, gz, Or.inr (Or.inl ⟨U, h1, h2, rfl⟩), gi⟩ (by omega) (by omega) (c_image90 (d := 96) h1)
    · subst h3
      exact fin _ _ 0 0 (fun _ _ => rfl) ⟨rfl, _, _, _, _, _, _, _, _, gz, Or.inr (Or.inr ⟨U, h1, h2, rfl⟩), gi⟩ (by omega) (by omega) (c_image89 (d := 96) h1)
  have hTN : TN t (g.2.2 0 10) (g.2.2 37 3) → OkN (fun h => bc 99 M_X9_image none 0 [some (.ref 0)] [] h 0 0) (fun h => bc 99 M_X10_image none 0 [some (.ref 49)] [] h 0 0) t g := by
    intro h
    obtain ⟨gi, gz⟩ := GI_img (R := fun _ => 0) (A := fun _ => 0) (M := fun _ => 0) (Q := fun _ => 0) (s := fun _ => 0) H (fun _ _ => rfl)
    rcases h with ⟨h1, h2, h3⟩ | ⟨U, h1, h2, h3⟩
    · subst h3
      exact fin _ (hI (hV g 0 10 (.ref 89)) 0 11 1) 8 2243 (fun _ _ => rfl) ⟨rfl, _, _, _, _, _, _, _, _, gz, Or.inl ⟨rfl, h2, rfl⟩, gi⟩ (by omega) (by omega) (c_imageN89 (d := 94) h1)
    · subst h3
      exact fin _ (hI (hV g 0 10 (.ref 90)) 0 11 1) 8 2243 (fun _ _ => rfl) ⟨rfl, _, _, _, _, _, _, _, _, gz, Or.inr (Or.inl ⟨U, rfl, h2, rfl⟩), gi⟩ (by omega) (by omega) (c_imageN90 (d := 94) h1)
  have ic := H.2.2.1
  cases o with
  | none =>
    obtain ⟨-, h | ⟨R, A, f, m, M, Q, n0, s, hz, h⟩⟩ := ic
    · exact hTN h
    · exact hTI R A f m M Q n0 s hz h
  | some o =>
    obtain ⟨-, R, A, f, m, M, Q, n0, s, hz, h, -⟩ := ic
    exact hTI R A f m M Q n0 s hz h
end IMAGE3
