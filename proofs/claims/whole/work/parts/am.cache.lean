/-! ===== feed, soonest, chalk, listen: side by side ===== -/
section CACHE
variable {N S D L n q T n' q' T' : Nat} {ac ac' : Nat → Rw} {o : Option Im} {t t1 : List px_E} {g g1 g2 G B : hG} {w w' a k f : Rw} {v x y : Int32} {K : Kt}
/-- what was searched is kept by the class; nothing else is touched -/
theorem RelP_cache (H : RelP N S D L n q T ac o t g) (hE : ∀ c j, c < 49 → ¬ (c = 16 ∧ j = 14) → ¬ c = 27 → ¬ c = 28 → ¬ c = 30 → ¬ (37 ≤ c ∧ c ≤ 44) → g1.1 c j = g.1 c j) (hF : FrK g g1) (z30 : Z54 (g1.1 30)) (z38 : Z54 (g1.1 38)) (z42 : Z54 (g1.1 42))
    (hP : ∀ dd, dd < D → g1.1 41 4 = Int32.ofNat dd → plOk (kC g) N S D L dd (g.1 29) (g1.1 41) (g1.1 44)) (hEa : g1.1 37 4 = 0 ∨ (g1.1 37 4 = 1 ∧ eaOk (kC g) N D L q (g.1 29) (g.1 35) (g.1 36) (g1.1 37)))
    (ic : IC (kC g) N S o t1 (g1.2.2 0 10) (g1.2.2 37 3) (g.1 0 11)) : RelP N S D L n q T ac o t1 g1 := by
  have r : ∀ c, c < 37 → ¬ c = 16 → ¬ c = 27 → ¬ c = 28 → ¬ c = 30 → g1.1 c = g.1 c := fun c h1 h2 h3 h4 h5 => funext fun j => hE c j (by omega) (by omega) h3 h4 h5 (by omega)
  have eK : kC g1 = kC g := by
    funext c j
    unfold kC
    split
    all_goals first
      | rfl
      | (exact hE _ _ (by omega) (by omega) (by omega) (by omega) (by omega) (by omega))
      | (split <;> exact hE _ _ (by omega) (by omega) (by omega) (by omega) (by omega) (by omega))
  obtain ⟨⟨c1, c2, c3, c4, c5, c6, c7, c8, c9, c10, c11, c12⟩, ⟨m1, m2, m3, m4, m5, m6, m7, m8, m9⟩, -, im⟩ := H
  have hc : CI N S D L n q T ac g1 := by
    refine ⟨?_, ?_, ?_, ?_, z30, z38, z42, ⟨cA_cong (r 32 (by omega) (by omega) (by omega) (by omega) (by omega)) (r 33 (by omega) (by omega) (by omega) (by omega) (by omega)) c8.1, ?_⟩, ?_, ?_, ?_, ?_⟩
    · rw [eK]; exact c1
    · rw [eK]; exact c2
    · rw [eK, r 29 (by omega) (by omega) (by omega) (by omega) (by omega)]; exact c3
    · rw [r 29 (by omega) (by omega) (by omega) (by omega) (by omega)]; exact c4
    · rw [eK]; exact c8.2
    · rw [r 34 (by omega) (by omega) (by omega) (by omega) (by omega), r 35 (by omega) (by omega) (by omega) (by omega) (by omega), r 36 (by omega) (by omega) (by omega) (by omega) (by omega)]; exact c9
    · rw [r 1 (by omega) (by omega) (by omega) (by omega) (by omega)]; exact c10
    · rw [eK, r 29 (by omega) (by omega) (by omega) (by omega) (by omega)]; exact hP
    · rw [eK, r 29 (by omega) (by omega) (by omega) (by omega) (by omega), r 35 (by omega) (by omega) (by omega) (by omega) (by omega), r 36 (by omega) (by omega) (by omega) (by omega) (by omega)]; exact hEa
  refine RelP_join (fun _ _ _ => rfl) hc ?_ ?_ (FrK_mAc hF m3) ?_ ?_ ?_ ?_ ?_ ?_ ?_ ?_
  · rw [eK]; exact FrK_MK hF m1
  · intro i hi; rw [FrK_mrow hF, r 29 (by omega) (by omega) (by omega) (by omega) (by omega)]; exact m2 i hi
  · rw [hF 49 35 (by omega)]; exact m4
  · rw [FrK_row hF (c := 78) (by omega), FrK_row hF (c := 79) (by omega), r 35 (by omega) (by omega) (by omega) (by omega) (by omega), r 36 (by omega) (by omega) (by omega) (by omega) (by omega)]; exact m5
  · rw [FrK_row hF (c := 62) (by omega), r 31 (by omega) (by omega) (by omega) (by omega) (by omega)]; exact m6
  · rw [hF 49 15 (by omega)]; exact m7
  · rw [FrK_row hF (c := 63) (by omega), r 2 (by omega) (by omega) (by omega) (by omega) (by omega)]; exact m8
  · rw [hF 49 24 (by omega), r 1 (by omega) (by omega) (by omega) (by omega) (by omega)]; exact m9
  · rw [eK, r 0 (by omega) (by omega) (by omega) (by omega) (by omega)]; exact ic
  · exact IM_cong (fun c j h => hF c j (by omega)) im
/-- a call that asks, the class's heap and cells behind it changed -/
theorem okL_y2 {fL fM : px_H → Option (px_Res × px_H × Nat × Nat)} {c1 s1 : Nat} (H1 : RelP N S D L n q T ac o t1 g1) (eK : kC g1 = kC g) (e29 : g1.1 29 = g.1 29) (hc1 : c1 ≤ 10) (hs1 : s1 ≤ 5000) (eL : fL (hp t g) = some (.inl (some (.int 0)), hp t1 (hJ g1 88 0 v.toInt64), c1, s1))
    (hm : ∀ G, RelP N S D L n q T ac o t1 G → MK (kC g) N S D L G → (∀ i, i < 54 → mrow G i = g.1 29 i) → (∀ c j, esN c j → G.1 c j = g1.1 c j) → ∃ g2, fM (hp t1 G) = some (.inl (some (.int v)), hp t1 g2, 0, 0) ∧ Fr G g2 ∧ g2.1 49 2 = 0 ∧ g2.2.1 88 = G.2.1 88) : OkL fL fM t g := by
  have hF' : Fr g1 (hJ g1 88 0 v.toInt64) := Fr_hJ (Fr_rf H1)
  have HG := RelP_fr H1 hF'
  obtain ⟨g2, e2, f2, h2, h3⟩ := hm _ HG (by have z := r_M HG; rw [show kC (hJ g1 88 0 v.toInt64) = kC g1 from rfl, eK] at z; exact z) (fun i hi => by rw [r_w HG i hi]; exact congrFun e29 i) hF'.1
  exact ⟨0, v, t1, _, g2, c1, s1, eL, e2, h2, fun _ => by rw [h3]; exact hJ88, RelP_rel (RelP_fr HG f2), hc1, hs1⟩
theorem rl_soonest (H : RelP N S D L n q T ac o t g) (x y : Int32) : OkL (fun h => bc 99 M_L_soonest none 0 [some (.ref 0), some (.int x), some (.int y), some (.ref 88), none] [] h 0 0) (fun h => bc 99 M_X10_soonest none 0 [some (.ref 49), some (.int x), some (.int y), none] [] h 0 0) t g := by
  have h5 := (r_K H).2.2.2.2.2.1
  by_cases hx : 0 ≤ x.toInt ∧ x.toInt < D
  · obtain ⟨j, ex, hj⟩ := ex_nat hx
    subst ex
    by_cases hy : y = -1 ∨ (0 ≤ y.toInt ∧ y.toInt < S)
    · obtain ⟨e', T', b', w', s', n', v', k', h4, hpl, hz, e⟩ := c_soonest (d := 91) (t := t) (cn := 0) (sn := 0) (r_K H) (r_O H) (r_R H) hj (r_z H) (r_42 H) (H.1.2.2.2.2.2.2.2.2.2.2.1 j hj) hy
      have hE : ∀ c i, c < 49 → ¬ (c = 16 ∧ i = 14) → ¬ c = 27 → ¬ c = 28 → ¬ c = 30 → ¬ (41 ≤ c ∧ c ≤ 44) → (gQ g e' T' b' w' s' n' v' k').1 c i = g.1 c i := fun c i a1 a2 a3 a4 a5 a6 => by
        unfold gQ
        rw [gP_at ⟨by omega, a2, a3, a4⟩, hR_at, if_neg (by omega), hR_at, if_neg (by omega), hR_at, if_neg (by omega)]
      have hF : FrK g (gQ g e' T' b' w' s' n' v' k') := FrK_gP (by omega) (FrK_hR (FrK_hR (FrK_hR FrK_rf (by omega)) (by omega)) (by omega))
      have e41 : (gQ g e' T' b' w' s' n' v' k').1 41 = e' := rfl
      have e44 : (gQ g e' T' b' w' s' n' v' k').1 44 = b' := rfl
      have H1 : RelP N S D L n q T ac o t (gQ g e' T' b' w' s' n' v' k') := by
        refine RelP_cache H (fun c i a1 a2 a3 a4 a5 a6 => hE c i a1 a2 a3 a4 a5 (by omega)) hF (fun i hi => ?_) (fun i hi => ?_) ?_ (fun dd hd h => ?_) ?_ H.2.2.1
        · show g.1 30 i = 0
          exact r_30 H i hi
        · show g.1 38 i = 0
          exact r_38 H i hi
        · rw [show (gQ g e' T' b' w' s' n' v' k').1 42 = w' from gP_r h42]; exact hz
        · rw [e41, h4, nn_inj (by omega) (by omega)] at h
          subst h
          rw [e41, e44]; exact hpl
        · exact H.1.2.2.2.2.2.2.2.2.2.2.2
      refine okL_y2 (g := g) H1 rfl rfl (by omega) (by omega) (lx_soonest_y (d := 98) e) (fun G HG hM hw _ => ?_)
      obtain ⟨P', B', R', a', k'', o', e2⟩ := m_soonest (d := 89) (t := t) (g := G) (cn := 0) (sn := 0) (w := g.1 29) (a := G.1 72) (k := G.1 73) hM (r_K H) (r_O H) (r_R H) hj hy
      rw [r_gM hw] at e2
      exact ⟨_, e2, Fr_gM (Fr_hR (Fr_hR (Fr_hR (Fr_hI (Fr_hI (Fr_rf HG) nes492) (by unfold nes esN; omega)) (fun j => by unfold nes esN; omega)) (fun j => by unfold nes esN; omega)) (fun j => by unfold nes esN; omega)) (fun i hi => (hw i hi).symm), rfl, rfl⟩
    · exact okL_n H (by decide) (lx_soonest_1 (d := 98) (c_soonest_n2 (d := 85) (r_K H) hj hy)) (rf_n H (f := fun h => bc 99 M_X10_soonest none 0 [some (.ref 49), some (.int (Int32.ofNat j)), some (.int y), none] [] h 0 0) (m_soonest_n2 (d := 97) (r_M H) (r_K H) hj hy))
  · exact okL_n H (by decide) (lx_soonest_1 (d := 98) (c_soonest_n1 (d := 85) (r_K H) hx)) (rf_n H (f := fun h => bc 99 M_X10_soonest none 0 [some (.ref 49), some (.int x), some (.int y), none] [] h 0 0) (m_soonest_n1 (d := 97) (r_M H) (r_K H) hx))
theorem fitL_cong {f : Rw → Rw} {hm hn hm' hn' : Rw} (h : ∀ i, i < q → hm i = hm' i ∧ hn i = hn' i) : fitL f N w hm hn q 0 = fitL f N w hm' hn' q 0 := by
  rw [Bool.eq_iff_iff, fitL_iff, fitL_iff]
  constructor
  · intro z e h1 h2
    rw [← (h e (by omega)).1, ← (h e (by omega)).2]; exact z e h1 h2
  · intro z e h1 h2
    rw [(h e (by omega)).1, (h e (by omega)).2]; exact z e h1 h2
theorem okF_cong {hm hn hm' hn' : Rw} (h : ∀ i, i < q → hm i = hm' i ∧ hn i = hn' i) : okF K N D L q w hm hn = okF K N D L q w hm' hn' := by
  funext y z
  exact fitL_cong h
/-- the cells behind the others, as the Ear finds them -/
theorem tail_ear {a b : Value} (ic : IC K N S o t a b x) : ∃ (z : Bool) (T : (Nat → Int64) → List px_E) (p : Nat) (U : Nat → Int64), (bif z then t else T U) = t ∧ earT T p ∧ (z = true → p = t.length + 89 ∧ t ++ [.inl (1, 4392, .inr (.inl (fun _ => 0)))] = T (fun _ => 0)) ∧ b = (bif z then .null else .ref p) ∧ ∀ U', IC K N S o (T U') a (.ref p) x := by
  have hN : ∀ t, TN t a b → ∃ (z : Bool) (T : (Nat → Int64) → List px_E) (p : Nat) (U : Nat → Int64), (bif z then t else T U) = t ∧ earT T p ∧ (z = true → p = t.length + 89 ∧ t ++ [.inl (1, 4392, .inr (.inl (fun _ => 0)))] = T (fun _ => 0)) ∧ b = (bif z then .null else .ref p) ∧ ∀ U', TN (T U') a (.ref p) := by
    intro t h
    rcases h with ⟨h1, h2, h3⟩ | ⟨U, h1, h2, h3⟩
    · subst h3
      exact ⟨true, fun F => [.inl (1, 4392, .inr (.inl F))], 89, fun _ => 0, rfl, earT_89, fun _ => ⟨rfl, rfl⟩, h2, fun U' => Or.inr ⟨U', h1, rfl, rfl⟩⟩
    · subst h3
      exact ⟨false, fun F => [.inl (1, 4392, .inr (.inl F))], 89, U, rfl, earT_89, fun z => (by cases z), h2, fun U' => Or.inr ⟨U', h1, rfl, rfl⟩⟩
  have hI' : ∀ (t : List px_E) (R A : Rw) (f m : Int32) (M H : Rw) (n : Int32) (s : Rw), TI R A f m M H n s t a b → ∃ (z : Bool) (T : (Nat → Int64) → List px_E) (p : Nat) (U : Nat → Int64), (bif z then t else T U) = t ∧ earT T p ∧ (z = true → p = t.length + 89 ∧ t ++ [.inl (1, 4392, .inr (.inl (fun _ => 0)))] = T (fun _ => 0)) ∧ b = (bif z then .null else .ref p) ∧ ∀ U', TI R A f m M H n s (T U') a (.ref p) := by
    intro t R A f m M H n s h
    rcases h with ⟨h1, h2, h3⟩ | ⟨U, h1, h2, h3⟩ | ⟨U, h1, h2, h3⟩
    · subst h3
      exact ⟨true, fun F => imgL 89 R A f m M H n s [.inl (1, 4392, .inr (.inl F))], 97, fun _ => 0, rfl, earT_97, fun _ => ⟨rfl, rfl⟩, h2, fun U' => Or.inr (Or.inr ⟨U', h1, rfl, rfl⟩)⟩
    · subst h3
      exact ⟨false, fun F => .inl (1, 4392, .inr (.inl F)) :: imgL 90 R A f m M H n s [], 89, U, rfl, earT_89, fun z => (by cases z), h2, fun U' => Or.inr (Or.inl ⟨U', h1, rfl, rfl⟩)⟩
    · subst h3
      exact ⟨false, fun F => imgL 89 R A f m M H n s [.inl (1, 4392, .inr (.inl F))], 97, U, rfl, earT_97, fun z => (by cases z), h2, fun U' => Or.inr (Or.inr ⟨U', h1, rfl, rfl⟩)⟩
  cases o with
  | none =>
    obtain ⟨h0, h | ⟨R, A, f, m, M, H, n, s, hz, h⟩⟩ := ic
    · obtain ⟨z, T, p, U, e1, e2, e3, e4, e5⟩ := hN t h
      exact ⟨z, T, p, U, e1, e2, e3, e4, fun U' => ⟨h0, Or.inl (e5 U')⟩⟩
    · obtain ⟨z, T, p, U, e1, e2, e3, e4, e5⟩ := hI' t R A f m M H n s h
      exact ⟨z, T, p, U, e1, e2, e3, e4, fun U' => ⟨h0, Or.inr ⟨R, A, f, m, M, H, n, s, hz, e5 U'⟩⟩⟩
  | some o =>
    obtain ⟨h0, R, A, f, m, M, H, n, s, hz, h, hg⟩ := ic
    obtain ⟨z, T, p, U, e1, e2, e3, e4, e5⟩ := hI' t R A f m M H n s h
    exact ⟨z, T, p, U, e1, e2, e3, e4, fun U' => ⟨h0, R, A, f, m, M, H, n, s, hz, e5 U', hg⟩⟩
theorem gW_at {u : Value} {e b : Rw} {F : Nat → Int64} {s : Int32} {m : Int64} {v : Rw} {c j : Nat} (h : ¬ (c = 16 ∧ j = 14) ∧ ¬ c = 27 ∧ ¬ c = 28 ∧ ¬ c = 37 ∧ ¬ c = 38 ∧ ¬ c = 40) : (gW g u e b F w s m v k).1 c j = g.1 c j := by
  unfold gW
  rw [gP_at ⟨by omega, by omega, by omega, by omega⟩]
  show (hR (hR (hV g 37 3 u) 37 e) 40 b).1 c j = g.1 c j
  rw [hR_at, if_neg (by omega), hR_at, if_neg (by omega)]
  rfl
/-- the relation behind a search of the Ear -/
theorem RelP_ear (H : RelP N S D L n q T ac o t g) {u : Value} {e b : Rw} {F : Nat → Int64} {s : Int32} {m : Int64} {v : Rw} (hz : Z54 w) (he : e 4 = 0 ∨ (e 4 = 1 ∧ eaOk (kC g) N D L q (g.1 29) (g.1 35) (g.1 36) e)) (ic : IC (kC g) N S o t1 (g.2.2 0 10) u (g.1 0 11)) : RelP N S D L n q T ac o t1 (gW g u e b F w s m v k) := by
  have hF : FrK g (gW g u e b F w s m v k) := fun c j h => gW_at (by omega)
  refine RelP_cache H (fun c i a1 a2 a3 a4 a5 a6 => gW_at (by omega)) hF (fun i hi => ?_) ?_ (fun i hi => ?_) (fun dd hd h => ?_) ?_ ic
  · rw [gW_at (by omega)]; exact r_30 H i hi
  · rw [show (gW g u e b F w s m v k).1 38 = w from gP_r h38]; exact hz
  · rw [gW_at (by omega)]; exact r_42 H i hi
  · rw [gW_at (by omega)] at h
    rw [show (gW g u e b F w s m v k).1 41 = g.1 41 from funext fun i => gW_at (by omega), show (gW g u e b F w s m v k).1 44 = g.1 44 from funext fun i => gW_at (by omega)]
    exact H.1.2.2.2.2.2.2.2.2.2.2.1 dd hd h
  · exact he
theorem nz_le {z z' : Bool} : nz z z' ≤ 1 := by cases z <;> cases z' <;> decide
theorem r_c9 (H : RelP N S D L n q T ac o t g) : ∀ j, j < N → 0 ≤ (g.1 29 (24 + j)).toInt ∧ (g.1 29 (24 + j)).toInt ≤ 9 := fun j hj => ((r_R H).1 j hj).2.2.2.1
theorem frm_T (H : RelP N S D L n q T ac o t G) (hw : ∀ i, i < 54 → mrow G i = w i) {m : Nat} {f r : Rw} : Fr G (gM (gT (hI G 49 2 0) m f r) w a k) := Fr_gM (Fr_hR (Fr_hR (Fr_hI (Fr_hI (Fr_rf H) nes492) (by unfold nes esN; omega)) (fun j => by unfold nes esN; omega)) (fun j => by unfold nes esN; omega)) (fun i hi => (hw i hi).symm)
theorem frm_U (H : RelP N S D L n q T ac o t G) (hw : ∀ i, i < 54 → mrow G i = w i) {m : Nat} {f r P : Rw} {F : Nat → Int64} : Fr G (gM (gU (gT (hI G 49 2 0) m f r) P F) w a k) := Fr_gM (Fr_hQ (Fr_hR (Fr_hR (Fr_hR (Fr_hI (Fr_hI (Fr_rf H) nes492) (by unfold nes esN; omega)) (fun j => by unfold nes esN; omega)) (fun j => by unfold nes esN; omega)) nes74)) (fun i hi => (hw i hi).symm)
theorem frm_E (H : RelP N S D L n q T ac o t G) (hw : ∀ i, i < 54 → mrow G i = w i) : Fr G (gM (gE (hI G 49 2 0) w) w a k) := Fr_gM (Fr_hR (Fr_hI (Fr_rf H) nes492) (fun j => by unfold nes esN; omega)) (fun i hi => (hw i hi).symm)
/-- what the reference has heard -/
theorem r_mH (H : RelP N S D L n q T ac o t G) : G.1 49 35 = Int32.ofNat q ∧ (∀ i, i < q → G.1 78 i = G.1 35 i ∧ G.1 79 i = G.1 36 i) ∧ ∀ i, i < q → 1 ≤ (G.1 78 i).toInt ∧ (G.1 78 i).toInt ≤ 60 := by
  refine ⟨H.2.1.2.2.2.1, H.2.1.2.2.2.2.1, fun i hi => ?_⟩
  rw [(H.2.1.2.2.2.2.1 i hi).1]
  exact ((r_H H).2.2 i hi).1
theorem rl_chalk (H : RelP N S D L n q T ac o t g) (x : Int32) : OkL (fun h => bc 99 M_L_chalk none 0 [some (.ref 0), some (.int x), some (.ref 88), none] [] h 0 0) (fun h => bc 99 M_X10_chalk none 0 [some (.ref 49), some (.int x)] [] h 0 0) t g := by
  obtain ⟨hq8, hH, hb⟩ := r_H H
  by_cases hx : 0 ≤ x.toInt ∧ x.toInt ≤ 2
  · have key : x = 2 ∨ (x = 0 ∨ x = 1) := by
      rcases x012 hx with h | h | h
      · exact Or.inr (Or.inl h)
      · exact Or.inr (Or.inr h)
      · exact Or.inl h
    rcases key with h2 | h01
    · subst h2
      obtain ⟨F', w', s', n', v', k', hz, e⟩ := c_chalk_2 (d := 92) (t := t) (cn := 0) (sn := 0) (r_K H) (r_O H) hq8 hH hb (r_z H) (r_38 H)
      have H1 := RelP_ear (t1 := t) (u := g.2.2 37 3) (e := g.1 37) (b := g.1 40) (F := F') (s := s') (m := n') (v := v') (k := k') H hz H.1.2.2.2.2.2.2.2.2.2.2.2 H.2.2.1
      refine okL_y2 (g := g) H1 rfl rfl (by omega) (by omega) (lx_chalk_y (d := 98) e) (fun G HG hM hw hE => ?_)
      obtain ⟨q1, q2, q3⟩ := r_mH HG
      obtain ⟨a', k'', e2⟩ := m_chalk_2 (d := 94) (t := t) (g := G) (cn := 0) (sn := 0) (w := g.1 29) (a := G.1 72) (k := G.1 73) (T := 9999) hM (r_K H) (r_O H) hq8 q1 q3 (r_R H) (by omega)
      rw [r_gM hw, fitL_cong (hm' := g.1 35) (hn' := g.1 36) (fun i hi => ⟨(q2 i hi).1.trans (hE 35 i (by unfold esN; omega)), (q2 i hi).2.trans (hE 36 i (by unfold esN; omega))⟩)] at e2
      exact ⟨_, e2, frm_E HG hw, rfl, rfl⟩
    · obtain ⟨z, T0, p, U, et, hT, hzA, h3, hic⟩ := tail_ear H.2.2.1
      obtain ⟨z', U', e', u', F', w', s', n', v', k', hzz, hz, h4, hea, e⟩ := c_chalk_01 (d := 92) (t := t) (cn := 0) (sn := 0) hT (r_K H) (r_O H) hq8 hH hb (r_z H) (r_c9 H) (r_38 H) z U hzA h3 H.1.2.2.2.2.2.2.2.2.2.2.2 h01
      rw [et, Nat.zero_add, Nat.zero_add] at e
      have H1 := RelP_ear (t1 := bif z' then t else T0 U') (u := bif z' then .null else .ref p) (e := e') (b := u') (F := F') (s := s') (m := n') (v := v') (k := k') H hz (Or.inr ⟨h4, hea⟩) (by
        cases z' with
        | true => have := H.2.2.1; rw [h3, hzz rfl] at this; exact this
        | false => exact hic U')
      have hn := nz_le (z := z) (z' := z')
      refine okL_y2 (g := g) H1 rfl rfl (by omega) (by omega) (lx_chalk_y (d := 98) e) (fun G HG hM hw hE => ?_)
      obtain ⟨q1, q2, q3⟩ := r_mH HG
      obtain ⟨r', a', k'', e2⟩ := m_chalk_01 (d := 93) (t := bif z' then t else T0 U') (g := G) (cn := 0) (sn := 0) (w := g.1 29) (a := G.1 72) (k := G.1 73) (T := 9999) hM (r_K H) (r_O H) hq8 q1 q3 (r_R H) (by omega) h01
      rw [r_gM hw, chalk_eq, okF_cong (hm' := g.1 35) (hn' := g.1 36) (fun i hi => ⟨(q2 i hi).1.trans ((hE 35 i (by unfold esN; omega)).trans (gW_at (by omega))), (q2 i hi).2.trans ((hE 36 i (by unfold esN; omega)).trans (gW_at (by omega)))⟩)] at e2
      exact ⟨_, e2, frm_T HG hw, rfl, rfl⟩
  · exact okL_n H (by decide) (lx_chalk_1 (d := 98) (c_chalk_n (d := 86) hx)) (rf_n H (f := fun h => bc 99 M_X10_chalk none 0 [some (.ref 49), some (.int x)] [] h 0 0) (m_chalk_n (d := 98) hx))
theorem rl_listen (H : RelP N S D L n q T ac o t g) (x : Int32) : OkL (fun h => bc 99 M_L_listen none 0 [some (.ref 0), some (.int x), some (.ref 88), none] [] h 0 0) (fun h => bc 99 M_X10_listen none 0 [some (.ref 49), some (.int x), none, none, none, none] [] h 0 0) t g := by
  obtain ⟨hq8, hH, hb⟩ := r_H H
  have h8 := (r_K H).2.1
  by_cases hx : 0 ≤ x.toInt ∧ x.toInt ≤ 1
  · have h01 := x01 hx
    obtain ⟨z, T0, p, U, et, hT, hzA, h3, hic⟩ := tail_ear H.2.2.1
    obtain ⟨z', U', e', u', F', w', s', n', v', k', hzz, hz, h4, hea, e⟩ := c_listen (d := 92) (t := t) (cn := 0) (sn := 0) hT (r_K H) (r_O H) hq8 hH hb (r_z H) (r_c9 H) (r_38 H) z U hzA h3 H.1.2.2.2.2.2.2.2.2.2.2.2 h01
    rw [et, Nat.zero_add, Nat.zero_add] at e
    have H1 := RelP_ear (t1 := bif z' then t else T0 U') (u := bif z' then .null else .ref p) (e := e') (b := u') (F := F') (s := s') (m := n') (v := v') (k := k') H hz (Or.inr ⟨h4, hea⟩) (by
      cases z' with
      | true => have := H.2.2.1; rw [h3, hzz rfl] at this; exact this
      | false => exact hic U')
    have hn := nz_le (z := z) (z' := z')
    refine okL_y2 (g := g) H1 rfl rfl (by omega) (by omega) (lx_listen_y (d := 98) e) (fun G HG hM hw hE => ?_)
    obtain ⟨q1, q2, q3⟩ := r_mH HG
    obtain ⟨r', P, a', k'', F0, hF0, e2⟩ := m_listen_y (d := 93) (t := bif z' then t else T0 U') (g := G) (cn := 0) (sn := 0) (w := g.1 29) (a := G.1 72) (k := G.1 73) (T := 9999) hM (r_K H) (r_O H) hq8 q1 q3 (r_R H) (by omega) h01
    have hok := okF_cong (K := kC g) (N := N) (D := D) (L := L) (q := q) (w := g.1 29) (hm := G.1 78) (hn := G.1 79) (hm' := g.1 35) (hn' := g.1 36) (fun i hi => ⟨(q2 i hi).1.trans ((hE 35 i (by unfold esN; omega)).trans (gW_at (by omega))), (q2 i hi).2.trans ((hE 36 i (by unfold esN; omega)).trans (gW_at (by omega)))⟩)
    have hle : liL (ctL (minR (kC g) N D L) N (g.1 29) F0.2 F0.1 0 (G.2.1 82)) F0.1 60 0 (-1) 0 = liA (kC g) N D L q (g.1 29) (g.1 35) (g.1 36) := by
      have hF1 : F0 = foL (okF (kC g) N D L q (g.1 29) (g.1 35) (g.1 36)) (g.1 29) N 0 0 (G.1 81) := hF0.trans (by rw [← hok])
      rw [hF1]
      exact listen_eq h8
    have e3 : bc (93 + 6) M_X10_listen none 0 [some (.ref 49), some (.int x), none, none, none, none] [] (hp (bif z' then t else T0 U') G) 0 0 = some (.inl (some (.int (if x = 0 then (liA (kC g) N D L q (g.1 29) (g.1 35) (g.1 36)).1 else Int32.ofNat (liA (kC g) N D L q (g.1 29) (g.1 35) (g.1 36)).2))), hp (bif z' then t else T0 U') (gM (gU (gT (hI G 49 2 0) F0.1 F0.2 r') P (ctL (minR (kC g) N D L) N (g.1 29) F0.2 F0.1 0 (G.2.1 82))) (g.1 29) a' k''), 0, 0) := by
      rw [← hle, ← e2]
      congr 2
      exact (r_gM hw).symm
    exact ⟨_, e3, frm_U HG hw, rfl, rfl⟩
  · exact okL_n H (by decide) (lx_listen_1 (d := 98) (c_listen_n (d := 86) hx)) (rf_n H (f := fun h => bc 99 M_X10_listen none 0 [some (.ref 49), some (.int x), none, none, none, none] [] h 0 0) (m_listen_n (d := 98) hx))
end CACHE
