/-! ===== what is read is good: kettles, stoves, dishes ===== -/
/-- dish dd has at least l steps, at most three, all in bounds and different -/
def dsP (l dd : Nat) (σ : Sg) : Prop := ∃ M : Nat, σ.2 6 dd = Int32.ofNat M ∧ l ≤ M ∧ M ≤ 3 ∧ (∀ i, i < M → ∃ a : Nat, σ.2 7 (dd * 3 + i) = Int32.ofNat a ∧ 1 ≤ a ∧ a ≤ 24) ∧ ∀ i i', i < i' → i' < M → ¬ σ.2 7 (dd * 3 + i) = σ.2 7 (dd * 3 + i')
def keP (j : Nat) (σ : Sg) : Prop := ∃ a b c e : Nat, σ.2 1 j = Int32.ofNat a ∧ 1 ≤ a ∧ a ≤ 24 ∧ σ.2 2 j = Int32.ofNat b ∧ 1 ≤ b ∧ b ≤ 40 ∧ σ.2 3 j = Int32.ofNat c ∧ c ≤ b ∧ σ.2 4 j = Int32.ofNat e ∧ e ≤ 9
def svP (j : Nat) (σ : Sg) : Prop := ∃ a : Nat, σ.2 5 j = Int32.ofNat a ∧ 1 ≤ a ∧ a ≤ 40
def DGk (σ : Sg) : Prop := σ.1 0 = 0 → (∀ j, j < σ.1 6 → keP j σ) ∧ (∀ j, j < σ.1 7 → svP j σ) ∧ ∀ j, j < σ.1 8 → dsP 1 j σ
section GOOD
variable {n : Nat} {b : Rw} {x : Int32} {σ σ' σ'' : Sg} {c N M kd l dd : Nat}
theorem DG_of (h : DGk σ) (hz : σ'.1 0 = 0 → σ.1 0 = 0) (hk : ∀ c, 1 ≤ c → c ≤ 7 → σ'.2 c = σ.2 c) (hn : ∀ i, 6 ≤ i → i ≤ 8 → σ'.1 i = σ.1 i) : DGk σ' := by
  intro z
  have h' := h (hz z)
  unfold keP svP dsP at *
  rw [hn 6 (by omega) (by omega), hn 7 (by omega) (by omega), hn 8 (by omega) (by omega), hk 1 (by omega) (by omega), hk 2 (by omega) (by omega), hk 3 (by omega) (by omega), hk 4 (by omega) (by omega), hk 5 (by omega) (by omega), hk 6 (by omega) (by omega), hk 7 (by omega) (by omega)]
  exact h'
theorem DG_kf (h : DGk σ) (hz : σ'.1 0 = 0 → σ.1 0 = 0) (hk : kf σ σ') : DGk σ' := DG_of h hz (fun c h1 h2 => hk.1 c (by omega)) (fun i h1 h2 => hk.2 i (by omega))
theorem num_v {lo hi : Nat} (h : (pNumS b n lo hi σ).1 0 = 0) : lo ≤ pNumV lo hi σ ∧ pNumV lo hi σ ≤ hi := by
  unfold pNumS at h
  unfold pNumV
  split at h
  · next hn =>
    obtain ⟨-, -, -, k5, k6⟩ := need_ok hn
    rw [if_pos hn]; exact ⟨k5, k6⟩
  · next hn => exact absurd h hn
theorem fl_z {c : Nat} (hc : 1 ≤ c) : ¬ (pFl c σ).1 0 = 0 := by
  rw [pFl_0]
  split <;> omega
theorem DG_fl {c : Nat} (hc : 1 ≤ c) : DGk (pFl c σ) := fun z => absurd z (fl_z hc)
set_option maxHeartbeats 4000000 in
theorem DG_ket (h : DGk σ) : DGk (pKet b n kd σ) := by
  unfold pKet
  split
  · next hlt =>
    dsimp only
    intro z
    obtain ⟨N, hN⟩ : ∃ N, N = σ.1 6 := ⟨_, rfl⟩
    rw [← hN] at z hlt ⊢
    generalize hs1 : sK (pAdv b n σ) 0 N (Int32.ofNat kd) = σ1 at z ⊢
    generalize hs2 : sK (pNumS b n 1 24 σ1) 1 N (Int32.ofNat (pNumV 1 24 σ1)) = σ2 at z ⊢
    generalize hs3 : sK (pNumS b n 1 40 σ2) 2 N (Int32.ofNat (pNumV 1 40 σ2)) = σ3 at z ⊢
    generalize hs4 : sK (pNumS b n 0 (pNumV 1 40 σ2) σ3) 3 N (Int32.ofNat (pNumV 0 (pNumV 1 40 σ2) σ3)) = σ4 at z ⊢
    have z5 : (pNumS b n 0 9 σ4).1 0 = 0 := z
    have z4 : (pNumS b n 0 (pNumV 1 40 σ2) σ3).1 0 = 0 := by have := pNumS_0 z5; rw [← hs4] at this; exact this
    have z3 : (pNumS b n 1 40 σ2).1 0 = 0 := by have := pNumS_0 z4; rw [← hs3] at this; exact this
    have z2 : (pNumS b n 1 24 σ1).1 0 = 0 := by have := pNumS_0 z3; rw [← hs2] at this; exact this
    have z1 : (pAdv b n σ).1 0 = 0 := by have := pNumS_0 z2; rw [← hs1] at this; exact this
    have z0 : σ.1 0 = 0 := by rw [pAdv_0] at z1; exact z1
    obtain ⟨k1, k2, k3⟩ := h z0
    have fi : ∀ i, i = 7 ∨ i = 8 → (pNumS b n 0 9 σ4).1 i = σ.1 i := by
      intro i hi
      rw [pNumS_o (by omega), ← hs4]
      show (pNumS b n 0 (pNumV 1 40 σ2) σ3).1 i = _
      rw [pNumS_o (by omega), ← hs3]
      show (pNumS b n 1 40 σ2).1 i = _
      rw [pNumS_o (by omega), ← hs2]
      show (pNumS b n 1 24 σ1).1 i = _
      rw [pNumS_o (by omega), ← hs1]
      exact pAdv_o (by omega)
    have fk : ∀ c j, ¬ (c ≤ 4 ∧ j = N) → (sK (pNumS b n 0 9 σ4) 4 N (Int32.ofNat (pNumV 0 9 σ4))).2 c j = σ.2 c j := by
      intro c j hc
      rw [sK_ne (by omega), pNumS_K, ← hs4, sK_ne (by omega), pNumS_K, ← hs3, sK_ne (by omega), pNumS_K, ← hs2, sK_ne (by omega), pNumS_K, ← hs1, sK_ne (by omega), pAdv_K]
    refine ⟨fun j hj => ?_, fun j hj => ?_, fun j hj => ?_⟩
    · have hj' : j < N + 1 := hj
      by_cases e : j = N
      · rw [e]
        refine ⟨pNumV 1 24 σ1, pNumV 1 40 σ2, pNumV 0 (pNumV 1 40 σ2) σ3, pNumV 0 9 σ4, ?_, (num_v z2).1, (num_v z2).2, ?_, (num_v z3).1, (num_v z3).2, ?_, (num_v z4).2, ?_, (num_v z5).2⟩
        · show (sK (pNumS b n 0 9 σ4) 4 N (Int32.ofNat (pNumV 0 9 σ4))).2 1 N = _
          rw [sK_ne (by omega), pNumS_K, ← hs4, sK_ne (by omega), pNumS_K, ← hs3, sK_ne (by omega), pNumS_K, ← hs2, sK_at]
        · show (sK (pNumS b n 0 9 σ4) 4 N (Int32.ofNat (pNumV 0 9 σ4))).2 2 N = _
          rw [sK_ne (by omega), pNumS_K, ← hs4, sK_ne (by omega), pNumS_K, ← hs3, sK_at]
        · show (sK (pNumS b n 0 9 σ4) 4 N (Int32.ofNat (pNumV 0 9 σ4))).2 3 N = _
          rw [sK_ne (by omega), pNumS_K, ← hs4, sK_at]
        · exact sK_at
      · obtain ⟨a, b', c', e', q1, q2, q3, q4, q5, q6, q7, q8, q9, q10⟩ := k1 j (by omega)
        exact ⟨a, b', c', e', (fk 1 j (by omega)).trans q1, q2, q3, (fk 2 j (by omega)).trans q4, q5, q6, (fk 3 j (by omega)).trans q7, q8, (fk 4 j (by omega)).trans q9, q10⟩
    · have hj' : j < (pNumS b n 0 9 σ4).1 7 := hj
      rw [fi 7 (by omega)] at hj'
      obtain ⟨a, q1, q2⟩ := k2 j hj'
      exact ⟨a, (fk 5 j (by omega)).trans q1, q2⟩
    · have hj' : j < (pNumS b n 0 9 σ4).1 8 := hj
      rw [fi 8 (by omega)] at hj'
      obtain ⟨M, q1, q2, q3, q4, q5⟩ := k3 j hj'
      refine ⟨M, (fk 6 j (by omega)).trans q1, q2, q3, fun i hi => ?_, fun i i' h1 h2 => ?_⟩
      · obtain ⟨a, p1, p2⟩ := q4 i hi
        exact ⟨a, (fk 7 _ (by omega)).trans p1, p2⟩
      · have e1 := fk 7 (j * 3 + i) (by omega)
        have e2 := fk 7 (j * 3 + i') (by omega)
        exact fun e => q5 i i' h1 h2 (e1.symm.trans (e.trans e2))
  · exact DG_fl (by omega)
theorem DG_stv (h : DGk σ) : DGk (pStv b n σ) := by
  unfold pStv
  split
  · next hlt =>
    dsimp only
    intro z
    have z2 : (pNumS b n 1 40 (pAdv b n σ)).1 0 = 0 := z
    have z0 : σ.1 0 = 0 := by have := pNumS_0 z2; rw [pAdv_0] at this; exact this
    obtain ⟨k1, k2, k3⟩ := h z0
    have fi : ∀ i, 6 ≤ i ∧ i ≤ 8 → (pNumS b n 1 40 (pAdv b n σ)).1 i = σ.1 i := fun i hi => by rw [pNumS_o (by omega)]; exact pAdv_o (by omega)
    have fk : ∀ c j, ¬ (c = 5 ∧ j = σ.1 7) → (sK (pNumS b n 1 40 (pAdv b n σ)) 5 (σ.1 7) (Int32.ofNat (pNumV 1 40 (pAdv b n σ)))).2 c j = σ.2 c j := by
      intro c j hc
      rw [sK_ne hc, pNumS_K, pAdv_K]
    refine ⟨fun j hj => ?_, fun j hj => ?_, fun j hj => ?_⟩
    · have hj' : j < (pNumS b n 1 40 (pAdv b n σ)).1 6 := hj
      rw [fi 6 (by omega)] at hj'
      obtain ⟨a, b', c', e', q1, q2, q3, q4, q5, q6, q7, q8, q9, q10⟩ := k1 j (by omega)
      exact ⟨a, b', c', e', (fk 1 j (by omega)).trans q1, q2, q3, (fk 2 j (by omega)).trans q4, q5, q6, (fk 3 j (by omega)).trans q7, q8, (fk 4 j (by omega)).trans q9, q10⟩
    · have hj' : j < σ.1 7 + 1 := hj
      by_cases e : j = σ.1 7
      · rw [e]
        exact ⟨pNumV 1 40 (pAdv b n σ), sK_at, (num_v z2).1, (num_v z2).2⟩
      · obtain ⟨a, q1, q2⟩ := k2 j (by omega)
        exact ⟨a, (fk 5 j (by omega)).trans q1, q2⟩
    · have hj' : j < (pNumS b n 1 40 (pAdv b n σ)).1 8 := hj
      rw [fi 8 (by omega)] at hj'
      obtain ⟨M, q1, q2, q3, q4, q5⟩ := k3 j hj'
      refine ⟨M, (fk 6 j (by omega)).trans q1, q2, q3, fun i hi => ?_, fun i i' h1 h2 => ?_⟩
      · obtain ⟨a, p1, p2⟩ := q4 i hi
        exact ⟨a, (fk 7 _ (by omega)).trans p1, p2⟩
      · have e1 := fk 7 (j * 3 + i) (by omega)
        have e2 := fk 7 (j * 3 + i') (by omega)
        exact fun e => q5 i i' h1 h2 (e1.symm.trans (e.trans e2))
  · exact DG_fl (by omega)
theorem hasB_f : ∀ m i : Nat, hasB dd σ m i = false → ∀ k, i ≤ k → k < i + m → ¬ σ.2 7 (dd * 3 + k) = Int32.ofNat (σ.1 5) := by
  intro m
  induction m with
  | zero => intro i _ k h1 h2; omega
  | succ m ih =>
    intro i h k h1 h2
    unfold hasB at h
    split at h
    · cases h
    · next hne =>
      by_cases e : k = i
      · rw [e]; exact hne
      · exact ih (i + 1) h k (by omega) (by omega)
def dsF (dd : Nat) (σ σ' : Sg) : Prop := (∀ c j, ¬ (c = 6 ∧ j = dd) → ¬ (c = 7 ∧ dd * 3 ≤ j) → σ'.2 c j = σ.2 c j) ∧ ∀ i, 6 ≤ i → σ'.1 i = σ.1 i
theorem dsF_r : dsF dd σ σ := ⟨fun _ _ _ _ => rfl, fun _ _ => rfl⟩
theorem dsF_t (h : dsF dd σ σ') (h' : dsF dd σ' σ'') : dsF dd σ σ'' := ⟨fun c j h1 h2 => (h'.1 c j h1 h2).trans (h.1 c j h1 h2), fun i hi => (h'.2 i hi).trans (h.2 i hi)⟩
theorem dsF_stp : dsF dd σ (pStp b n dd σ) := by
  refine ⟨fun c j h1 h2 => ?_, fun i hi => pStp_o hi⟩
  unfold pStp
  split
  · split
    · rw [pFl_K]
    · split
      · split
        · rw [pFl_K]
        · rw [adv_sK, adv_sK, sK_ne h1, sK_ne (by omega), pAdv_K]
      · rw [pNeed_K]
  · rfl
theorem stp_P (h : dsP l dd σ) (z : (pStp b n dd σ).1 0 = 0) : σ.1 0 = 0 ∧ dsP (l + 1) dd (pStp b n dd σ) ∨ (¬ σ.1 0 = 0) := by
  by_cases h0 : σ.1 0 = 0
  · refine Or.inl ⟨h0, ?_⟩
    obtain ⟨M, q1, q2, q3, q4, q5⟩ := h
    have hst : stpN dd σ = M := by unfold stpN; rw [q1]; exact nn_clamp (by omega)
    unfold pStp at z ⊢
    rw [if_pos h0, hst] at z ⊢
    split at z
    · exact absurd z (fl_z (by omega))
    · next hA =>
      rw [if_neg hA]
      split at z
      · next hn =>
        rw [if_pos hn]
        obtain ⟨-, k3, -, k5, k6⟩ := need_ok hn
        split at z
        · exact absurd z (fl_z (by omega))
        · next hb =>
          rw [if_neg hb, adv_sK, adv_sK]
          have hb' := hasB_f M 0 (Bool.eq_false_iff.mpr hb)
          have fk : ∀ i, i < M → (sK (sK (pAdv b n σ) 7 (dd * 3 + M) (Int32.ofNat (σ.1 5))) 6 dd (Int32.ofNat (M + 1))).2 7 (dd * 3 + i) = σ.2 7 (dd * 3 + i) := fun i hi => by
            rw [sK_ne (by omega), sK_ne (by omega), pAdv_K]
          have fM : (sK (sK (pAdv b n σ) 7 (dd * 3 + M) (Int32.ofNat (σ.1 5))) 6 dd (Int32.ofNat (M + 1))).2 7 (dd * 3 + M) = Int32.ofNat (σ.1 5) := by
            rw [sK_ne (by omega), sK_at]
          refine ⟨M + 1, sK_at, by omega, by omega, fun i hi => ?_, fun i i' h1 h2 => ?_⟩
          · by_cases e : i = M
            · rw [e]; exact ⟨σ.1 5, fM, k5, k6⟩
            · obtain ⟨a, p1, p2⟩ := q4 i (by omega)
              exact ⟨a, (fk i (by omega)).trans p1, p2⟩
          · rw [fk i (by omega)]
            by_cases e : i' = M
            · rw [e, fM]; exact hb' i (by omega) (by omega)
            · rw [fk i' (by omega)]; exact q5 i i' h1 (by omega)
      · next hn => exact absurd z hn
  · exact Or.inr h0
theorem stp_z (z : (pStp b n dd σ).1 0 = 0) : σ.1 0 = 0 := by
  by_cases h0 : σ.1 0 = 0
  · exact h0
  · unfold pStp at z
    rw [if_neg h0] at z
    exact z
theorem stp_L : ∀ (f : Nat) (σ : Sg), dsP 1 dd σ ∨ ¬ σ.1 0 = 0 → ((loopW isNm (pStp b n dd) f σ).1 0 = 0 → dsP 1 dd (loopW isNm (pStp b n dd) f σ) ∧ σ.1 0 = 0) ∧ dsF dd σ (loopW isNm (pStp b n dd) f σ) := by
  intro f
  induction f with
  | zero => intro σ h; exact ⟨fun z => ⟨h.resolve_right (fun hn => hn z), z⟩, dsF_r⟩
  | succ f ih =>
    intro σ h
    unfold loopW
    split
    · have h' : dsP 1 dd (pStp b n dd σ) ∨ ¬ (pStp b n dd σ).1 0 = 0 := by
        by_cases z : (pStp b n dd σ).1 0 = 0
        · have z0 := stp_z z
          rcases stp_P (h.resolve_right (fun hn => hn z0)) z with ⟨-, M, q1, q2, q3⟩ | hn
          · exact Or.inl ⟨M, q1, by omega, q3⟩
          · exact absurd z0 hn
        · exact Or.inr z
      obtain ⟨a1, a2⟩ := ih _ h'
      exact ⟨fun z => ⟨(a1 z).1, stp_z (a1 z).2⟩, dsF_t dsF_stp a2⟩
    · exact ⟨fun z => ⟨h.resolve_right (fun hn => hn z), z⟩, dsF_r⟩
theorem DG_dsh (h : DGk σ) : DGk (pDsh b n σ) := by
  unfold pDsh
  split
  · next hlt =>
    dsimp only
    intro z
    obtain ⟨D, hD⟩ : ∃ D, D = σ.1 8 := ⟨_, rfl⟩
    rw [← hD] at z hlt ⊢
    have p0 : dsP 0 D (sK (pAdv b n σ) 6 D 0) := ⟨0, sK_at, by omega, by omega, fun i hi => by omega, fun i i' h1 h2 => by omega⟩
    have p1 : dsP 1 D (pStp b n D (sK (pAdv b n σ) 6 D 0)) ∨ ¬ (pStp b n D (sK (pAdv b n σ) 6 D 0)).1 0 = 0 := by
      by_cases z1 : (pStp b n D (sK (pAdv b n σ) 6 D 0)).1 0 = 0
      · rcases stp_P p0 z1 with ⟨-, hp1⟩ | hn
        · exact Or.inl hp1
        · exact absurd (stp_z z1) hn
      · exact Or.inr z1
    obtain ⟨a1, a2⟩ := stp_L (b := b) (n := n) 600 _ p1
    have z2 : (loopW isNm (pStp b n D) 600 (pStp b n D (sK (pAdv b n σ) 6 D 0))).1 0 = 0 := z
    have z0 : σ.1 0 = 0 := by
      have z1 := stp_z (a1 z2).2
      have z1' : (pAdv b n σ).1 0 = 0 := z1
      rw [pAdv_0] at z1'; exact z1'
    obtain ⟨k1, k2, k3⟩ := h z0
    have F := dsF_t (dsF_stp (b := b) (n := n) (dd := D) (σ := sK (pAdv b n σ) 6 D 0)) a2
    have fk : ∀ c j, ¬ (c = 6 ∧ j = D) → ¬ (c = 7 ∧ D * 3 ≤ j) → (loopW isNm (pStp b n D) 600 (pStp b n D (sK (pAdv b n σ) 6 D 0))).2 c j = σ.2 c j := fun c j h1 h2 => by
      rw [F.1 c j h1 h2, sK_ne h1, pAdv_K]
    have fi : ∀ i, 6 ≤ i → (loopW isNm (pStp b n D) 600 (pStp b n D (sK (pAdv b n σ) 6 D 0))).1 i = σ.1 i := fun i hi => by
      rw [F.2 i hi]; exact pAdv_o (by omega)
    have a0 := (a1 z2).1
    generalize loopW isNm (pStp b n D) 600 (pStp b n D (sK (pAdv b n σ) 6 D 0)) = τ at *
    refine ⟨fun j hj => ?_, fun j hj => ?_, fun j hj => ?_⟩
    · have hj' : j < τ.1 6 := hj
      rw [fi 6 (by omega)] at hj'
      obtain ⟨a, b', c', e', q1, q2, q3, q4, q5, q6, q7, q8, q9, q10⟩ := k1 j (by omega)
      exact ⟨a, b', c', e', (fk 1 j (by omega) (by omega)).trans q1, q2, q3, (fk 2 j (by omega) (by omega)).trans q4, q5, q6, (fk 3 j (by omega) (by omega)).trans q7, q8, (fk 4 j (by omega) (by omega)).trans q9, q10⟩
    · have hj' : j < τ.1 7 := hj
      rw [fi 7 (by omega)] at hj'
      obtain ⟨a, q1, q2⟩ := k2 j hj'
      exact ⟨a, (fk 5 j (by omega) (by omega)).trans q1, q2⟩
    · have hj' : j < D + 1 := hj
      by_cases e : j = D
      · rw [e]; exact a0
      · obtain ⟨M, q1, q2, q3, q4, q5⟩ := k3 j (by omega)
        refine ⟨M, (fk 6 j (by omega) (by omega)).trans q1, q2, q3, fun i hi => ?_, fun i i' h1 h2 => ?_⟩
        · obtain ⟨a, p1, p2⟩ := q4 i hi
          exact ⟨a, (fk 7 _ (by omega) (by omega)).trans p1, p2⟩
        · have e1 := fk 7 (j * 3 + i) (by omega) (by omega)
          have e2 := fk 7 (j * 3 + i') (by omega) (by omega)
          exact fun e => q5 i i' h1 h2 (e1.symm.trans (e.trans e2))
  · exact DG_fl (by omega)
theorem DG_lin (hW : WF b n σ) (h : DGk σ) : DGk (pLin b n σ) := by
  unfold pLin
  split
  · exact DG_ket h
  · split
    · exact DG_stv h
    · split
      · exact DG_dsh h
      · split
        · unfold pLif
          split
          · split
            · have h' : DGk (sN σ 10 1) := h
              have w := WF_10 hW
              exact DG_kf (σ := sN σ 10 1) h' (fun z => by
                obtain ⟨w2, g2⟩ := PX_expr (b := b) (n := n) 6 _ (WF_adv w)
                have := (g2 z).1
                rw [pAdv_0] at this; exact this) (kf_t kf_adv (kf_expr 6 _))
            · exact DG_fl (by omega)
          · exact h
        · exact DG_fl (by omega)
theorem DG_bod (hW : WF b n σ) (h : DGk σ) : DGk (pBod b n σ) := DG_kf (DG_lin hW h) (fun z => ((PX_ex (x := 59) _ (PX_lin σ hW).1).2 z).1) kf_ex
theorem DG_loop : ∀ (f : Nat) (σ : Sg), WF b n σ → DGk σ → DGk (loopW isMo (pBod b n) f σ) := by
  intro f
  induction f with
  | zero => intro σ _ h; exact h
  | succ f ih =>
    intro σ hW h
    unfold loopW
    split
    · exact ih _ (PX_bod σ hW).1 (DG_bod hW h)
    · exact h
theorem DG_read {K : Kt} (hn : n ≤ 600) : DGk (pRead b n (sg0 K)) := by
  have w : WF b n (pAdv b n (sg0 K)) := pAdv_WF hn (Nat.zero_le 5) (fun _ => ⟨Nat.zero_le n, Nat.zero_le 1⟩)
  refine DG_loop 600 _ w (fun _ => ?_)
  rw [pAdv_o (by omega), pAdv_o (by omega), pAdv_o (by omega)]
  exact ⟨fun j hj => absurd hj (Nat.not_lt_zero j), fun j hj => absurd hj (Nat.not_lt_zero j), fun j hj => absurd hj (Nat.not_lt_zero j)⟩
end GOOD
