/-! ===== an expression touches nothing but the code; lines gain ===== -/
def kf (σ σ' : Sg) : Prop := (∀ c, ¬ c = 8 → σ'.2 c = σ.2 c) ∧ ∀ i, (6 ≤ i ∧ i ≤ 8) ∨ i = 10 → σ'.1 i = σ.1 i
section LINES
variable {d D : Nat} {t : List px_E} {g : hG} {n cn sn dep : Nat} {b r q : Rw} {x y : Int32} {σ σ' σ'' : Sg} {p rc : Sg → Sg} {c N M k m : Nat} {a2 : Option Value}
theorem kf_r : kf σ σ := ⟨fun _ _ => rfl, fun _ _ => rfl⟩
theorem kf_t (h : kf σ σ') (h' : kf σ' σ'') : kf σ σ'' := ⟨fun c hc => (h'.1 c hc).trans (h.1 c hc), fun i hi => (h'.2 i hi).trans (h.2 i hi)⟩
theorem kf_adv : kf σ (pAdv b n σ) := ⟨fun c _ => by rw [pAdv_K], fun i hi => pAdv_o (by omega)⟩
theorem kf_fl : kf σ (pFl c σ) := ⟨fun c _ => by rw [pFl_K], fun i hi => pFl_o (by omega)⟩
theorem kf_num {lo hi : Nat} : kf σ (pNumS b n lo hi σ) := ⟨fun c _ => by rw [pNumS_K], fun i hi => pNumS_o (by omega)⟩
theorem kf_add : kf σ (pAdd x σ) := by
  unfold pAdd
  split
  · refine ⟨fun c hc => funext fun j => ?_, fun i hi => ?_⟩
    · show (if c = 8 ∧ j = σ.1 9 then x else σ.2 c j) = _
      rw [if_neg (fun z => hc z.1)]
    · show (if i = 9 then _ else σ.1 i) = _
      rw [if_neg (by omega)]
  · exact kf_r
theorem kf_ex : kf σ (pEx b n x σ) := by
  unfold pEx
  split
  · exact kf_adv
  · exact kf_fl
theorem kf_loop {T : Sg → Bool} {B : Sg → Sg} (hB : ∀ σ, kf σ (B σ)) : ∀ (f : Nat) (σ : Sg), kf σ (loopW T B f σ) := by
  intro f
  induction f with
  | zero => intro σ; exact kf_r
  | succ f ih =>
    intro σ
    unfold loopW
    split
    · exact kf_t (hB σ) (ih _)
    · exact kf_r
theorem kf_part (hrc : ∀ σ, kf σ (rc σ)) (σ : Sg) : kf σ (pPart b n rc σ) := by
  unfold pPart
  split
  · split
    · exact kf_t kf_num kf_add
    · split
      · split
        · exact kf_fl
        · exact kf_t kf_add kf_adv
      · split
        · exact kf_t kf_ex (kf_t (hrc _) kf_ex)
        · exact kf_ex
  · exact kf_r
theorem kf_prod (hrc : ∀ σ, kf σ (rc σ)) (σ : Sg) : kf σ (pProd b n rc σ) := kf_t (kf_part hrc σ) (kf_loop (fun s => kf_t kf_adv (kf_t (kf_part hrc _) kf_add)) 600 _)
theorem kf_sum (hrc : ∀ σ, kf σ (rc σ)) (σ : Sg) : kf σ (pSum b n rc σ) := kf_t (kf_prod hrc σ) (kf_loop (fun s => kf_t kf_adv (kf_t (kf_prod hrc _) kf_add)) 600 _)
theorem kf_not : ∀ (f : Nat) (σ : Sg), kf σ (notS b n f σ) := by
  intro f
  induction f with
  | zero => intro σ; exact kf_r
  | succ f ih =>
    intro σ
    unfold notS
    split
    · exact kf_t kf_adv (ih _)
    · exact kf_r
theorem kf_itN : ∀ (f : Nat) (σ : Sg), kf σ (itN (pAdd x) f σ) := by
  intro f
  induction f with
  | zero => intro σ; exact kf_r
  | succ f ih => intro σ; exact kf_t kf_add (ih _)
theorem kf_cmp (hrc : ∀ σ, kf σ (rc σ)) (σ : Sg) : kf σ (pCmp b n rc σ) := by
  unfold pCmp
  split
  · exact kf_t kf_adv (kf_t (kf_sum hrc _) kf_add)
  · exact kf_r
theorem kf_test (hrc : ∀ σ, kf σ (rc σ)) (σ : Sg) : kf σ (pTest b n rc σ) := by
  unfold pTest
  split
  · exact kf_t (kf_not 6 σ) kf_fl
  · exact kf_t (kf_not 6 σ) (kf_t (kf_sum hrc _) (kf_t (kf_cmp hrc _) (kf_itN _ _)))
theorem kf_both (hrc : ∀ σ, kf σ (rc σ)) (σ : Sg) : kf σ (pBoth b n rc σ) := kf_t (kf_test hrc σ) (kf_loop (fun s => kf_t kf_adv (kf_t (kf_test hrc _) kf_add)) 600 _)
theorem kf_exb (hrc : ∀ σ, kf σ (rc σ)) (σ : Sg) : kf σ (pExB b n rc σ) := kf_t (kf_both hrc σ) (kf_loop (fun s => kf_t kf_adv (kf_t (kf_both hrc _) kf_add)) 600 _)
theorem kf_expr : ∀ (m : Nat) (σ : Sg), kf σ (pExpr b n m σ) := by
  intro m
  induction m with
  | zero => intro σ; unfold pExpr; exact kf_fl
  | succ m ih => intro σ; exact kf_exb ih σ
theorem PX_ket {kd : Nat} : PX b n (pKet b n kd) 0 0 := by
  intro σ h
  unfold pKet
  split
  · dsimp only
    have p1 : WF b n (sK (pAdv b n σ) 0 (σ.1 6) (Int32.ofNat kd)) := WF_adv h
    generalize hs1 : sK (pAdv b n σ) 0 (σ.1 6) (Int32.ofNat kd) = σ1 at p1 ⊢
    have q1 : gn σ σ1 0 0 := by rw [← hs1]; exact gn_adv0 h
    obtain ⟨w2, g2⟩ := PX_num (lo := 1) (hi := 24) σ1 p1
    have p2 : WF b n (sK (pNumS b n 1 24 σ1) 1 (σ.1 6) (Int32.ofNat (pNumV 1 24 σ1))) := w2
    generalize hs2 : sK (pNumS b n 1 24 σ1) 1 (σ.1 6) (Int32.ofNat (pNumV 1 24 σ1)) = σ2 at p2 ⊢
    have q2 : gn σ1 σ2 1 1 := by rw [← hs2]; exact g2
    obtain ⟨w3, g3⟩ := PX_num (lo := 1) (hi := 40) σ2 p2
    have p3 : WF b n (sK (pNumS b n 1 40 σ2) 2 (σ.1 6) (Int32.ofNat (pNumV 1 40 σ2))) := w3
    generalize hs3 : sK (pNumS b n 1 40 σ2) 2 (σ.1 6) (Int32.ofNat (pNumV 1 40 σ2)) = σ3 at p3 ⊢
    have q3 : gn σ2 σ3 1 1 := by rw [← hs3]; exact g3
    obtain ⟨w4, g4⟩ := PX_num (lo := 0) (hi := pNumV 1 40 σ2) σ3 p3
    have p4 : WF b n (sK (pNumS b n 0 (pNumV 1 40 σ2) σ3) 3 (σ.1 6) (Int32.ofNat (pNumV 0 (pNumV 1 40 σ2) σ3))) := w4
    generalize hs4 : sK (pNumS b n 0 (pNumV 1 40 σ2) σ3) 3 (σ.1 6) (Int32.ofNat (pNumV 0 (pNumV 1 40 σ2) σ3)) = σ4 at p4 ⊢
    have q4 : gn σ3 σ4 1 1 := by rw [← hs4]; exact g4
    obtain ⟨w5, g5⟩ := PX_num (lo := 0) (hi := 9) σ4 p4
    have qq := gn_weak (k' := 0) (m' := 0) (gn_trans q1 (gn_trans q2 (gn_trans q3 (gn_trans q4 g5)))) (by omega) (by omega)
    exact ⟨w5, qq⟩
  · exact ⟨pFl_WF h (by omega), gn_fl (by omega)⟩
theorem PX_stv : PX b n (pStv b n) 0 0 := by
  intro σ h
  unfold pStv
  split
  · dsimp only
    obtain ⟨w2, g2⟩ := PX_num (lo := 1) (hi := 40) _ (WF_adv h)
    have qq := gn_weak (k' := 0) (m' := 0) (gn_trans (gn_adv0 h) g2) (by omega) (by omega)
    exact ⟨w2, qq⟩
  · exact ⟨pFl_WF h (by omega), gn_fl (by omega)⟩
theorem PX_stp : PX b n (pStp b n D) 0 0 := by
  intro σ h
  unfold pStp
  split
  · split
    · exact ⟨pFl_WF h (by omega), gn_fl (by omega)⟩
    · split
      · next hn =>
        split
        · exact ⟨pFl_WF h (by omega), gn_fl (by omega)⟩
        · rw [adv_sK, adv_sK]
          have q : gn σ (pAdv b n σ) 0 0 := gn_adv0 h
          have w : WF b n (pAdv b n σ) := WF_adv h
          exact ⟨w, q⟩
      · next hn => exact ⟨need_WF h, fun z => absurd z hn⟩
  · exact ⟨h, gn_refl⟩
theorem PX_dsh : PX b n (pDsh b n) 0 0 := by
  intro σ h
  unfold pDsh
  split
  · dsimp only
    have p1 : WF b n (sK (pAdv b n σ) 6 (σ.1 8) 0) := WF_adv h
    have q1 : gn σ (sK (pAdv b n σ) 6 (σ.1 8) 0) 0 0 := gn_adv0 h
    obtain ⟨w2, g2⟩ := PX_stp (b := b) (n := n) (D := σ.1 8) _ p1
    obtain ⟨w3, g3⟩ := PX_loop (b := b) (n := n) (T := isNm) (B := pStp b n (σ.1 8)) (fun s hs _ => PX_stp s hs) 600 _ w2
    have qq := gn_trans q1 (gn_trans g2 g3)
    exact ⟨w3, qq⟩
  · exact ⟨pFl_WF h (by omega), gn_fl (by omega)⟩
theorem WF_10 (h : WF b n σ) : WF b n (sN σ 10 1) := ⟨h.1, h.2.1, fun z => by
  obtain ⟨w1, w2, w3, w4, w5, w6⟩ := h.2.2 z
  exact ⟨w1, w2, w3, w4, w5, Nat.le_refl 1⟩⟩
theorem PX_lif : PX b n (pLif b n) 0 0 := by
  intro σ h
  unfold pLif
  split
  · split
    · have w1 := WF_10 h
      have q1 : gn σ (sN σ 10 1) 0 0 := gn_refl (σ := σ)
      obtain ⟨w2, g2⟩ := PX_expr (b := b) (n := n) 6 _ (WF_adv w1)
      exact ⟨w2, gn_trans q1 (gn_trans (gn_adv0 w1) g2)⟩
    · exact ⟨pFl_WF h (by omega), gn_fl (by omega)⟩
  · exact ⟨h, gn_refl⟩
theorem PX_lin : PX b n (pLin b n) 0 0 := by
  intro σ h
  unfold pLin
  split
  · exact PX_ket σ h
  · split
    · exact PX_stv σ h
    · split
      · exact PX_dsh σ h
      · split
        · exact PX_lif σ h
        · exact ⟨pFl_WF h (by omega), gn_fl (by omega)⟩
theorem PX_bod : PX b n (pBod b n) 1 1 := by
  intro σ h
  obtain ⟨w1, g1⟩ := PX_lin σ h
  obtain ⟨w2, g2⟩ := PX_ex (x := 59) _ w1
  have := gn_trans g1 g2
  rw [Nat.zero_add] at this
  exact ⟨w2, this⟩
theorem isW_len {w : List Int32} (h : pIsW b w σ = true) : σ.1 4 - σ.1 2 = w.length ∧ wrdB b (σ.1 2) w = true := by
  unfold pIsW at h
  rw [Bool.and_eq_true, Bool.and_eq_true, Bool.and_eq_true] at h
  exact ⟨of_decide_eq_true h.2.2.1, h.2.2.2⟩
theorem isW_no {w v : List Int32} (h : pIsW b w σ = true) (hl : ¬ w.length = v.length) : pIsW b v σ = false := by
  cases e : pIsW b v σ with
  | false => rfl
  | true => exact absurd ((isW_len h).1.symm.trans (isW_len e).1) hl
theorem wh_lif {k : Nat} (h : whW b σ wKin 0 = some k) : pIsW b wLif σ = false := by
  unfold wKin at h
  unfold whW at h
  split at h
  · next hw => exact isW_no hw (by decide)
  · unfold whW at h
    split at h
    · next hw => exact isW_no hw (by decide)
    · unfold whW at h
      split at h
      · next hw => exact isW_no hw (by decide)
      · unfold whW at h
        split at h
        · next hw => exact isW_no hw (by decide)
        · cases h
theorem sto_lif (h : pIsW b wSto σ = true) : pIsW b wLif σ = false := by
  cases e : pIsW b wLif σ with
  | false => rfl
  | true =>
    have h1 := (isW_len h).2
    have h2 := (isW_len e).2
    unfold wSto wrdB at h1
    unfold wLif wrdB at h2
    split at h1
    · next e1 =>
      split at h2
      · next e2 => rw [e1] at e2; exact absurd e2 (by decide)
      · cases h2
    · cases h1
theorem asc_lif : asc wLif := by unfold asc; decide
theorem asc_sto : asc wSto := by unfold asc; decide
theorem asc_dis : asc wDis := by unfold asc; decide
theorem MQr_10 (h : MQr b n q σ g) : MQr b n q (sN σ 10 1) g := ⟨h.1, WF_10 h.2.1, h.2.2.1, h.2.2.2.1, h.2.2.2.2⟩
theorem ket_10 {kd : Nat} : (pKet b n kd σ).1 10 = σ.1 10 := by
  unfold pKet
  split
  · dsimp only
    show (pNumS b n 0 9 _).1 10 = _
    rw [pNumS_o (by omega)]
    show (pNumS b n 0 _ _).1 10 = _
    rw [pNumS_o (by omega)]
    show (pNumS b n 1 40 _).1 10 = _
    rw [pNumS_o (by omega)]
    show (pNumS b n 1 24 _).1 10 = _
    rw [pNumS_o (by omega)]
    show (pAdv b n σ).1 10 = _
    exact pAdv_o (by omega)
  · exact pFl_o (by omega)
theorem stv_10 : (pStv b n σ).1 10 = σ.1 10 := by
  unfold pStv
  split
  · dsimp only
    show (pNumS b n 1 40 _).1 10 = _
    rw [pNumS_o (by omega)]
    exact pAdv_o (by omega)
  · exact pFl_o (by omega)
theorem dsh_10 : (pDsh b n σ).1 10 = σ.1 10 := by
  unfold pDsh
  split
  · dsimp only
    show (loopW isNm _ 600 _).1 10 = _
    rw [loopW_o (fun s => pStp_o (by omega)), pStp_o (by omega)]
    exact pAdv_o (by omega)
  · exact pFl_o (by omega)
theorem lif_10 (h0 : σ.1 0 = 0) (h1 : σ.1 10 ≤ 1) : (pLif b n σ).1 10 = 1 := by
  unfold pLif
  rw [if_pos h0]
  split
  · rw [(kf_expr 6 _).2 10 (by omega), pAdv_o (by omega)]; rfl
  · rw [pFl_o (by omega)]; omega
theorem ex_10 : (pEx b n x σ).1 10 = σ.1 10 := kf_ex.2 10 (by omega)
end LINES
