/-! ===== what is read is good: the code ===== -/
def segC (code : Rw) : Nat → Nat → Nat → Nat → Prop
  | 0, _, p, q => p = q
  | m + 1, i, p, q => (0 ≤ (code i).toInt ∧ code i < 10007 ∧ p < 40 ∧ segC code m (i + 1) (p + 1) q) ∨ (code i = 10007 ∧ 0 < p ∧ segC code m (i + 1) p q) ∨ (isOp (code i) ∧ 1 < p ∧ segC code m (i + 1) (p - 1) q)
/-- from σ to σ' code is laid that takes a stack of q + a to one of q + e, if q + h is at most 40 -/
def cx (σ σ' : Sg) (h a e : Nat) : Prop := σ'.1 0 = 0 → σ.1 0 = 0 ∧ σ.1 9 ≤ σ'.1 9 ∧ (∀ i, i < σ.1 9 → σ'.2 8 i = σ.2 8 i) ∧ ∀ q, q + h ≤ 40 → segC (σ'.2 8) (σ'.1 9 - σ.1 9) (σ.1 9) (q + a) (q + e)
section CODE
variable {n : Nat} {b : Rw} {x : Int32} {σ σ' σ'' : Sg} {h h' a e e' c : Nat} {rc p : Sg → Sg}
theorem seg_ok {code : Rw} : ∀ m i p : Nat, segC code m i p 1 → okC code m i p := by
  intro m
  induction m with
  | zero => intro i p h; exact h
  | succ m ih =>
    intro i p h
    rcases h with ⟨h1, h2, h3, h4⟩ | ⟨h1, h2, h3⟩ | ⟨h1, h2, h3⟩
    · exact Or.inl ⟨h1, h2, h3, ih _ _ h4⟩
    · exact Or.inr (Or.inl ⟨h1, h2, ih _ _ h3⟩)
    · exact Or.inr (Or.inr ⟨h1, h2, ih _ _ h3⟩)
theorem seg_ap {code code' : Rw} {m' : Nat} : ∀ m i p r q : Nat, (∀ j, i ≤ j → j < i + m → code' j = code j) → segC code m i p r → segC code' m' (i + m) r q → segC code' (m + m') i p q := by
  intro m
  induction m with
  | zero =>
    intro i p r q _ h1 h2
    have h1' : p = r := h1
    rw [Nat.zero_add, h1']; exact h2
  | succ m ih =>
    intro i p r q hc h1 h2
    rw [show m + 1 + m' = (m + m') + 1 by omega]
    have ec := hc i (Nat.le_refl i) (by omega)
    rw [show i + (m + 1) = i + 1 + m by omega] at h2
    have hc' : ∀ j, i + 1 ≤ j → j < i + 1 + m → code' j = code j := fun j k1 k2 => hc j (by omega) (by omega)
    rcases h1 with ⟨k1, k2, k3, k4⟩ | ⟨k1, k2, k3⟩ | ⟨k1, k2, k3⟩
    · exact Or.inl ⟨by rw [ec]; exact k1, by rw [ec]; exact k2, k3, ih _ _ _ _ hc' k4 h2⟩
    · exact Or.inr (Or.inl ⟨by rw [ec]; exact k1, k2, ih _ _ _ _ hc' k3 h2⟩)
    · exact Or.inr (Or.inr ⟨by rw [ec]; exact k1, k2, ih _ _ _ _ hc' k3 h2⟩)
theorem cx_t (h1 : cx σ σ' h a e) (h2 : cx σ' σ'' h e e') : cx σ σ'' h a e' := by
  intro z
  obtain ⟨z1, l1, c1, s1⟩ := h2 z
  obtain ⟨z0, l0, c0, s0⟩ := h1 z1
  refine ⟨z0, by omega, fun i hi => (c1 i (by omega)).trans (c0 i hi), fun q hq => ?_⟩
  have k1 := s1 q hq
  rw [show σ'.1 9 = σ.1 9 + (σ'.1 9 - σ.1 9) by omega] at k1
  rw [show σ''.1 9 - σ.1 9 = (σ'.1 9 - σ.1 9) + (σ''.1 9 - (σ.1 9 + (σ'.1 9 - σ.1 9))) by omega]
  exact seg_ap _ _ _ _ _ (fun j _ hj => c1 j (by omega)) (s0 q hq) k1
theorem cx_w (h1 : cx σ σ' h a e) (hh : h ≤ h') : cx σ σ' h' a e := fun z => by
  obtain ⟨z0, l0, c0, s0⟩ := h1 z
  exact ⟨z0, l0, c0, fun q hq => s0 q (by omega)⟩
theorem cx_s (h1 : cx σ σ' h a e) : cx σ σ' (h + 1) (a + 1) (e + 1) := fun z => by
  obtain ⟨z0, l0, c0, s0⟩ := h1 z
  refine ⟨z0, l0, c0, fun q hq => ?_⟩
  have := s0 (q + 1) (by omega)
  rw [show q + 1 + a = q + (a + 1) by omega, show q + 1 + e = q + (e + 1) by omega] at this
  exact this
theorem cx_k (hz : σ'.1 0 = 0 → σ.1 0 = 0) (hk : σ'.2 = σ.2) (h9 : σ'.1 9 = σ.1 9) : cx σ σ' h a a := fun z => ⟨hz z, by omega, fun i _ => by rw [hk], fun q _ => by rw [h9, Nat.sub_self]; exact rfl⟩
theorem cx_adv : cx σ (pAdv b n σ) h a a := cx_k (fun z => by rw [pAdv_0] at z; exact z) pAdv_K (pAdv_o (by omega))
theorem cx_fl (hc : 1 ≤ c) : cx σ (pFl c σ) h a e := fun z => absurd z (fl_z hc)
theorem cx_num {lo hi : Nat} : cx σ (pNumS b n lo hi σ) h a a := cx_k pNumS_0 pNumS_K (pNumS_o (by omega))
theorem cx_ex : cx σ (pEx b n x σ) h a a := by
  unfold pEx
  split
  · exact cx_adv
  · exact cx_fl (by omega)
/-- one sign laid -/
theorem cx_add (h9 : σ.1 0 = 0 → σ.1 9 < 600) (hx : ∀ q, q + h ≤ 40 → (0 ≤ x.toInt ∧ x < 10007 ∧ q + a < 40 ∧ a + 1 = e) ∨ (x = 10007 ∧ 0 < a ∧ a = e) ∨ (isOp x ∧ 1 < a ∧ a - 1 = e)) : cx σ (pAdd x σ) h a e := by
  intro z
  have z0 : σ.1 0 = 0 := by
    by_cases h0 : σ.1 0 = 0
    · exact h0
    · rw [add_err h0] at z; exact z
  have e1 : pAdd x σ = sN (sK σ 8 (σ.1 9) x) 9 (σ.1 9 + 1) := by unfold pAdd; rw [if_pos ⟨z0, h9 z0⟩]
  rw [e1]
  refine ⟨z0, show σ.1 9 ≤ σ.1 9 + 1 by omega, fun i hi => sK_ne (by omega), fun q hq => ?_⟩
  show segC ((sK σ 8 (σ.1 9) x).2 8) (σ.1 9 + 1 - σ.1 9) (σ.1 9) (q + a) (q + e)
  rw [show σ.1 9 + 1 - σ.1 9 = 1 by omega]
  have ec : (sK σ 8 (σ.1 9) x).2 8 (σ.1 9) = x := sK_at
  rcases hx q hq with ⟨k1, k2, k3, k4⟩ | ⟨k1, k2, k3⟩ | ⟨k1, k2, k3⟩
  · exact Or.inl ⟨by rw [ec]; exact k1, by rw [ec]; exact k2, k3, show q + a + 1 = q + e by omega⟩
  · exact Or.inr (Or.inl ⟨by rw [ec]; exact k1, by omega, show q + a = q + e by omega⟩)
  · exact Or.inr (Or.inr ⟨by rw [ec]; exact k1, by omega, show q + a - 1 = q + e by omega⟩)
/-- an operator behind two values -/
theorem cx_op (h9 : σ.1 0 = 0 → σ.1 9 < 600) (hx : isOp x) : cx σ (pAdd x σ) h 2 1 := cx_add h9 (fun q _ => Or.inr (Or.inr ⟨hx, by omega, rfl⟩))
def CX (b : Rw) (n : Nat) (p : Sg → Sg) (h : Nat) : Prop := ∀ σ : Sg, WF b n σ → GI σ → cx σ (p σ) h 0 1
theorem ti_num {v : Nat} (hv : v ≤ 9999) : 0 ≤ (Int32.ofNat v).toInt ∧ Int32.ofNat v < 10007 := by
  refine ⟨?_, ?_⟩
  · rw [Int32.toInt_ofNat_of_lt (by omega)]; omega
  · rw [show (10007 : Int32) = Int32.ofNat 10007 from rfl, nn_lt (by omega) (by omega)]; omega
theorem ti_val {v : Nat} (hv : v < 7) : 0 ≤ (Int32.ofNat (10000 + v)).toInt ∧ Int32.ofNat (10000 + v) < 10007 := by
  refine ⟨?_, ?_⟩
  · rw [Int32.toInt_ofNat_of_lt (by omega)]; omega
  · rw [show (10007 : Int32) = Int32.ofNat 10007 from rfl, nn_lt (by omega) (by omega)]; omega
theorem CX_part (hrc : CX b n rc h) (hpx : PX b n rc 0 0) : CX b n (pPart b n rc) (h + 1) := by
  intro σ hW hGi
  unfold pPart
  split
  · next h0 =>
    split
    · have hb : pNumV 0 9999 σ ≤ 9999 := pNumV_le hW
      have w := PX_num (lo := 0) (hi := 9999) σ hW
      have t := ti_num hb
      exact cx_t cx_num (cx_add (gn_lt w.1 w.2 hGi) (fun q hq => Or.inl ⟨t.1, t.2, by omega, rfl⟩))
    · split
      · next h1 =>
        split
        · exact cx_fl (by omega)
        · rename_i o v hv
          have hv7 : v < 7 := by have := whW_lt wVal 0 hv; exact (by simpa [wVal] using this)
          have t := ti_val hv7
          refine cx_t (cx_add (fun _ => ?_) (fun q hq => Or.inl ⟨t.1, t.2, by omega, rfl⟩)) cx_adv
          obtain ⟨k1, k2, -, -, k5, -⟩ := hW.2.2 h0
          have k5' := k5 (by omega)
          have := hGi h0
          have := hW.1
          omega
      · split
        · obtain ⟨w1, g1⟩ := PX_ex (x := 40) σ hW
          have gi := GI_gn (gn_weak g1 (Nat.le_refl _) (by omega)) hGi
          exact cx_t cx_ex (cx_t (cx_w (hrc _ w1 gi) (by omega)) cx_ex)
        · next hn => exact fun z => absurd z hn
  · next h0 => exact fun z => absurd z h0
/-- a row of operands, each behind the first with its operator -/
theorem CX_row {T : Sg → Bool} {op : Sg → Int32} (hp1 : CX b n p h) (hpx : PX b n p 1 0) (hT : ∀ σ, T σ = true → ¬ σ.1 3 = 0) (hop : ∀ σ, isOp (op σ)) : CX b n (fun σ => loopW T (fun s => pAdd (op s) (p (pAdv b n s))) 600 (p σ)) (h + 1) := by
  have hl : ∀ (f : Nat) (σ : Sg), WF b n σ → GI σ → cx σ (loopW T (fun s => pAdd (op s) (p (pAdv b n s))) f σ) (h + 1) 1 1 := by
    intro f
    induction f with
    | zero => intro σ _ _; exact cx_k (fun z => z) rfl rfl
    | succ f ih =>
      intro σ hW hGi
      unfold loopW
      split
      · next ht =>
        have wa := WF_adv hW
        have ga : GI (pAdv b n σ) := GI_gn (gn_adv0 hW) hGi
        obtain ⟨w, g⟩ := adv_add hpx hW (hT σ ht)
        have c1 := cx_s (hp1 _ wa ga)
        have c2 : cx (p (pAdv b n σ)) (pAdd (op σ) (p (pAdv b n σ))) (h + 1) 2 1 := cx_op (gn_lt w g hGi) (hop σ)
        have gi2 : GI (pAdd (op σ) (p (pAdv b n σ))) := GI_gn (gn_add g) hGi
        exact cx_t cx_adv (cx_t c1 (cx_t c2 (ih _ (WF_add w) gi2)))
      · exact cx_k (fun z => z) rfl rfl
  intro σ hW hGi
  obtain ⟨w, g⟩ := hpx σ hW
  exact cx_t (cx_w (hp1 σ hW hGi) (by omega)) (hl 600 _ w (GI_gn g hGi))
theorem CX_prod (hrc : CX b n rc h) (hpx : PX b n rc 0 0) : CX b n (pProd b n rc) (h + 2) := CX_row (CX_part hrc hpx) (PX_part hpx) (fun s ht => by have := (sgn_t ht).2; omega) (fun s => by split <;> (unfold isOp; decide))
theorem CX_sum (hrc : CX b n rc h) (hpx : PX b n rc 0 0) : CX b n (pSum b n rc) (h + 3) := CX_row (CX_prod hrc hpx) (PX_prod hpx) (fun s ht => by have := (sgn_t ht).2; omega) (fun s => by split <;> (unfold isOp; decide))
theorem cx_not (f : Nat) : ∀ σ : Sg, cx σ (notS b n f σ) h a a := by
  induction f with
  | zero => intro σ; exact cx_k (fun z => z) rfl rfl
  | succ f ih =>
    intro σ
    unfold notS
    split
    · exact cx_t cx_adv (ih _)
    · exact cx_k (fun z => z) rfl rfl
theorem cx_itN : ∀ (e : Nat) (σ : Sg), (σ.1 0 = 0 → σ.1 9 + e ≤ 600) → cx σ (itN (pAdd 10007) e σ) h 1 1 := by
  intro e
  induction e with
  | zero => intro σ _; exact cx_k (fun z => z) rfl rfl
  | succ e ih =>
    intro σ h9
    have c1 : cx σ (pAdd 10007 σ) h 1 1 := cx_add (fun z => by have := h9 z; omega) (fun q _ => Or.inr (Or.inl ⟨rfl, by omega, rfl⟩))
    refine cx_t c1 (ih _ (fun z => ?_))
    have z0 := (c1 z).1
    have := pAdd_9 (x := 10007) (σ := σ)
    have := h9 z0
    omega
theorem CX_cmp (hrc : CX b n rc h) (hpx : PX b n rc 0 0) (hW : WF b n σ) (hGi : GI σ) : cx σ (pCmp b n rc σ) (h + 4) 1 1 := by
  unfold pCmp
  split
  · next hs =>
    have wa := WF_adv hW
    have ga : GI (pAdv b n σ) := GI_gn (gn_adv0 hW) hGi
    obtain ⟨w, g⟩ := adv_add (PX_sum hpx) hW (by have := (sgn_t hs).2; omega)
    exact cx_t cx_adv (cx_t (cx_s (CX_sum hrc hpx _ wa ga)) (cx_op (gn_lt w g hGi) (by split <;> (unfold isOp; decide))))
  · exact cx_k (fun z => z) rfl rfl
theorem CX_test (hrc : CX b n rc h) (hpx : PX b n rc 0 0) : CX b n (pTest b n rc) (h + 4) := by
  intro σ hW hGi
  obtain ⟨w1, e, e1, g1⟩ := PX_not (b := b) (n := n) 6 0 σ hW
  unfold pTest
  split
  · exact fun z => absurd z (fl_z (by omega))
  · have gi1 : GI (notS b n 6 σ) := GI_gn (gn_weak g1 (Nat.le_refl _) (by omega)) hGi
    obtain ⟨w2, g2⟩ := PX_sum hpx _ w1
    have gi2 := GI_gn g2 gi1
    obtain ⟨w3, g3⟩ := PX_cmp hpx _ w2
    have g4 := gn_trans g1 (gn_trans g2 g3)
    rw [e1, Nat.zero_add]
    refine cx_t (cx_not 6 σ) (cx_t (cx_w (CX_sum hrc hpx _ w1 gi1) (by omega)) (cx_t (CX_cmp hrc hpx w2 gi2) (cx_itN e _ (fun z => ?_))))
    obtain ⟨y0, y1, y2⟩ := g4 z
    have y3 := hGi y0
    obtain ⟨-, y4, -⟩ := w3.2.2 z
    have y5 := (w3.2.2 z).1
    have := w3.1
    omega
theorem CX_both (hrc : CX b n rc h) (hpx : PX b n rc 0 0) : CX b n (pBoth b n rc) (h + 5) := CX_row (T := pIsW b wAnd) (op := fun _ => 10009) (CX_test hrc hpx) (PX_test hpx) (fun s ht => by have := (isW_t ht).2; omega) (fun s => by unfold isOp; decide)
theorem CX_exb (hrc : CX b n rc h) (hpx : PX b n rc 0 0) : CX b n (pExB b n rc) (h + 6) := CX_row (T := pIsW b wOr) (op := fun _ => 10008) (CX_both hrc hpx) (PX_both hpx) (fun s ht => by have := (isW_t ht).2; omega) (fun s => by unfold isOp; decide)
theorem CX_expr : ∀ m : Nat, CX b n (pExpr b n m) (6 * m) := by
  intro m
  induction m with
  | zero =>
    intro σ _ _
    unfold pExpr
    exact cx_fl (by split <;> omega)
  | succ m ih =>
    rw [show 6 * (m + 1) = 6 * m + 6 by omega]
    exact CX_exb ih (PX_expr m)
end CODE
