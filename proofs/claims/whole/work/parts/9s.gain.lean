/-! ===== reading goes on, and lays no more than it reads ===== -/
/-- from σ to σ' at least k bytes are read, and m more than are laid -/
def gn (σ σ' : Sg) (k m : Nat) : Prop := σ'.1 0 = 0 → σ.1 0 = 0 ∧ σ.1 2 + k ≤ σ'.1 2 ∧ σ'.1 9 + σ.1 2 + m ≤ σ.1 9 + σ'.1 2
def PX (b : Rw) (n : Nat) (p : Sg → Sg) (k m : Nat) : Prop := ∀ σ : Sg, WF b n σ → WF b n (p σ) ∧ gn σ (p σ) k m
section GAIN
variable {b : Rw} {n : Nat} {σ σ' σ'' : Sg} {k m k' m' : Nat} {x : Int32} {rc p : Sg → Sg}
theorem gn_refl : gn σ σ 0 0 := fun h => ⟨h, Nat.le_refl _, Nat.le_refl _⟩
theorem gn_trans (h : gn σ σ' k m) (h' : gn σ' σ'' k' m') : gn σ σ'' (k + k') (m + m') := by
  intro z
  obtain ⟨a0, a1, a2⟩ := h' z
  obtain ⟨b0, b1, b2⟩ := h a0
  exact ⟨b0, by omega, by omega⟩
theorem gn_weak (h : gn σ σ' k m) (hk : k' ≤ k) (hm : m' ≤ m) : gn σ σ' k' m' := by
  intro z
  obtain ⟨a0, a1, a2⟩ := h z
  exact ⟨a0, by omega, by omega⟩
theorem pAdd_o {i : Nat} (hi : ¬ i = 9) : (pAdd x σ).1 i = σ.1 i := by
  unfold pAdd
  split
  · show (if i = 9 then _ else σ.1 i) = _; rw [if_neg hi]
  · rfl
theorem pAdd_9 : (pAdd x σ).1 9 ≤ σ.1 9 + 1 := by
  unfold pAdd
  split
  · exact Nat.le_refl _
  · omega
theorem gn_add (h : gn σ σ' k (m + 1)) : gn σ (pAdd x σ') k m := by
  intro z
  rw [pAdd_1] at z
  obtain ⟨a0, a1, a2⟩ := h z
  have := pAdd_9 (x := x) (σ := σ')
  rw [pAdd_o (i := 2) (by decide)]
  exact ⟨a0, a1, by omega⟩
theorem WF_add (h : WF b n σ) : WF b n (pAdd x σ) := by
  refine ⟨h.1, by rw [pAdd_1]; exact h.2.1, fun z => ?_⟩
  rw [pAdd_1] at z
  rw [pAdd_o (i := 2) (by decide), pAdd_o (i := 3) (by decide), pAdd_o (i := 4) (by decide), pAdd_o (i := 5) (by decide), pAdd_o (i := 10) (by decide)]
  exact h.2.2 z
theorem WF_adv (h : WF b n σ) : WF b n (pAdv b n σ) := pAdv_WF h.1 h.2.1 (fun z => ⟨(h.2.2 z).2.1, (h.2.2 z).2.2.2.2.2⟩)
theorem gn_adv0 (h : WF b n σ) : gn σ (pAdv b n σ) 0 0 := by
  intro z
  rw [pAdv_0] at z
  obtain ⟨w1, w2, w3, w4, w5, w6⟩ := h.2.2 z
  have hb := begs_b (b := b) (σ := σ) w2
  have e2 : (pAdv b n σ).1 2 = begs b n σ := by unfold pAdv; rw [if_pos z]; simp only [sN_at]; rfl
  rw [e2, pAdv_o (i := 9) (by omega)]
  exact ⟨z, by omega, by omega⟩
theorem gn_adv (h : WF b n σ) (ht : ¬ σ.1 3 = 0) : gn σ (pAdv b n σ) 1 1 := by
  intro z
  rw [pAdv_0] at z
  obtain ⟨w1, w2, w3, w4, w5, w6⟩ := h.2.2 z
  have := w5 ht
  have hb := begs_b (b := b) (σ := σ) w2
  have e2 : (pAdv b n σ).1 2 = begs b n σ := by unfold pAdv; rw [if_pos z]; simp only [sN_at]; rfl
  rw [e2, pAdv_o (i := 9) (by omega)]
  exact ⟨z, by omega, by omega⟩
theorem gn_fl {c : Nat} (hc : 1 ≤ c) : gn σ (pFl c σ) k m := by
  intro z
  rw [pFl_0] at z
  split at z <;> omega
theorem isS_t (h : pIsS b x σ = true) : σ.1 0 = 0 ∧ σ.1 3 = 3 := by
  unfold pIsS at h
  rw [Bool.and_eq_true, Bool.and_eq_true, decide_eq_true_eq, decide_eq_true_eq] at h
  exact ⟨h.1, h.2.1⟩
theorem isW_t {w : List Int32} (h : pIsW b w σ = true) : σ.1 0 = 0 ∧ σ.1 3 = 1 := by
  unfold pIsW at h
  rw [Bool.and_eq_true, Bool.and_eq_true, decide_eq_true_eq, decide_eq_true_eq] at h
  exact ⟨h.1, h.2.1⟩
theorem PX_ex : PX b n (pEx b n x) 1 1 := by
  intro σ h
  unfold pEx
  split
  · next hs => exact ⟨WF_adv h, gn_adv h (by have := (isS_t hs).2; omega)⟩
  · exact ⟨pFl_WF h (by omega), gn_fl (by omega)⟩
theorem need_ok {lo hi : Nat} (h : (pNeed lo hi σ).1 0 = 0) : σ.1 0 = 0 ∧ σ.1 3 = 2 ∧ σ.1 4 - σ.1 2 ≤ 4 ∧ lo ≤ σ.1 5 ∧ σ.1 5 ≤ hi := by
  have e := pNeed_c h
  rw [e] at h
  unfold pNeed at e
  rw [if_pos h] at e
  by_cases h3 : σ.1 3 = 2
  · rw [if_pos h3] at e
    by_cases h4 : 4 < σ.1 4 - σ.1 2 ∨ σ.1 5 < lo ∨ hi < σ.1 5
    · rw [if_pos h4] at e
      have : (pFl 2 σ).1 0 = 0 := by rw [e]; exact h
      rw [pFl_0, if_pos h] at this
      omega
    · exact ⟨h, h3, by omega, by omega, by omega⟩
  · rw [if_neg h3] at e
    have : (pFl 1 σ).1 0 = 0 := by rw [e]; exact h
    rw [pFl_0, if_pos h] at this
    omega
theorem need_WF {lo hi : Nat} (h : WF b n σ) : WF b n (pNeed lo hi σ) := by
  unfold pNeed
  repeat' split
  · exact pFl_WF h (by omega)
  · exact h
  · exact pFl_WF h (by omega)
  · exact h
theorem PX_num {lo hi : Nat} : PX b n (pNumS b n lo hi) 1 1 := by
  intro σ h
  refine ⟨pNumS_WF h (need_WF h), ?_⟩
  unfold pNumS
  split
  · next hn =>
    have e := pNeed_c hn
    rw [e]
    exact gn_adv h (by have := (need_ok hn).2.1; omega)
  · next hn => exact fun z => absurd z hn
theorem PX_part (hrc : PX b n rc 0 0) : PX b n (pPart b n rc) 1 0 := by
  intro σ h
  unfold pPart
  split
  · split
    · obtain ⟨w, g⟩ := PX_num (lo := 0) (hi := 9999) σ h
      exact ⟨WF_add w, gn_add g⟩
    · split
      · next h1 =>
        split
        · exact ⟨pFl_WF h (by omega), gn_fl (by omega)⟩
        · rename_i o v hv
          refine ⟨WF_adv (WF_add h), fun z => ?_⟩
          obtain ⟨a0, a1, a2⟩ := gn_adv (WF_add h) (by rw [pAdd_o (i := 3) (by decide)]; omega) z
          rw [pAdd_1] at a0
          rw [pAdd_o (i := 2) (by decide)] at a1 a2
          have := pAdd_9 (x := Int32.ofNat (10000 + v)) (σ := σ)
          exact ⟨a0, a1, by omega⟩
      · split
        · obtain ⟨w1, g1⟩ := PX_ex (x := 40) σ h
          obtain ⟨w2, g2⟩ := hrc _ w1
          obtain ⟨w3, g3⟩ := PX_ex (x := 41) _ w2
          exact ⟨w3, gn_weak (gn_trans g1 (gn_trans g2 g3)) (by omega) (by omega)⟩
        · next hn =>
          obtain ⟨w1, g1⟩ := PX_ex (x := 40) σ h
          exact ⟨w1, fun z => absurd z hn⟩
  · next h0 => exact ⟨h, fun z => absurd z h0⟩
theorem PX_loop {T : Sg → Bool} {B : Sg → Sg} (hB : ∀ σ, WF b n σ → T σ = true → WF b n (B σ) ∧ gn σ (B σ) 0 0) : ∀ f : Nat, PX b n (loopW T B f) 0 0 := by
  intro f
  induction f with
  | zero => intro σ h; exact ⟨h, gn_refl⟩
  | succ f ih =>
    intro σ h
    unfold loopW
    split
    · next ht =>
      obtain ⟨w1, g1⟩ := hB σ h ht
      obtain ⟨w2, g2⟩ := ih _ w1
      exact ⟨w2, gn_trans g1 g2⟩
    · exact ⟨h, gn_refl⟩
theorem PX_seq {q : Sg → Sg} (h1 : PX b n p k m) (h2 : PX b n q k' m') : PX b n (fun σ => q (p σ)) (k + k') (m + m') := by
  intro σ h
  obtain ⟨w1, g1⟩ := h1 σ h
  obtain ⟨w2, g2⟩ := h2 _ w1
  exact ⟨w2, gn_trans g1 g2⟩
/-- a token, then p, then a sign laid -/
theorem adv_add (hp1 : PX b n p 1 0) (h : WF b n σ) (ht : ¬ σ.1 3 = 0) : WF b n (p (pAdv b n σ)) ∧ gn σ (p (pAdv b n σ)) 2 1 := by
  obtain ⟨w2, g2⟩ := hp1 _ (WF_adv h)
  exact ⟨w2, gn_trans (gn_adv h ht) g2⟩
theorem sgn_t {y : Int32} (h : (pIsS b x σ || pIsS b y σ) = true) : σ.1 0 = 0 ∧ σ.1 3 = 3 := by
  rw [Bool.or_eq_true] at h
  rcases h with h | h <;> exact isS_t h
theorem PX_prod (hrc : PX b n rc 0 0) : PX b n (pProd b n rc) 1 0 := by
  intro σ h
  obtain ⟨w1, g1⟩ := PX_part hrc σ h
  obtain ⟨w2, g2⟩ := PX_loop (b := b) (n := n) (T := fun s => pIsS b 42 s || pIsS b 47 s) (B := fun s => pAdd (if pIsS b 42 s = true then 10014 else 10015) (pPart b n rc (pAdv b n s))) (fun s hs ht => by
    obtain ⟨w, g⟩ := adv_add (PX_part hrc) hs (by have := (sgn_t ht).2; omega)
    exact ⟨WF_add w, gn_weak (gn_add g) (by omega) (by omega)⟩) 600 _ w1
  exact ⟨w2, gn_trans g1 g2⟩
theorem PX_sum (hrc : PX b n rc 0 0) : PX b n (pSum b n rc) 1 0 := by
  intro σ h
  obtain ⟨w1, g1⟩ := PX_prod hrc σ h
  obtain ⟨w2, g2⟩ := PX_loop (b := b) (n := n) (T := fun s => pIsS b 43 s || pIsS b 45 s) (B := fun s => pAdd (if pIsS b 43 s = true then 10012 else 10013) (pProd b n rc (pAdv b n s))) (fun s hs ht => by
    obtain ⟨w, g⟩ := adv_add (PX_prod hrc) hs (by have := (sgn_t ht).2; omega)
    exact ⟨WF_add w, gn_weak (gn_add g) (by omega) (by omega)⟩) 600 _ w1
  exact ⟨w2, gn_trans g1 g2⟩
theorem PX_not : ∀ (f c : Nat) (σ : Sg), WF b n σ → WF b n (notS b n f σ) ∧ ∃ e, notN b n f c σ = c + e ∧ gn σ (notS b n f σ) e e := by
  intro f
  induction f with
  | zero => intro c σ h; exact ⟨h, 0, rfl, gn_refl⟩
  | succ f ih =>
    intro c σ h
    unfold notS notN
    split
    · next hw =>
      obtain ⟨w1, e, e1, g1⟩ := ih (c + 1) (pAdv b n σ) (WF_adv h)
      refine ⟨w1, e + 1, by rw [e1]; omega, ?_⟩
      have := gn_trans (gn_adv h (by have := (isW_t hw).2; omega)) g1
      rw [Nat.add_comm 1 e] at this
      exact this
    · exact ⟨h, 0, rfl, gn_refl⟩
theorem WF_itN : ∀ (e : Nat) (σ : Sg), WF b n σ → WF b n (itN (pAdd x) e σ) := by
  intro e
  induction e with
  | zero => intro σ h; exact h
  | succ e ih => intro σ h; exact ih _ (WF_add h)
theorem gn_itN : ∀ (e : Nat) (σ' : Sg), gn σ σ' k (m + e) → gn σ (itN (pAdd x) e σ') k m := by
  intro e
  induction e with
  | zero => intro σ' h; exact h
  | succ e ih => intro σ' h; exact ih _ (gn_add h)
theorem PX_cmp (hrc : PX b n rc 0 0) : PX b n (pCmp b n rc) 0 0 := by
  intro σ h
  unfold pCmp
  split
  · next hs =>
    obtain ⟨w, g⟩ := adv_add (PX_sum hrc) h (by have := (sgn_t hs).2; omega)
    exact ⟨WF_add w, gn_weak (gn_add g) (by omega) (by omega)⟩
  · exact ⟨h, gn_refl⟩
theorem PX_test (hrc : PX b n rc 0 0) : PX b n (pTest b n rc) 1 0 := by
  intro σ h
  obtain ⟨w1, e, e1, g1⟩ := PX_not (b := b) (n := n) 6 0 σ h
  unfold pTest
  split
  · exact ⟨pFl_WF w1 (by omega), fun z => by rw [pFl_0] at z; split at z <;> omega⟩
  · obtain ⟨w2, g2⟩ := PX_sum hrc _ w1
    obtain ⟨w3, g3⟩ := PX_cmp hrc _ w2
    refine ⟨WF_itN _ _ w3, ?_⟩
    rw [e1, Nat.zero_add]
    exact gn_itN e _ (gn_weak (gn_trans g1 (gn_trans g2 g3)) (by omega) (by omega))
theorem PX_both (hrc : PX b n rc 0 0) : PX b n (pBoth b n rc) 1 0 := by
  intro σ h
  obtain ⟨w1, g1⟩ := PX_test hrc σ h
  obtain ⟨w2, g2⟩ := PX_loop (b := b) (n := n) (T := pIsW b wAnd) (B := fun s => pAdd 10009 (pTest b n rc (pAdv b n s))) (fun s hs ht => by
    obtain ⟨w, g⟩ := adv_add (PX_test hrc) hs (by have := (isW_t ht).2; omega)
    exact ⟨WF_add w, gn_weak (gn_add g) (by omega) (by omega)⟩) 600 _ w1
  exact ⟨w2, gn_trans g1 g2⟩
theorem PX_exb (hrc : PX b n rc 0 0) : PX b n (pExB b n rc) 1 0 := by
  intro σ h
  obtain ⟨w1, g1⟩ := PX_both hrc σ h
  obtain ⟨w2, g2⟩ := PX_loop (b := b) (n := n) (T := pIsW b wOr) (B := fun s => pAdd 10008 (pBoth b n rc (pAdv b n s))) (fun s hs ht => by
    obtain ⟨w, g⟩ := adv_add (PX_both hrc) hs (by have := (isW_t ht).2; omega)
    exact ⟨WF_add w, gn_weak (gn_add g) (by omega) (by omega)⟩) 600 _ w1
  exact ⟨w2, gn_trans g1 g2⟩
theorem PX_expr : ∀ m : Nat, PX b n (pExpr b n m) 0 0 := by
  intro m
  induction m with
  | zero =>
    intro σ h
    unfold pExpr
    split
    · exact ⟨pFl_WF h (by omega), gn_fl (by omega)⟩
    · exact ⟨pFl_WF h (by omega), gn_fl (by omega)⟩
  | succ m ih =>
    intro σ h
    obtain ⟨w, g⟩ := PX_exb ih σ h
    exact ⟨w, gn_weak g (by omega) (by omega)⟩
/-- nothing that an expression could begin with -/
theorem loopW_err {T : Sg → Bool} {B : Sg → Sg} (h : T σ = false) : ∀ f : Nat, loopW T B f σ = σ := by
  intro f
  cases f with
  | zero => rfl
  | succ f => unfold loopW; rw [if_neg (by rw [h]; simp)]
theorem ex_no (h0 : σ.1 0 = 0) (hm : mayB b σ = false) : pExB b n rc σ = pFl 1 σ := by
  unfold mayB at hm
  rw [Bool.or_eq_false_iff, Bool.or_eq_false_iff, decide_eq_false_iff_not, decide_eq_false_iff_not] at hm
  obtain ⟨h2, h1, h40⟩ := hm
  have hf : ¬ (pFl 1 σ).1 0 = 0 := by rw [pFl_0, if_pos h0]; omega
  have nS : ∀ y : Int32, pIsS b y (pFl 1 σ) = false := fun y => by unfold pIsS; rw [decide_eq_false hf, Bool.false_and]
  have nW : ∀ w : List Int32, pIsW b w (pFl 1 σ) = false := fun w => by unfold pIsW; rw [decide_eq_false hf, Bool.false_and]
  have nW0 : pIsW b wNot σ = false := by unfold pIsW; rw [decide_eq_false h1, Bool.false_and, Bool.and_false]
  have e1 : pPart b n rc σ = pFl 1 σ := by
    have e40 : pEx b n 40 σ = pFl 1 σ := by unfold pEx; rw [h40, if_neg (by simp)]
    unfold pPart
    rw [if_pos h0, if_neg h2, if_neg h1, e40, if_neg hf]
  have e2 : pProd b n rc σ = pFl 1 σ := by
    unfold pProd
    rw [e1]
    exact loopW_err (by rw [nS, nS]; rfl) 600
  have e3 : pSum b n rc σ = pFl 1 σ := by
    unfold pSum
    rw [e2]
    exact loopW_err (by rw [nS, nS]; rfl) 600
  have en : notN b n 6 0 σ = 0 := by unfold notN; rw [nW0, if_neg (by simp)]
  have es : notS b n 6 σ = σ := by unfold notS; rw [nW0, if_neg (by simp)]
  have e4 : pTest b n rc σ = pFl 1 σ := by
    unfold pTest
    rw [en, es, if_neg (by omega), e3]
    unfold pCmp
    rw [nS, nS, if_neg (by simp)]
    rfl
  have e5 : pBoth b n rc σ = pFl 1 σ := by
    unfold pBoth
    rw [e4]
    exact loopW_err (nW _) 600
  unfold pExB
  rw [e5]
  exact loopW_err (nW _) 600
/-- an expression that stands in a fault changes nothing -/
theorem part_err (h0 : ¬ σ.1 0 = 0) : pPart b n rc σ = σ := by unfold pPart; rw [if_neg h0]
theorem add_err (h0 : ¬ σ.1 0 = 0) : pAdd x σ = σ := by unfold pAdd; rw [if_neg (fun z => h0 z.1)]
theorem isS_err (h0 : ¬ σ.1 0 = 0) : pIsS b x σ = false := by unfold pIsS; rw [decide_eq_false h0, Bool.false_and]
theorem isW_err {w : List Int32} (h0 : ¬ σ.1 0 = 0) : pIsW b w σ = false := by unfold pIsW; rw [decide_eq_false h0, Bool.false_and]
theorem exb_err (h0 : ¬ σ.1 0 = 0) : pExB b n rc σ = σ := by
  have e2 : pProd b n rc σ = σ := by
    unfold pProd
    rw [part_err h0]
    exact loopW_err (by rw [isS_err h0, isS_err h0]; rfl) 600
  have e3 : pSum b n rc σ = σ := by
    unfold pSum
    rw [e2]
    exact loopW_err (by rw [isS_err h0, isS_err h0]; rfl) 600
  have en : notN b n 6 0 σ = 0 := by unfold notN; rw [isW_err h0, if_neg (by simp)]
  have es : notS b n 6 σ = σ := by unfold notS; rw [isW_err h0, if_neg (by simp)]
  have e4 : pTest b n rc σ = σ := by
    unfold pTest
    rw [en, es, if_neg (by omega), e3]
    unfold pCmp
    rw [isS_err h0, isS_err h0, if_neg (by simp)]
    rfl
  have e5 : pBoth b n rc σ = σ := by
    unfold pBoth
    rw [e4]
    exact loopW_err (isW_err h0) 600
  unfold pExB
  rw [e5]
  exact loopW_err (isW_err h0) 600
end GAIN
