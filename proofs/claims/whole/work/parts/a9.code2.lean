/-! ===== what is read is good: the code of the whole text ===== -/
def DCo (σ : Sg) : Prop := σ.1 0 = 0 → (σ.1 10 = 0 → σ.1 9 = 0) ∧ (σ.1 9 = 0 ∨ segC (σ.2 8) (σ.1 9) 0 0 1)
section CODE2
variable {n : Nat} {b : Rw} {x : Int32} {σ σ' : Sg} {c i kd : Nat}
theorem sK_o {c' : Nat} (h : ¬ c' = c) : (sK σ c i x).2 c' = σ.2 c' := funext fun j => sK_ne (fun z => h z.1)
theorem sN_2q {v k : Nat} : (sN σ k v).2 = σ.2 := rfl
theorem sN_oq {v k j : Nat} (h : ¬ j = k) : (sN σ k v).1 j = σ.1 j := if_neg h
theorem DC_of (h : DCo σ) (hz : σ'.1 0 = 0 → σ.1 0 = 0) (h8 : σ'.2 8 = σ.2 8) (h9 : σ'.1 9 = σ.1 9) (h10 : σ'.1 10 = σ.1 10) : DCo σ' := by
  intro z
  rw [h8, h9, h10]
  exact h (hz z)
theorem DC_fl (hc : 1 ≤ c) : DCo (pFl c σ) := fun z => absurd z (fl_z hc)
theorem DC_ket (hW : WF b n σ) (h : DCo σ) : DCo (pKet b n kd σ) := by
  refine DC_of h (fun z => ((PX_ket σ hW).2 z).1) ?_ ?_ ket_10
  · unfold pKet
    split
    · dsimp only
      rw [sN_2q, sK_o (by omega), pNumS_K, sK_o (by omega), pNumS_K, sK_o (by omega), pNumS_K, sK_o (by omega), pNumS_K, sK_o (by omega), pAdv_K]
    · rw [pFl_K]
  · unfold pKet
    split
    · dsimp only
      rw [sN_oq (by omega), sK_1, pNumS_o (by omega), sK_1, pNumS_o (by omega), sK_1, pNumS_o (by omega), sK_1, pNumS_o (by omega), sK_1]
      exact pAdv_o (by omega)
    · exact pFl_o (by omega)
theorem DC_stv (hW : WF b n σ) (h : DCo σ) : DCo (pStv b n σ) := by
  refine DC_of h (fun z => ((PX_stv σ hW).2 z).1) ?_ ?_ stv_10
  · unfold pStv
    split
    · dsimp only
      rw [sN_2q, sK_o (by omega), pNumS_K, pAdv_K]
    · rw [pFl_K]
  · unfold pStv
    split
    · dsimp only
      rw [sN_oq (by omega), sK_1, pNumS_o (by omega)]
      exact pAdv_o (by omega)
    · exact pFl_o (by omega)
theorem stpL_F {dd : Nat} : ∀ (f : Nat) (σ : Sg), dsF dd σ (loopW isNm (pStp b n dd) f σ) := by
  intro f
  induction f with
  | zero => intro σ; exact dsF_r
  | succ f ih =>
    intro σ
    unfold loopW
    split
    · exact dsF_t dsF_stp (ih _)
    · exact dsF_r
theorem DC_dsh (hW : WF b n σ) (h : DCo σ) : DCo (pDsh b n σ) := by
  refine DC_of h (fun z => ((PX_dsh σ hW).2 z).1) ?_ ?_ dsh_10
  · unfold pDsh
    split
    · dsimp only
      rw [sN_2q]
      funext j
      rw [(stpL_F 600 _).1 8 j (by omega) (by omega), dsF_stp.1 8 j (by omega) (by omega), sK_ne (by omega), pAdv_K]
    · rw [pFl_K]
  · unfold pDsh
    split
    · dsimp only
      rw [sN_oq (by omega), (stpL_F 600 _).2 9 (by omega), dsF_stp.2 9 (by omega)]
      exact pAdv_o (by omega)
    · exact pFl_o (by omega)
theorem DC_lif (hW : WF b n σ) (hGi : GI σ) (h : DCo σ) : DCo (pLif b n σ) := by
  unfold pLif
  split
  · next h0 =>
    split
    · next h10 =>
      intro z
      have h9 := (h h0).1 h10
      have w := WF_10 hW
      have ga : GI (pAdv b n (sN σ 10 1)) := GI_gn (σ := sN σ 10 1) (gn_adv0 w) hGi
      obtain ⟨z1, l1, c1, s1⟩ := CX_expr (b := b) (n := n) 6 _ (WF_adv w) ga z
      have e9 : (pAdv b n (sN σ 10 1)).1 9 = 0 := by rw [pAdv_o (by omega)]; exact h9
      have k := s1 0 (by omega)
      rw [e9, Nat.sub_zero] at k
      refine ⟨fun y => ?_, Or.inr k⟩
      rw [(kf_expr 6 _).2 10 (by omega), pAdv_o (by omega)] at y
      exact absurd y (show ¬ (1 : Nat) = 0 by omega)
    · exact DC_fl (by omega)
  · exact h
theorem DC_bod (hW : WF b n σ) (hGi : GI σ) (h : DCo σ) : DCo (pBod b n σ) := by
  have hl : DCo (pLin b n σ) := by
    unfold pLin
    split
    · exact DC_ket hW h
    · split
      · exact DC_stv hW h
      · split
        · exact DC_dsh hW h
        · split
          · exact DC_lif hW hGi h
          · exact DC_fl (by omega)
  refine DC_of hl (fun z => ((PX_ex (x := 59) _ (PX_lin σ hW).1).2 z).1) ?_ ?_ ex_10
  · unfold pBod pEx
    split
    · rw [pAdv_K]
    · rw [pFl_K]
  · unfold pBod pEx
    split
    · exact pAdv_o (by omega)
    · exact pFl_o (by omega)
theorem DC_loop : ∀ (f : Nat) (σ : Sg), WF b n σ → GI σ → DCo σ → DCo (loopW isMo (pBod b n) f σ) := by
  intro f
  induction f with
  | zero => intro σ _ _ h; exact h
  | succ f ih =>
    intro σ hW hGi h
    unfold loopW
    split
    · exact ih _ (PX_bod σ hW).1 (GI_gn (gn_weak (PX_bod σ hW).2 (Nat.le_refl _) (by omega)) hGi) (DC_bod hW hGi h)
    · exact h
theorem DC_read {K : Kt} (hn : n ≤ 600) : DCo (pRead b n (sg0 K)) := by
  have w : WF b n (pAdv b n (sg0 K)) := pAdv_WF hn (Nat.zero_le 5) (fun _ => ⟨Nat.zero_le n, Nat.zero_le 1⟩)
  have e9 : (pAdv b n (sg0 K)).1 9 = 0 := by rw [pAdv_o (by omega)]; rfl
  exact DC_loop 600 _ w (fun _ => by rw [e9]; exact Nat.zero_le _) (fun _ => ⟨fun _ => e9, Or.inl e9⟩)
end CODE2
