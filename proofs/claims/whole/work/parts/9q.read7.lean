/-! ===== the Reader: lines ===== -/
section READ7
variable {d D : Nat} {t : List px_E} {g : hG} {n cn sn dd : Nat} {b : Rw} {σ : Sg} {x : Int32}
theorem CR_k4 {i : Nat} (h : CR b n σ g) : CR b n (sK σ 0 i x) (hI g 4 i x) := by
  obtain ⟨h1, h2, h3, h4, h5⟩ := h
  refine ⟨h1, h2, h3, ⟨h4.1, fun z => ?_⟩, h5⟩
  obtain ⟨⟨a1, a2, a3, a4⟩, k0, k1, k2, k3, k4, k5, k6, k7, k8⟩ := h4.2 z
  have e : ∀ (c : Nat) (f : Rw), f = σ.2 c → (fun j => if c = 0 ∧ j = i then x else f j) = (sK σ 0 i x).2 c := fun c f hf => by rw [hf]; rfl
  refine ⟨⟨a1, a2, a3, a4⟩, ?_, ?_, ?_, ?_, ?_, ?_, ?_, ?_, ?_⟩
  · rw [← e 0 _ k0]; funext j; rw [hI_at]; (repeat' split) <;> first | rfl | (exfalso; omega)
  · rw [← e 1 _ k1]; funext j; rw [hI_at]; (repeat' split) <;> first | rfl | (exfalso; omega)
  · rw [← e 2 _ k2]; funext j; rw [hI_at]; (repeat' split) <;> first | rfl | (exfalso; omega)
  · rw [← e 3 _ k3]; funext j; rw [hI_at]; (repeat' split) <;> first | rfl | (exfalso; omega)
  · rw [← e 4 _ k4]; funext j; rw [hI_at]; (repeat' split) <;> first | rfl | (exfalso; omega)
  · rw [← e 5 _ k5]; funext j; rw [hI_at]; (repeat' split) <;> first | rfl | (exfalso; omega)
  · rw [← e 6 _ k6]; funext j; rw [hI_at]; (repeat' split) <;> first | rfl | (exfalso; omega)
  · rw [← e 7 _ k7]; funext j; rw [hI_at]; (repeat' split) <;> first | rfl | (exfalso; omega)
  · rw [← e 8 _ k8]; funext j; rw [hI_at]; (repeat' split) <;> first | rfl | (exfalso; omega)
  
theorem CR_k5 {i : Nat} (h : CR b n σ g) : CR b n (sK σ 1 i x) (hI g 5 i x) := by
  obtain ⟨h1, h2, h3, h4, h5⟩ := h
  refine ⟨h1, h2, h3, ⟨h4.1, fun z => ?_⟩, h5⟩
  obtain ⟨⟨a1, a2, a3, a4⟩, k0, k1, k2, k3, k4, k5, k6, k7, k8⟩ := h4.2 z
  have e : ∀ (c : Nat) (f : Rw), f = σ.2 c → (fun j => if c = 1 ∧ j = i then x else f j) = (sK σ 1 i x).2 c := fun c f hf => by rw [hf]; rfl
  refine ⟨⟨a1, a2, a3, a4⟩, ?_, ?_, ?_, ?_, ?_, ?_, ?_, ?_, ?_⟩
  · rw [← e 0 _ k0]; funext j; rw [hI_at]; (repeat' split) <;> first | rfl | (exfalso; omega)
  · rw [← e 1 _ k1]; funext j; rw [hI_at]; (repeat' split) <;> first | rfl | (exfalso; omega)
  · rw [← e 2 _ k2]; funext j; rw [hI_at]; (repeat' split) <;> first | rfl | (exfalso; omega)
  · rw [← e 3 _ k3]; funext j; rw [hI_at]; (repeat' split) <;> first | rfl | (exfalso; omega)
  · rw [← e 4 _ k4]; funext j; rw [hI_at]; (repeat' split) <;> first | rfl | (exfalso; omega)
  · rw [← e 5 _ k5]; funext j; rw [hI_at]; (repeat' split) <;> first | rfl | (exfalso; omega)
  · rw [← e 6 _ k6]; funext j; rw [hI_at]; (repeat' split) <;> first | rfl | (exfalso; omega)
  · rw [← e 7 _ k7]; funext j; rw [hI_at]; (repeat' split) <;> first | rfl | (exfalso; omega)
  · rw [← e 8 _ k8]; funext j; rw [hI_at]; (repeat' split) <;> first | rfl | (exfalso; omega)
  
theorem CR_k6 {i : Nat} (h : CR b n σ g) : CR b n (sK σ 2 i x) (hI g 6 i x) := by
  obtain ⟨h1, h2, h3, h4, h5⟩ := h
  refine ⟨h1, h2, h3, ⟨h4.1, fun z => ?_⟩, h5⟩
  obtain ⟨⟨a1, a2, a3, a4⟩, k0, k1, k2, k3, k4, k5, k6, k7, k8⟩ := h4.2 z
  have e : ∀ (c : Nat) (f : Rw), f = σ.2 c → (fun j => if c = 2 ∧ j = i then x else f j) = (sK σ 2 i x).2 c := fun c f hf => by rw [hf]; rfl
  refine ⟨⟨a1, a2, a3, a4⟩, ?_, ?_, ?_, ?_, ?_, ?_, ?_, ?_, ?_⟩
  · rw [← e 0 _ k0]; funext j; rw [hI_at]; (repeat' split) <;> first | rfl | (exfalso; omega)
  · rw [← e 1 _ k1]; funext j; rw [hI_at]; (repeat' split) <;> first | rfl | (exfalso; omega)
  · rw [← e 2 _ k2]; funext j; rw [hI_at]; (repeat' split) <;> first | rfl | (exfalso; omega)
  · rw [← e 3 _ k3]; funext j; rw [hI_at]; (repeat' split) <;> first | rfl | (exfalso; omega)
  · rw [← e 4 _ k4]; funext j; rw [hI_at]; (repeat' split) <;> first | rfl | (exfalso; omega)
  · rw [← e 5 _ k5]; funext j; rw [hI_at]; (repeat' split) <;> first | rfl | (exfalso; omega)
  · rw [← e 6 _ k6]; funext j; rw [hI_at]; (repeat' split) <;> first | rfl | (exfalso; omega)
  · rw [← e 7 _ k7]; funext j; rw [hI_at]; (repeat' split) <;> first | rfl | (exfalso; omega)
  · rw [← e 8 _ k8]; funext j; rw [hI_at]; (repeat' split) <;> first | rfl | (exfalso; omega)
  
theorem CR_k7 {i : Nat} (h : CR b n σ g) : CR b n (sK σ 3 i x) (hI g 7 i x) := by
  obtain ⟨h1, h2, h3, h4, h5⟩ := h
  refine ⟨h1, h2, h3, ⟨h4.1, fun z => ?_⟩, h5⟩
  obtain ⟨⟨a1, a2, a3, a4⟩, k0, k1, k2, k3, k4, k5, k6, k7, k8⟩ := h4.2 z
  have e : ∀ (c : Nat) (f : Rw), f = σ.2 c → (fun j => if c = 3 ∧ j = i then x else f j) = (sK σ 3 i x).2 c := fun c f hf => by rw [hf]; rfl
  refine ⟨⟨a1, a2, a3, a4⟩, ?_, ?_, ?_, ?_, ?_, ?_, ?_, ?_, ?_⟩
  · rw [← e 0 _ k0]; funext j; rw [hI_at]; (repeat' split) <;> first | rfl | (exfalso; omega)
  · rw [← e 1 _ k1]; funext j; rw [hI_at]; (repeat' split) <;> first | rfl | (exfalso; omega)
  · rw [← e 2 _ k2]; funext j; rw [hI_at]; (repeat' split) <;> first | rfl | (exfalso; omega)
  · rw [← e 3 _ k3]; funext j; rw [hI_at]; (repeat' split) <;> first | rfl | (exfalso; omega)
  · rw [← e 4 _ k4]; funext j; rw [hI_at]; (repeat' split) <;> first | rfl | (exfalso; omega)
  · rw [← e 5 _ k5]; funext j; rw [hI_at]; (repeat' split) <;> first | rfl | (exfalso; omega)
  · rw [← e 6 _ k6]; funext j; rw [hI_at]; (repeat' split) <;> first | rfl | (exfalso; omega)
  · rw [← e 7 _ k7]; funext j; rw [hI_at]; (repeat' split) <;> first | rfl | (exfalso; omega)
  · rw [← e 8 _ k8]; funext j; rw [hI_at]; (repeat' split) <;> first | rfl | (exfalso; omega)
  
theorem CR_k8 {i : Nat} (h : CR b n σ g) : CR b n (sK σ 4 i x) (hI g 8 i x) := by
  obtain ⟨h1, h2, h3, h4, h5⟩ := h
  refine ⟨h1, h2, h3, ⟨h4.1, fun z => ?_⟩, h5⟩
  obtain ⟨⟨a1, a2, a3, a4⟩, k0, k1, k2, k3, k4, k5, k6, k7, k8⟩ := h4.2 z
  have e : ∀ (c : Nat) (f : Rw), f = σ.2 c → (fun j => if c = 4 ∧ j = i then x else f j) = (sK σ 4 i x).2 c := fun c f hf => by rw [hf]; rfl
  refine ⟨⟨a1, a2, a3, a4⟩, ?_, ?_, ?_, ?_, ?_, ?_, ?_, ?_, ?_⟩
  · rw [← e 0 _ k0]; funext j; rw [hI_at]; (repeat' split) <;> first | rfl | (exfalso; omega)
  · rw [← e 1 _ k1]; funext j; rw [hI_at]; (repeat' split) <;> first | rfl | (exfalso; omega)
  · rw [← e 2 _ k2]; funext j; rw [hI_at]; (repeat' split) <;> first | rfl | (exfalso; omega)
  · rw [← e 3 _ k3]; funext j; rw [hI_at]; (repeat' split) <;> first | rfl | (exfalso; omega)
  · rw [← e 4 _ k4]; funext j; rw [hI_at]; (repeat' split) <;> first | rfl | (exfalso; omega)
  · rw [← e 5 _ k5]; funext j; rw [hI_at]; (repeat' split) <;> first | rfl | (exfalso; omega)
  · rw [← e 6 _ k6]; funext j; rw [hI_at]; (repeat' split) <;> first | rfl | (exfalso; omega)
  · rw [← e 7 _ k7]; funext j; rw [hI_at]; (repeat' split) <;> first | rfl | (exfalso; omega)
  · rw [← e 8 _ k8]; funext j; rw [hI_at]; (repeat' split) <;> first | rfl | (exfalso; omega)
  
theorem CR_k9 {i : Nat} (h : CR b n σ g) : CR b n (sK σ 5 i x) (hI g 9 i x) := by
  obtain ⟨h1, h2, h3, h4, h5⟩ := h
  refine ⟨h1, h2, h3, ⟨h4.1, fun z => ?_⟩, h5⟩
  obtain ⟨⟨a1, a2, a3, a4⟩, k0, k1, k2, k3, k4, k5, k6, k7, k8⟩ := h4.2 z
  have e : ∀ (c : Nat) (f : Rw), f = σ.2 c → (fun j => if c = 5 ∧ j = i then x else f j) = (sK σ 5 i x).2 c := fun c f hf => by rw [hf]; rfl
  refine ⟨⟨a1, a2, a3, a4⟩, ?_, ?_, ?_, ?_, ?_, ?_, ?_, ?_, ?_⟩
  · rw [← e 0 _ k0]; funext j; rw [hI_at]; (repeat' split) <;> first | rfl | (exfalso; omega)
  · rw [← e 1 _ k1]; funext j; rw [hI_at]; (repeat' split) <;> first | rfl | (exfalso; omega)
  · rw [← e 2 _ k2]; funext j; rw [hI_at]; (repeat' split) <;> first | rfl | (exfalso; omega)
  · rw [← e 3 _ k3]; funext j; rw [hI_at]; (repeat' split) <;> first | rfl | (exfalso; omega)
  · rw [← e 4 _ k4]; funext j; rw [hI_at]; (repeat' split) <;> first | rfl | (exfalso; omega)
  · rw [← e 5 _ k5]; funext j; rw [hI_at]; (repeat' split) <;> first | rfl | (exfalso; omega)
  · rw [← e 6 _ k6]; funext j; rw [hI_at]; (repeat' split) <;> first | rfl | (exfalso; omega)
  · rw [← e 7 _ k7]; funext j; rw [hI_at]; (repeat' split) <;> first | rfl | (exfalso; omega)
  · rw [← e 8 _ k8]; funext j; rw [hI_at]; (repeat' split) <;> first | rfl | (exfalso; omega)
  
theorem CR_k10 {i : Nat} (h : CR b n σ g) : CR b n (sK σ 6 i x) (hI g 10 i x) := by
  obtain ⟨h1, h2, h3, h4, h5⟩ := h
  refine ⟨h1, h2, h3, ⟨h4.1, fun z => ?_⟩, h5⟩
  obtain ⟨⟨a1, a2, a3, a4⟩, k0, k1, k2, k3, k4, k5, k6, k7, k8⟩ := h4.2 z
  have e : ∀ (c : Nat) (f : Rw), f = σ.2 c → (fun j => if c = 6 ∧ j = i then x else f j) = (sK σ 6 i x).2 c := fun c f hf => by rw [hf]; rfl
  refine ⟨⟨a1, a2, a3, a4⟩, ?_, ?_, ?_, ?_, ?_, ?_, ?_, ?_, ?_⟩
  · rw [← e 0 _ k0]; funext j; rw [hI_at]; (repeat' split) <;> first | rfl | (exfalso; omega)
  · rw [← e 1 _ k1]; funext j; rw [hI_at]; (repeat' split) <;> first | rfl | (exfalso; omega)
  · rw [← e 2 _ k2]; funext j; rw [hI_at]; (repeat' split) <;> first | rfl | (exfalso; omega)
  · rw [← e 3 _ k3]; funext j; rw [hI_at]; (repeat' split) <;> first | rfl | (exfalso; omega)
  · rw [← e 4 _ k4]; funext j; rw [hI_at]; (repeat' split) <;> first | rfl | (exfalso; omega)
  · rw [← e 5 _ k5]; funext j; rw [hI_at]; (repeat' split) <;> first | rfl | (exfalso; omega)
  · rw [← e 6 _ k6]; funext j; rw [hI_at]; (repeat' split) <;> first | rfl | (exfalso; omega)
  · rw [← e 7 _ k7]; funext j; rw [hI_at]; (repeat' split) <;> first | rfl | (exfalso; omega)
  · rw [← e 8 _ k8]; funext j; rw [hI_at]; (repeat' split) <;> first | rfl | (exfalso; omega)
  
theorem CR_k11 {i : Nat} (h : CR b n σ g) : CR b n (sK σ 7 i x) (hI g 11 i x) := by
  obtain ⟨h1, h2, h3, h4, h5⟩ := h
  refine ⟨h1, h2, h3, ⟨h4.1, fun z => ?_⟩, h5⟩
  obtain ⟨⟨a1, a2, a3, a4⟩, k0, k1, k2, k3, k4, k5, k6, k7, k8⟩ := h4.2 z
  have e : ∀ (c : Nat) (f : Rw), f = σ.2 c → (fun j => if c = 7 ∧ j = i then x else f j) = (sK σ 7 i x).2 c := fun c f hf => by rw [hf]; rfl
  refine ⟨⟨a1, a2, a3, a4⟩, ?_, ?_, ?_, ?_, ?_, ?_, ?_, ?_, ?_⟩
  · rw [← e 0 _ k0]; funext j; rw [hI_at]; (repeat' split) <;> first | rfl | (exfalso; omega)
  · rw [← e 1 _ k1]; funext j; rw [hI_at]; (repeat' split) <;> first | rfl | (exfalso; omega)
  · rw [← e 2 _ k2]; funext j; rw [hI_at]; (repeat' split) <;> first | rfl | (exfalso; omega)
  · rw [← e 3 _ k3]; funext j; rw [hI_at]; (repeat' split) <;> first | rfl | (exfalso; omega)
  · rw [← e 4 _ k4]; funext j; rw [hI_at]; (repeat' split) <;> first | rfl | (exfalso; omega)
  · rw [← e 5 _ k5]; funext j; rw [hI_at]; (repeat' split) <;> first | rfl | (exfalso; omega)
  · rw [← e 6 _ k6]; funext j; rw [hI_at]; (repeat' split) <;> first | rfl | (exfalso; omega)
  · rw [← e 7 _ k7]; funext j; rw [hI_at]; (repeat' split) <;> first | rfl | (exfalso; omega)
  · rw [← e 8 _ k8]; funext j; rw [hI_at]; (repeat' split) <;> first | rfl | (exfalso; omega)
  
theorem CR_N (h : CR b n σ g) (hN : σ.1 0 = 0 → σ.1 6 + 1 ≤ 8) : CR b n (sN σ 6 (σ.1 6 + 1)) (hI g 3 10 (g.1 3 10 + 1)) := by
  obtain ⟨h1, h2, h3, h4, h5⟩ := h
  refine ⟨h1, h2, h3, ⟨h4.1, fun z => ?_⟩, fun z => ?_⟩
  · obtain ⟨⟨a1, a2, a3, a4⟩, k⟩ := h4.2 z
    exact ⟨⟨by show g.1 3 10 + 1 = Int32.ofNat (σ.1 6 + 1); rw [a1, nn_suc], a2, a3, a4⟩, k⟩
  · obtain ⟨d1, d2, d3, d4⟩ := h5 z
    exact ⟨hN z, d2, d3, d4⟩
theorem CR_S (h : CR b n σ g) (hN : σ.1 0 = 0 → σ.1 7 + 1 ≤ 4) : CR b n (sN σ 7 (σ.1 7 + 1)) (hI g 3 11 (g.1 3 11 + 1)) := by
  obtain ⟨h1, h2, h3, h4, h5⟩ := h
  refine ⟨h1, h2, h3, ⟨h4.1, fun z => ?_⟩, fun z => ?_⟩
  · obtain ⟨⟨a1, a2, a3, a4⟩, k⟩ := h4.2 z
    exact ⟨⟨a1, by show g.1 3 11 + 1 = Int32.ofNat (σ.1 7 + 1); rw [a2, nn_suc], a3, a4⟩, k⟩
  · obtain ⟨d1, d2, d3, d4⟩ := h5 z
    exact ⟨d1, hN z, d3, d4⟩
theorem CR_D (h : CR b n σ g) (hN : σ.1 0 = 0 → σ.1 8 + 1 ≤ 5) : CR b n (sN σ 8 (σ.1 8 + 1)) (hI g 3 12 (g.1 3 12 + 1)) := by
  obtain ⟨h1, h2, h3, h4, h5⟩ := h
  refine ⟨h1, h2, h3, ⟨h4.1, fun z => ?_⟩, fun z => ?_⟩
  · obtain ⟨⟨a1, a2, a3, a4⟩, k⟩ := h4.2 z
    exact ⟨⟨a1, a2, by show g.1 3 12 + 1 = Int32.ofNat (σ.1 8 + 1); rw [a3, nn_suc], a4⟩, k⟩
  · obtain ⟨d1, d2, d3, d4⟩ := h5 z
    exact ⟨d1, d2, hN z, d4⟩
theorem pNumV_le {lo hi : Nat} (hW : WF b n σ) : pNumV lo hi σ ≤ 9999 := by
  unfold pNumV
  split
  · next h =>
    have h0 : σ.1 0 = 0 := by rw [← pNeed_c h]; exact h
    exact (hW.2.2 h0).2.2.2.1
  · omega
set_option maxHeartbeats 8000000 in
theorem k_kettleLine {kd : Nat} (h : CR b n σ g) (h0 : σ.1 0 = 0) : ∃ g' : hG, CR b n (pKet b n kd σ) g' ∧ Sm g g' ∧ bc (d + 3) M_X6_kettleLine none 0 [some (.ref 1), some (.int (Int32.ofNat kd)), none] [] (hp t g) cn sn = some (.inl none, hp t g', cn, sn) := by
  have eN : g.1 3 10 = Int32.ofNat (σ.1 6) := (h.2.2.2.1.2 h0).1.1
  have dN := (h.2.2.2.2 h0).1
  unfold pKet
  by_cases h8 : σ.1 6 < 8
  · rw [if_pos h8]
    dsimp only
    obtain ⟨g1, c1, m1, e1⟩ := k_adv (d := d + 1) (t := t) (cn := 0) (sn := 0) h
    have c2 := CR_k4 (i := σ.1 6) (x := Int32.ofNat kd) c1
    obtain ⟨g3, c3, m3, -, e3⟩ := k_num (d := d) (t := t) (cn := 0) (sn := 0) (lo := 1) (hi := 24) (by omega) (by omega) c2
    generalize hv1 : pNumV 1 24 (sK (pAdv b n σ) 0 (σ.1 6) (Int32.ofNat kd)) = v1 at *
    have c4 := CR_k5 (i := σ.1 6) (x := Int32.ofNat v1) c3
    obtain ⟨g5, c5, m5, -, e5⟩ := k_num (d := d) (t := t) (cn := 0) (sn := 0) (lo := 1) (hi := 40) (by omega) (by omega) c4
    have hv2l := pNumV_le (lo := 1) (hi := 40) c4.2.1
    generalize hv2 : pNumV 1 40 (sK (pNumS b n 1 24 (sK (pAdv b n σ) 0 (σ.1 6) (Int32.ofNat kd))) 1 (σ.1 6) (Int32.ofNat v1)) = v2 at *
    have c6 := CR_k6 (i := σ.1 6) (x := Int32.ofNat v2) c5
    have r6 : (hI g5 6 (σ.1 6) (Int32.ofNat v2)).1 6 (σ.1 6) = Int32.ofNat v2 := by rw [hI_at, if_pos ⟨rfl, rfl⟩]
    obtain ⟨g7, c7, m7, -, e7⟩ := k_num (d := d) (t := t) (cn := 0) (sn := 0) (lo := 0) (hi := v2) (by omega) (by omega) c6
    generalize hv3 : pNumV 0 v2 (sK (pNumS b n 1 40 (sK (pNumS b n 1 24 (sK (pAdv b n σ) 0 (σ.1 6) (Int32.ofNat kd))) 1 (σ.1 6) (Int32.ofNat v1))) 2 (σ.1 6) (Int32.ofNat v2)) = v3 at *
    have c8 := CR_k7 (i := σ.1 6) (x := Int32.ofNat v3) c7
    obtain ⟨g9, c9, m9, -, e9⟩ := k_num (d := d) (t := t) (cn := 0) (sn := 0) (lo := 0) (hi := 9) (by omega) (by omega) c8
    generalize hv4 : pNumV 0 9 (sK (pNumS b n 0 v2 (sK (pNumS b n 1 40 (sK (pNumS b n 1 24 (sK (pAdv b n σ) 0 (σ.1 6) (Int32.ofNat kd))) 1 (σ.1 6) (Int32.ofNat v1))) 2 (σ.1 6) (Int32.ofNat v2))) 3 (σ.1 6) (Int32.ofNat v3)) = v4 at *
    have c10 := CR_k8 (i := σ.1 6) (x := Int32.ofNat v4) c9
    have e66 : ∀ (s : Sg) (lo hi : Nat), (pNumS b n lo hi s).1 6 = s.1 6 := fun s lo hi => pNumS_o (by omega)
    have e6 : (sK (pNumS b n 0 9 (sK (pNumS b n 0 v2 (sK (pNumS b n 1 40 (sK (pNumS b n 1 24 (sK (pAdv b n σ) 0 (σ.1 6) (Int32.ofNat kd))) 1 (σ.1 6) (Int32.ofNat v1))) 2 (σ.1 6) (Int32.ofNat v2))) 3 (σ.1 6) (Int32.ofNat v3))) 4 (σ.1 6) (Int32.ofNat v4)).1 6 = σ.1 6 := by
      simp only [sK_1, e66]
      exact pAdv_o (by omega)
    have c11 := CR_N c10 (fun _ => by rw [e6]; omega)
    rw [e6] at c11
    refine ⟨_, c11, m1.trans ((Sm_i (by omega)).trans (m3.trans ((Sm_i (by omega)).trans (m5.trans ((Sm_i (by omega)).trans (m7.trans ((Sm_i (by omega)).trans (m9.trans ((Sm_i (by omega)).trans (Sm_i (by omega))))))))))), ?_⟩
    rw [show Int32.ofNat 1 = (1 : Int32) from rfl, show Int32.ofNat 24 = (24 : Int32) from rfl] at e3
    rw [show Int32.ofNat 1 = (1 : Int32) from rfl, show Int32.ofNat 40 = (40 : Int32) from rfl] at e5
    rw [show Int32.ofNat 0 = (0 : Int32) from rfl] at e7 e9
    rw [show Int32.ofNat 9 = (9 : Int32) from rfl] at e9
    simp (disch := omega) only [st_X6_kettleLine_0, st_X6_kettleLine_1, st_X6_kettleLine_4, st_X6_kettleLine_7, st_X6_kettleLine_8, st_X6_kettleLine_9, st_X6_kettleLine_11, st_X6_kettleLine_20, st_X6_kettleLine_24, st_X6_kettleLine_25, st_X6_kettleLine_28, st_X6_kettleLine_31, st_X6_kettleLine_32, st_X6_kettleLine_33, st_X6_kettleLine_34, st_X6_kettleLine_35, st_X6_kettleLine_38, st_X6_kettleLine_41, st_X6_kettleLine_42, st_X6_kettleLine_43, st_X6_kettleLine_44, st_X6_kettleLine_49, st_X6_kettleLine_50, st_X6_kettleLine_51, st_X6_kettleLine_54, st_X6_kettleLine_57, st_X6_kettleLine_58, st_X6_kettleLine_59, st_X6_kettleLine_60, st_X6_kettleLine_65, st_X6_kettleLine_66, st_X6_kettleLine_67, st_X6_kettleLine_70, st_X6_kettleLine_73, st_X6_kettleLine_74, st_X6_kettleLine_75, st_X6_kettleLine_76, st_X6_kettleLine_77, st_X6_kettleLine_80, st_X6_kettleLine_83, st_X6_kettleLine_84, st_X6_kettleLine_88, st_X6_kettleLine_89, st_X6_kettleLine_90, st_X6_kettleLine_93, st_X6_kettleLine_96, st_X6_kettleLine_97, st_X6_kettleLine_98, st_X6_kettleLine_99, st_X6_kettleLine_104, st_X6_kettleLine_105, st_X6_kettleLine_106, st_X6_kettleLine_110, st_X6_kettleLine_113, st_X6_kettleLine_114, st_X6_kettleLine_115, st_X6_kettleLine_118, st_X6_kettleLine_109r, st_X6_kettleLine_21 (p := 1) hq_1 ps_, st_X6_kettleLine_46 (p := 1) hq_1 ps_ir, st_X6_kettleLine_62 (p := 1) hq_1 ps_ir, st_X6_kettleLine_85 (p := 1) hq_1 ps_ir, st_X6_kettleLine_101 (p := 1) hq_1 ps_ir, bM_some, hg_1_1, hg_3_0, hg_3_1, hg_3_2, hg_3_3, hg_3_4, hg_3_10, hs_3_10, ha_6, hw_4, hw_5, hw_6, hw_7, hw_8, eN, nn_l8, h8, if_true, r6, e1, e3, e5, e7, e9, nn_out, nn_clamp, cond_false, bC_inl, Option.toList, List.cons_append, List.nil_append, Nat.add_zero, lc_r, lc_i, lc_n, Nat.reduceAdd]
  · rw [if_neg h8]
    obtain ⟨g1, c1, m1, e1⟩ := k_fail (d := d + 2) (t := t) (cn := 0) (sn := 0) (c := 2) h (by omega)
    rw [show Int32.ofNat 2 = (2 : Int32) from rfl] at e1
    refine ⟨g1, c1, m1, ?_⟩
    simp (disch := omega) only [st_X6_kettleLine_0, st_X6_kettleLine_1, st_X6_kettleLine_4, st_X6_kettleLine_7, st_X6_kettleLine_8, st_X6_kettleLine_9, st_X6_kettleLine_11, st_X6_kettleLine_14, st_X6_kettleLine_15, st_X6_kettleLine_19, st_X6_kettleLine_16 (p := 1) hq_1 ps_, bM_some, hg_1_1, hg_3_10, eN, nn_l8, h8, if_false, e1, bC_inl, Option.toList, List.nil_append, Nat.add_zero, lc_r, lc_i, lc_n, Nat.reduceAdd]
set_option maxHeartbeats 4000000 in
theorem k_stoveLine (h : CR b n σ g) (h0 : σ.1 0 = 0) : ∃ g' : hG, CR b n (pStv b n σ) g' ∧ Sm g g' ∧ bc (d + 3) M_X6_stoveLine none 0 [some (.ref 1), none] [] (hp t g) cn sn = some (.inl none, hp t g', cn, sn) := by
  have eN : g.1 3 11 = Int32.ofNat (σ.1 7) := (h.2.2.2.1.2 h0).1.2.1
  have dN := (h.2.2.2.2 h0).2.1
  unfold pStv
  by_cases h8 : σ.1 7 < 4
  · rw [if_pos h8]
    dsimp only
    obtain ⟨g1, c1, m1, e1⟩ := k_adv (d := d + 1) (t := t) (cn := 0) (sn := 0) h
    obtain ⟨g3, c3, m3, -, e3⟩ := k_num (d := d) (t := t) (cn := 0) (sn := 0) (lo := 1) (hi := 40) (by omega) (by omega) c1
    have c4 := CR_k9 (i := σ.1 7) (x := Int32.ofNat (pNumV 1 40 (pAdv b n σ))) c3
    have e6 : (sK (pNumS b n 1 40 (pAdv b n σ)) 5 (σ.1 7) (Int32.ofNat (pNumV 1 40 (pAdv b n σ)))).1 7 = σ.1 7 := by
      rw [sK_1, pNumS_o (by omega)]
      exact pAdv_o (by omega)
    have c5 := CR_S c4 (fun _ => by rw [e6]; omega)
    rw [e6] at c5
    refine ⟨_, c5, m1.trans (m3.trans ((Sm_i (by omega)).trans (Sm_i (by omega)))), ?_⟩
    rw [show Int32.ofNat 1 = (1 : Int32) from rfl, show Int32.ofNat 40 = (40 : Int32) from rfl] at e3
    simp (disch := omega) only [st_X6_stoveLine_0, st_X6_stoveLine_1, st_X6_stoveLine_4, st_X6_stoveLine_7, st_X6_stoveLine_8, st_X6_stoveLine_9, st_X6_stoveLine_10, st_X6_stoveLine_19, st_X6_stoveLine_23, st_X6_stoveLine_24, st_X6_stoveLine_27, st_X6_stoveLine_30, st_X6_stoveLine_31, st_X6_stoveLine_32, st_X6_stoveLine_33, st_X6_stoveLine_38, st_X6_stoveLine_39, st_X6_stoveLine_40, st_X6_stoveLine_44, st_X6_stoveLine_47, st_X6_stoveLine_48, st_X6_stoveLine_49, st_X6_stoveLine_52, st_X6_stoveLine_43r, st_X6_stoveLine_20 (p := 1) hq_1 ps_, st_X6_stoveLine_35 (p := 1) hq_1 ps_ir, bM_some, hg_1_1, hg_3_5, hg_3_11, hs_3_11, hw_9, eN, nn_l4, h8, if_true, e1, e3, nn_out, nn_clamp, cond_false, bC_inl, Option.toList, List.cons_append, List.nil_append, Nat.add_zero, lc_r, lc_i, lc_n, Nat.reduceAdd]
  · rw [if_neg h8]
    obtain ⟨g1, c1, m1, e1⟩ := k_fail (d := d + 2) (t := t) (cn := 0) (sn := 0) (c := 2) h (by omega)
    rw [show Int32.ofNat 2 = (2 : Int32) from rfl] at e1
    refine ⟨g1, c1, m1, ?_⟩
    simp (disch := omega) only [st_X6_stoveLine_0, st_X6_stoveLine_1, st_X6_stoveLine_4, st_X6_stoveLine_7, st_X6_stoveLine_8, st_X6_stoveLine_9, st_X6_stoveLine_10, st_X6_stoveLine_13, st_X6_stoveLine_14, st_X6_stoveLine_18, st_X6_stoveLine_15 (p := 1) hq_1 ps_, bM_some, hg_1_1, hg_3_11, eN, nn_l4, h8, if_false, e1, bC_inl, Option.toList, List.nil_append, Nat.add_zero, lc_r, lc_i, lc_n, Nat.reduceAdd]
theorem k_need {lo hi : Nat} (hlo : lo < 100000) (hhi : hi < 100000) (h : CR b n σ g) : ∃ g' : hG, CR b n (pNeed lo hi σ) g' ∧ Sm g g' ∧
    bc (d + 1) M_X6_needNumber none 0 [some (.ref 1), some (.int (Int32.ofNat lo)), some (.int (Int32.ofNat hi))] [] (hp t g) cn sn = some (.inl (some (.int (b01 (decide ((pNeed lo hi σ).1 0 = 0))))), hp t g', cn, sn) := by
  have hb := h.1
  obtain ⟨r', q1, q2, q3⟩ := c_need (d := d) (t := t) (g := g) (r := g.1 1) (cn := cn) (sn := sn) hlo hhi (by rw [hb]; exact h.2.1) h.2.2.1
  rw [hR_self] at q3
  rw [hb] at q2
  exact ⟨hR g 1 r', CR_tok h q2 q1 pNeed_K (fun i h1 h2 => pNeed_o (by omega)) (fun z => by rw [← pNeed_c z]; exact z), Sm_r (by omega), q3⟩
set_option maxHeartbeats 4000000 in
theorem hs_l (h : CR b n σ g) (h0 : σ.1 0 = 0) (hd : dd < 5) {M : Nat} (hM : σ.2 6 dd = Int32.ofNat M) (hM3 : M ≤ 3) : ∀ m i : Nat, i + m = M →
    bc d M_X6_hasStep none 2 [some (.ref 1), some (.int (Int32.ofNat dd)), some (.int (Int32.ofNat i))] [] (hp t g) cn sn = some (.inl (some (.int (b01 (hasB dd σ m i)))), hp t g, cn, sn) := by
  obtain ⟨-, -, -, -, -, -, k6, k7, -⟩ := (h.2.2.2.1.2 h0).2
  have e6 : g.1 10 dd = Int32.ofNat M := by rw [k6]; exact hM
  have e8 : g.1 1 8 = Int32.ofNat (σ.1 5) := (h.2.2.1.2.2.2.2 h0).2.2.2.2.1
  intro m
  induction m with
  | zero =>
    intro i hi
    rw [st_X6_hasStep_2]
    simp (disch := omega) only [st_X6_hasStep_3, st_X6_hasStep_4, st_X6_hasStep_7, st_X6_hasStep_10, st_X6_hasStep_11, st_X6_hasStep_12, st_X6_hasStep_43, st_X6_hasStep_44, bM_some, hg_1_1, hg_3_6, ha_10, e6, nn_out, nn_clamp, cond_false, nn_lt, show ¬ i < M by omega, if_false, hasB, b01, Nat.reduceAdd]
  | succ m ih =>
    intro i hi
    unfold hasB
    rw [st_X6_hasStep_2]
    by_cases hx : σ.2 7 (dd * 3 + i) = Int32.ofNat (σ.1 5)
    · rw [if_pos hx]
      simp (disch := omega) only [st_X6_hasStep_3, st_X6_hasStep_4, st_X6_hasStep_7, st_X6_hasStep_10, st_X6_hasStep_11, st_X6_hasStep_12, st_X6_hasStep_15, st_X6_hasStep_16, st_X6_hasStep_19, st_X6_hasStep_22, st_X6_hasStep_23, st_X6_hasStep_24, st_X6_hasStep_25, st_X6_hasStep_26, st_X6_hasStep_27, st_X6_hasStep_28, st_X6_hasStep_29, st_X6_hasStep_32, st_X6_hasStep_35, st_X6_hasStep_36b, bM_some, hg_1_1, hg_1_8, hg_3_6, hg_3_7, ha_10, ha_11, e6, e8, k7, nn_t3, nn_add, nn_out, nn_clamp, cond_false, nn_lt, show i < M by omega, if_true, eq_true hx, b01, cond_true, Nat.reduceAdd]
    · rw [if_neg hx, ← ih (i + 1) (by omega)]
      simp (disch := omega) only [st_X6_hasStep_3, st_X6_hasStep_4, st_X6_hasStep_7, st_X6_hasStep_10, st_X6_hasStep_11, st_X6_hasStep_12, st_X6_hasStep_15, st_X6_hasStep_16, st_X6_hasStep_19, st_X6_hasStep_22, st_X6_hasStep_23, st_X6_hasStep_24, st_X6_hasStep_25, st_X6_hasStep_26, st_X6_hasStep_27, st_X6_hasStep_28, st_X6_hasStep_29, st_X6_hasStep_32, st_X6_hasStep_37, st_X6_hasStep_40, bM_some, hg_1_1, hg_1_8, hg_3_6, hg_3_7, ha_10, ha_11, e6, e8, k7, nn_t3, nn_add, nn_out, nn_clamp, cond_false, nn_lt, show i < M by omega, if_true, hx, if_false, lc_r, lc_i, nn_r1, Nat.reduceAdd]
set_option maxHeartbeats 8000000 in
theorem k_step (h : CR b n σ g) (h0 : σ.1 0 = 0) (hd : dd < 5) {M : Nat} (hM : σ.2 6 dd = Int32.ofNat M) (hM3 : M ≤ 3) : ∃ g' : hG, CR b n (pStp b n dd σ) g' ∧ Sm g g' ∧
    bc (d + 2) M_X6_step none 0 [some (.ref 1), some (.int (Int32.ofNat dd)), none] [] (hp t g) cn sn = some (.inl none, hp t g', cn, sn) := by
  obtain ⟨-, -, -, -, -, -, k6, k7, -⟩ := (h.2.2.2.1.2 h0).2
  have e6 : g.1 10 dd = Int32.ofNat M := by rw [k6]; exact hM
  have e8 : g.1 1 8 = Int32.ofNat (σ.1 5) := (h.2.2.1.2.2.2.2 h0).2.2.2.2.1
  have t2 : (g.1 1 6 = 2) = (σ.1 0 = 0 ∧ σ.1 3 = 2) := tok_e (q := 2) (by omega) h (by omega)
  have eS : stpN dd σ = M := by unfold stpN; rw [hM, nn_clamp (by omega)]
  have f0 := flt_e h
  unfold pStp
  rw [if_pos h0, eS]
  by_cases hc : σ.1 3 = 2 ∧ 3 ≤ M
  · rw [if_pos hc]
    obtain ⟨g1, c1, m1, e1⟩ := k_fail (d := d + 1) (t := t) (cn := 0) (sn := 0) (c := 2) h (by omega)
    rw [show Int32.ofNat 2 = (2 : Int32) from rfl] at e1
    refine ⟨g1, c1, m1, ?_⟩
    simp (disch := omega) only [st_X6_step_0, st_X6_step_1, st_X6_step_4, st_X6_step_7, st_X6_step_8, st_X6_step_9, st_X6_step_10, st_X6_step_11, st_X6_step_14, st_X6_step_15, st_X6_step_18, st_X6_step_19, st_X6_step_20, st_X6_step_23, st_X6_step_24, st_X6_step_28, st_X6_step_103, st_X6_step_25 (p := 1) hq_1 ps_, bM_some, hg_1_1, hg_1_6, hg_3_6, ha_10, e6, nn_out, nn_clamp, cond_false, t2.trans (eq_true ⟨h0, hc.1⟩), if_true, nn_l3, show ¬ M < 3 by omega, if_false, e1, bC_inl, Option.toList, List.nil_append, Nat.add_zero, lc_r, lc_i, lc_n, Nat.reduceAdd]
  · rw [if_neg hc]
    obtain ⟨g1, c1, m1, e1⟩ := k_need (d := d) (t := t) (cn := 0) (sn := 0) (lo := 1) (hi := 24) (by omega) (by omega) h
    rw [show Int32.ofNat 1 = (1 : Int32) from rfl, show Int32.ofNat 24 = (24 : Int32) from rfl] at e1
    have go31 : ∀ z, bc (d + 2) M_X6_step none 31 [some (.ref 1), some (.int (Int32.ofNat dd)), some (.int (Int32.ofNat M))] [] (hp t g) cn sn = z → bc (d + 2) M_X6_step none 0 [some (.ref 1), some (.int (Int32.ofNat dd)), none] [] (hp t g) cn sn = z := by
      intro z hz
      by_cases h2 : σ.1 3 = 2
      · simp (disch := omega) only [st_X6_step_0, st_X6_step_1, st_X6_step_4, st_X6_step_7, st_X6_step_8, st_X6_step_9, st_X6_step_10, st_X6_step_11, st_X6_step_14, st_X6_step_15, st_X6_step_18, st_X6_step_19, st_X6_step_20, bM_some, hg_1_1, hg_1_6, hg_3_6, ha_10, e6, nn_out, nn_clamp, cond_false, t2.trans (eq_true ⟨h0, h2⟩), if_true, nn_l3, show M < 3 by omega, lc_r, lc_i, lc_n, Nat.reduceAdd]
        exact hz
      · simp (disch := omega) only [st_X6_step_0, st_X6_step_1, st_X6_step_4, st_X6_step_7, st_X6_step_8, st_X6_step_9, st_X6_step_10, st_X6_step_11, st_X6_step_14, st_X6_step_15, bM_some, hg_1_1, hg_1_6, hg_3_6, ha_10, e6, nn_out, nn_clamp, cond_false, t2.trans (eq_false (fun z => h2 z.2)), if_false, lc_r, lc_i, lc_n, Nat.reduceAdd]
        exact hz
    by_cases hn : (pNeed 1 24 σ).1 0 = 0
    · rw [if_pos hn]
      rw [decide_eq_true hn] at e1
      have es := pNeed_c hn
      rw [es] at c1
      have h32 : σ.1 3 = 2 := by
        apply Classical.byContradiction
        intro z
        unfold pNeed at hn
        rw [if_pos h0, if_neg z, pFl_0, if_pos h0] at hn
        omega
      have hb := hs_l (d := d + 1) (t := t) (cn := 0) (sn := 0) c1 h0 hd hM hM3 M 0 (by omega)
      rw [show Int32.ofNat 0 = (0 : Int32) from rfl] at hb
      have hb' : bc (d + 1) M_X6_hasStep none 0 [some (.ref 1), some (.int (Int32.ofNat dd)), none] [] (hp t g1) 0 0 = some (.inl (some (.int (b01 (hasB dd σ M 0)))), hp t g1, 0, 0) := by
        refine Eq.trans ?_ hb
        simp (disch := omega) only [st_X6_hasStep_0, st_X6_hasStep_1, lc_r, lc_i, lc_n, Nat.reduceAdd]
      cases q : hasB dd σ M 0 with
      | true =>
        rw [q] at hb'
        rw [if_pos rfl]
        obtain ⟨g2, c2, m2, e2⟩ := k_fail (d := d + 1) (t := t) (cn := 0) (sn := 0) (c := 4) c1 (by omega)
        rw [show Int32.ofNat 4 = (4 : Int32) from rfl] at e2
        refine ⟨g2, c2, m1.trans m2, go31 _ ?_⟩
        simp (disch := omega) only [st_X6_step_31, st_X6_step_32, st_X6_step_33, st_X6_step_38, st_X6_step_41, st_X6_step_42, st_X6_step_46, st_X6_step_49, st_X6_step_50, st_X6_step_54, st_X6_step_103, st_X6_step_35 (p := 1) hq_1 ps_, st_X6_step_43 (p := 1) hq_1 ps_, st_X6_step_51 (p := 1) hq_1 ps_, e1, hb', e2, b01, cond_true, nn_one0, if_false, bC_inl, Option.toList, List.cons_append, List.nil_append, Nat.add_zero, Nat.reduceAdd]
      | false =>
        rw [q] at hb'
        rw [if_neg (by simp)]
        have f1 := flt_e c1
        obtain ⟨-, -, -, -, -, -, k6', k7', -⟩ := (c1.2.2.2.1.2 h0).2
        have e6' : g1.1 10 dd = Int32.ofNat M := by rw [k6']; exact hM
        have e8' : g1.1 1 8 = Int32.ofNat (σ.1 5) := (c1.2.2.1.2.2.2.2 h0).2.2.2.2.1
        have c2 := CR_k11 (i := dd * 3 + M) (x := Int32.ofNat (σ.1 5)) c1
        have c3 := CR_k10 (i := dd) (x := Int32.ofNat (M + 1)) c2
        have r10 : (hI g1 11 (dd * 3 + M) (Int32.ofNat (σ.1 5))).1 10 = g1.1 10 := rfl
        obtain ⟨g4, c4, m4, e4⟩ := k_adv (d := d) (t := t) (cn := 0) (sn := 0) c3
        refine ⟨g4, c4, m1.trans ((Sm_i (by omega)).trans ((Sm_i (by omega)).trans m4)), go31 _ ?_⟩
        simp (disch := omega) only [st_X6_step_31, st_X6_step_32, st_X6_step_33, st_X6_step_38, st_X6_step_41, st_X6_step_42, st_X6_step_46, st_X6_step_57, st_X6_step_58, st_X6_step_61, st_X6_step_64, st_X6_step_65, st_X6_step_66, st_X6_step_69, st_X6_step_70, st_X6_step_73, st_X6_step_76, st_X6_step_77, st_X6_step_78, st_X6_step_79, st_X6_step_80, st_X6_step_81, st_X6_step_82, st_X6_step_85, st_X6_step_86, st_X6_step_87, st_X6_step_90, st_X6_step_93, st_X6_step_94, st_X6_step_95, st_X6_step_96, st_X6_step_97, st_X6_step_98, st_X6_step_99, st_X6_step_103, st_X6_step_35 (p := 1) hq_1 ps_, st_X6_step_43 (p := 1) hq_1 ps_, st_X6_step_100 (p := 1) hq_1 ps_, e1, hb', e4, b01, cond_true, cond_false, nn_one0, if_false, if_true, bM_some, hg_1_1, hg_1_8, hg_1_10, hg_3_6, hg_3_7, ha_10, hw_10, hw_11, r10, e6', e8', f1.trans (eq_true h0), nn_l3, show M < 3 by omega, nn_t3, nn_add, nn_out, nn_clamp, bC_inl, Option.toList, List.cons_append, List.nil_append, Nat.add_zero, nn_r1, Nat.reduceAdd]
    · rw [if_neg hn]
      rw [decide_eq_false hn] at e1
      have f1 := flt_e c1
      refine ⟨g1, c1, m1, go31 _ ?_⟩
      simp (disch := omega) only [st_X6_step_31, st_X6_step_32, st_X6_step_33, st_X6_step_38, st_X6_step_57, st_X6_step_58, st_X6_step_61, st_X6_step_103, st_X6_step_35 (p := 1) hq_1 ps_, e1, b01, cond_false, if_true, if_false, bM_some, hg_1_10, f1.trans (eq_false hn), bC_inl, Option.toList, List.cons_append, List.nil_append, Nat.add_zero, Nat.reduceAdd]
end READ7
