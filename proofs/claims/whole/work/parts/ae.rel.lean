/-! ===== the whole relation: class and reference hold the same evening ===== -/
/-- the image: how many acts, how many heard, the acts, the row, when and what was heard, the status -/
abbrev Im : Type := Nat × Nat × (Nat → Rw) × Rw × Rw × Rw × Rw
/-- class: kitchen, row, acts, what is heard, tape, what was searched -/
def CI (N S D L n q T : Nat) (ac : Nat → Rw) (g : hG) : Prop :=
  KN (kC g) N S D L ∧ KO (kC g) N S D L ∧ RI (kC g) N S 9999 (g.1 29) ∧ Z54 (g.1 29) ∧ Z54 (g.1 30) ∧ Z54 (g.1 38) ∧ Z54 (g.1 42) ∧
  (cA n ac g ∧ ∀ i, i < n → RI (kC g) N S 9999 (ac i) ∧ Z54 (ac i)) ∧
  (q ≤ 8 ∧ g.1 34 2 = Int32.ofNat q ∧ ∀ i, i < q → (1 ≤ (g.1 35 i).toInt ∧ (g.1 35 i).toInt ≤ 60) ∧ (-1 ≤ (g.1 36 i).toInt ∧ (g.1 36 i).toInt ≤ 60)) ∧
  (g.1 1 2 = Int32.ofNat T ∧ T ≤ 600) ∧
  (∀ dd, dd < D → g.1 41 4 = Int32.ofNat dd → plOk (kC g) N S D L dd (g.1 29) (g.1 41) (g.1 44)) ∧
  (g.1 37 4 = 0 ∨ (g.1 37 4 = 1 ∧ eaOk (kC g) N D L q (g.1 29) (g.1 35) (g.1 36) (g.1 37)))
/-- the reference holds the same -/
def MS (N S D L n q T : Nat) (ac : Nat → Rw) (g : hG) : Prop :=
  MK (kC g) N S D L g ∧ (∀ i, i < 54 → mrow g i = g.1 29 i) ∧ mAc n ac g ∧ g.1 49 35 = Int32.ofNat q ∧ (∀ i, i < q → g.1 78 i = g.1 35 i ∧ g.1 79 i = g.1 36 i) ∧
  (∀ i, i < 3 → g.1 62 i = g.1 31 i) ∧ g.1 49 15 = Int32.ofNat T ∧ tapeR T (g.1 2) (g.1 63) ∧ g.1 49 24 = g.1 1 3
def earE (U : Nat → Int64) : px_E := .inl (1, 4392, .inr (.inl U))
/-- the cells behind the others: an image is there -/
def TI (R A : Rw) (f m : Int32) (M H : Rw) (n : Int32) (S : Rw) (t : List px_E) (a b : Value) : Prop :=
  (a = .ref 89 ∧ b = .null ∧ t = imgL 89 R A f m M H n S []) ∨ (∃ U, a = .ref 90 ∧ b = .ref 89 ∧ t = earE U :: imgL 90 R A f m M H n S []) ∨ (∃ U, a = .ref 89 ∧ b = .ref 97 ∧ t = imgL 89 R A f m M H n S [earE U])
/-- none is there -/
def TN (t : List px_E) (a b : Value) : Prop := (a = .null ∧ b = .null ∧ t = []) ∨ (∃ U, a = .null ∧ b = .ref 89 ∧ t = [earE U])
/-- rows of acts as the class keeps them -/
def cAr (n : Nat) (ac : Nat → Rw) (A : Rw) (f m : Int32) : Prop := n ≤ 40 ∧ ∃ f' : Nat, f' < 40 ∧ f = Int32.ofNat f' ∧ m = Int32.ofNat n ∧ ∀ i, i < n → ∀ j, j < 54 → A ((f' + i) % 40 * 54 + j) = ac i j
/-- what holds of an image's contents -/
def GIm (K : Kt) (N S : Nat) (R A : Rw) (f m : Int32) (M H : Rw) (n : Int32) (s : Rw) (o : Im) : Prop :=
  RI K N S 9999 R ∧ (cAr o.1 o.2.2.1 A f m ∧ ∀ i, i < o.1 → RI K N S 9999 (o.2.2.1 i) ∧ Z54 (o.2.2.1 i)) ∧ (o.2.1 ≤ 8 ∧ n = Int32.ofNat o.2.1 ∧ ∀ i, i < o.2.1 → (1 ≤ (M i).toInt ∧ (M i).toInt ≤ 60) ∧ (-1 ≤ (H i).toInt ∧ (H i).toInt ≤ 60)) ∧
  (∀ i, i < 54 → o.2.2.2.1 i = R i) ∧ (∀ i, i < o.2.1 → o.2.2.2.2.1 i = M i ∧ o.2.2.2.2.2.1 i = H i) ∧ (∀ i, i < 3 → o.2.2.2.2.2.2 i = s i)
def IC (K : Kt) (N S : Nat) (o : Option Im) (t : List px_E) (a b : Value) (x : Int32) : Prop := match o with
  | none => x = 0 ∧ (TN t a b ∨ ∃ (R A : Rw) (f m : Int32) (M H : Rw) (n : Int32) (s : Rw), Z54 R ∧ TI R A f m M H n s t a b)
  | some o => x = 1 ∧ ∃ (R A : Rw) (f m : Int32) (M H : Rw) (n : Int32) (s : Rw), Z54 R ∧ TI R A f m M H n s t a b ∧ GIm K N S R A f m M H n s o
def IM (o : Option Im) (g : hG) : Prop := match o with
  | none => g.1 49 50 = 0
  | some o => g.1 49 50 = 1 ∧ (∀ i, i < 54 → unpR (g.1 83) 0 i = o.2.2.2.1 i) ∧ g.1 49 51 = Int32.ofNat o.1 ∧ (∀ i, i < o.1 → ∀ j, j < 54 → unpR (g.1 84) (54 * i) j = o.2.2.1 i j) ∧ g.1 49 52 = Int32.ofNat o.2.1 ∧
      (∀ i, i < o.2.1 → g.1 85 i = o.2.2.2.2.1 i ∧ g.1 86 i = o.2.2.2.2.2.1 i) ∧ (∀ i, i < 3 → g.1 87 i = o.2.2.2.2.2.2 i)
def RelP (N S D L n q T : Nat) (ac : Nat → Rw) (o : Option Im) (t : List px_E) (g : hG) : Prop :=
  CI N S D L n q T ac g ∧ MS N S D L n q T ac g ∧ IC (kC g) N S o t (g.2.2 0 10) (g.2.2 37 3) (g.1 0 11) ∧ IM o g
def Rel (t : List px_E) (g : hG) : Prop := ∃ (N S D L n q T : Nat) (ac : Nat → Rw) (o : Option Im), RelP N S D L n q T ac o t g
/-- the cells that the relation speaks of, rows of the reference aside -/
def esN (c j : Nat) : Prop := c = 0 ∨ c = 2 ∨ (c = 1 ∧ (j = 2 ∨ j = 3)) ∨ (c = 16 ∧ 10 ≤ j ∧ j ≤ 12) ∨ (17 ≤ c ∧ c ≤ 26) ∨ c = 29 ∨ (31 ≤ c ∧ c ≤ 37) ∨ c = 41 ∨ c = 44 ∨ (c = 49 ∧ (j = 15 ∨ j = 24 ∨ j = 34 ∨ j = 35 ∨ j = 50 ∨ j = 51 ∨ j = 52)) ∨ (52 ≤ c ∧ c ≤ 63) ∨ c = 71 ∨ c = 78 ∨ c = 79 ∨ (83 ≤ c ∧ c ≤ 87)
def Fr (g g' : hG) : Prop := (∀ c j, esN c j → g'.1 c j = g.1 c j) ∧ (∀ i, i < 54 → mrow g' i = mrow g i) ∧ g'.2.2 0 10 = g.2.2 0 10 ∧ g'.2.2 37 3 = g.2.2 37 3 ∧ Z54 (g'.1 30) ∧ Z54 (g'.1 38) ∧ Z54 (g'.1 42)
section REL
variable {N S D L n q T : Nat} {ac : Nat → Rw} {o : Option Im} {t : List px_E} {g g' g1 : hG} {w a k : Rw}
theorem kC_es (h : ∀ c j, esN c j → g'.1 c j = g.1 c j) : kC g' = kC g := by
  funext c j
  unfold kC
  split
  all_goals first
    | rfl
    | (exact h _ _ (by unfold esN; omega))
    | (split <;> exact h _ _ (by unfold esN; omega))
theorem Fr_row (h : ∀ c j, esN c j → g'.1 c j = g.1 c j) {c : Nat} (hc : ∀ j, esN c j) : g'.1 c = g.1 c := funext fun j => h c j (hc j)
set_option maxHeartbeats 2000000 in
theorem RelP_fr (H : RelP N S D L n q T ac o t g) (hF : Fr g g') : RelP N S D L n q T ac o t g' := by
  obtain ⟨⟨c1, c2, c3, c4, -, -, -, c8, c9, c10, c11, c12⟩, ⟨m1, m2, m3, m4, m5, m6, m7, m8, m9⟩, ic, im⟩ := H
  obtain ⟨h, hm, ha, hb, z1, z2, z3⟩ := hF
  have eK := kC_es h
  have e29 : g'.1 29 = g.1 29 := Fr_row h (fun j => by unfold esN; omega)
  have e2 : g'.1 2 = g.1 2 := Fr_row h (fun j => by unfold esN; omega)
  have e31 : g'.1 31 = g.1 31 := Fr_row h (fun j => by unfold esN; omega)
  have e32 : g'.1 32 = g.1 32 := Fr_row h (fun j => by unfold esN; omega)
  have e33 : g'.1 33 = g.1 33 := Fr_row h (fun j => by unfold esN; omega)
  have e34 : g'.1 34 = g.1 34 := Fr_row h (fun j => by unfold esN; omega)
  have e35 : g'.1 35 = g.1 35 := Fr_row h (fun j => by unfold esN; omega)
  have e36 : g'.1 36 = g.1 36 := Fr_row h (fun j => by unfold esN; omega)
  have e37 : g'.1 37 = g.1 37 := Fr_row h (fun j => by unfold esN; omega)
  have e41 : g'.1 41 = g.1 41 := Fr_row h (fun j => by unfold esN; omega)
  have e44 : g'.1 44 = g.1 44 := Fr_row h (fun j => by unfold esN; omega)
  have e0 : g'.1 0 = g.1 0 := Fr_row h (fun j => by unfold esN; omega)
  have e12 : g'.1 1 2 = g.1 1 2 := h _ _ (by unfold esN; omega)
  have e13 : g'.1 1 3 = g.1 1 3 := h _ _ (by unfold esN; omega)
  have e52 : g'.1 52 = g.1 52 := Fr_row h (fun j => by unfold esN; omega)
  have e53 : g'.1 53 = g.1 53 := Fr_row h (fun j => by unfold esN; omega)
  have e54 : g'.1 54 = g.1 54 := Fr_row h (fun j => by unfold esN; omega)
  have e55 : g'.1 55 = g.1 55 := Fr_row h (fun j => by unfold esN; omega)
  have e58 : g'.1 58 = g.1 58 := Fr_row h (fun j => by unfold esN; omega)
  have e59 : g'.1 59 = g.1 59 := Fr_row h (fun j => by unfold esN; omega)
  have e60 : g'.1 60 = g.1 60 := Fr_row h (fun j => by unfold esN; omega)
  have e61 : g'.1 61 = g.1 61 := Fr_row h (fun j => by unfold esN; omega)
  have e62 : g'.1 62 = g.1 62 := Fr_row h (fun j => by unfold esN; omega)
  have e63 : g'.1 63 = g.1 63 := Fr_row h (fun j => by unfold esN; omega)
  have e71 : g'.1 71 = g.1 71 := Fr_row h (fun j => by unfold esN; omega)
  have e78 : g'.1 78 = g.1 78 := Fr_row h (fun j => by unfold esN; omega)
  have e79 : g'.1 79 = g.1 79 := Fr_row h (fun j => by unfold esN; omega)
  have e83 : g'.1 83 = g.1 83 := Fr_row h (fun j => by unfold esN; omega)
  have e84 : g'.1 84 = g.1 84 := Fr_row h (fun j => by unfold esN; omega)
  have e85 : g'.1 85 = g.1 85 := Fr_row h (fun j => by unfold esN; omega)
  have e86 : g'.1 86 = g.1 86 := Fr_row h (fun j => by unfold esN; omega)
  have e87 : g'.1 87 = g.1 87 := Fr_row h (fun j => by unfold esN; omega)
  have f15 : g'.1 49 15 = g.1 49 15 := h _ _ (by unfold esN; omega)
  have f24 : g'.1 49 24 = g.1 49 24 := h _ _ (by unfold esN; omega)
  have f34 : g'.1 49 34 = g.1 49 34 := h _ _ (by unfold esN; omega)
  have f35 : g'.1 49 35 = g.1 49 35 := h _ _ (by unfold esN; omega)
  have f50 : g'.1 49 50 = g.1 49 50 := h _ _ (by unfold esN; omega)
  have f51 : g'.1 49 51 = g.1 49 51 := h _ _ (by unfold esN; omega)
  have f52 : g'.1 49 52 = g.1 49 52 := h _ _ (by unfold esN; omega)
  refine ⟨⟨?_, ?_, ?_, ?_, z1, z2, z3, ?_, ?_, ?_, ?_, ?_⟩, ⟨?_, ?_, ?_, ?_, ?_, ?_, ?_, ?_, ?_⟩, ?_, ?_⟩
  · rw [eK]; exact c1
  · rw [eK]; exact c2
  · rw [eK, e29]; exact c3
  · rw [e29]; exact c4
  · unfold cA at c8 ⊢; rw [eK, e32, e33]; exact c8
  · rw [e34, e35, e36]; exact c9
  · rw [e12]; exact c10
  · rw [eK, e29, e41, e44]; exact c11
  · rw [eK, e29, e35, e36, e37]; exact c12
  · unfold MK at m1 ⊢; rw [eK, e52, e53, e54, e55, e58, e59, e60, e61]; exact m1
  · intro i hi; rw [hm i hi, e29]; exact m2 i hi
  · unfold mAc at m3 ⊢; rw [f34, e71]; exact m3
  · rw [f35]; exact m4
  · rw [e78, e79, e35, e36]; exact m5
  · rw [e62, e31]; exact m6
  · rw [f15]; exact m7
  · rw [e2, e63]; exact m8
  · rw [f24, e13]; exact m9
  · rw [eK, ha, hb, e0]; exact ic
  · unfold IM at im ⊢
    rw [f50, f51, f52, e83, e84, e85, e86, e87]; exact im
theorem Fr_rf (H : RelP N S D L n q T ac o t g) : Fr g g := ⟨fun _ _ _ => rfl, fun _ _ => rfl, rfl, rfl, H.1.2.2.2.2.1, H.1.2.2.2.2.2.1, H.1.2.2.2.2.2.2.1⟩
theorem mrow_of (h : ∀ c j, ((64 ≤ c ∧ c ≤ 70) ∨ (c = 49 ∧ j = 33)) → g'.1 c j = g.1 c j) (i : Nat) : mrow g' i = mrow g i := by
  unfold mrow
  split
  · exact h _ _ (by omega)
  · split
    · exact h _ _ (by omega)
    · split
      · exact h _ _ (by omega)
      · rfl
/-- a cell that the relation doesn't speak of -/
def nes (c j : Nat) : Prop := ¬ esN c j ∧ ¬ (64 ≤ c ∧ c ≤ 70) ∧ ¬ (c = 49 ∧ j = 33) ∧ ¬ c = 30 ∧ ¬ c = 38 ∧ ¬ c = 42
theorem Fr_of (H : Fr g g1) (h : ∀ c j, ¬ nes c j → g'.1 c j = g1.1 c j) (h2 : g'.2.2 = g1.2.2) : Fr g g' := by
  obtain ⟨f1, f2, f3, f4, f5, f6, f7⟩ := H
  refine ⟨fun c j e => (h c j (fun z => z.1 e)).trans (f1 c j e), fun i hi => (mrow_of (fun c j e => h c j (fun z => ?_)) i).trans (f2 i hi), by rw [h2]; exact f3, by rw [h2]; exact f4, fun i hi => ?_, fun i hi => ?_, fun i hi => ?_⟩
  · rcases e with e | e
    · exact z.2.1 e
    · exact z.2.2.1 e
  · rw [h 30 i (fun z => z.2.2.2.1 rfl)]; exact f5 i hi
  · rw [h 38 i (fun z => z.2.2.2.2.1 rfl)]; exact f6 i hi
  · rw [h 42 i (fun z => z.2.2.2.2.2 rfl)]; exact f7 i hi
theorem Fr_hR {c : Nat} {f : Rw} (H : Fr g g1) (hc : ∀ j, nes c j) : Fr g (hR g1 c f) := Fr_of H (fun c' j h => by
  rw [hR_at, if_neg (show ¬ c' = c from fun z => h (by rw [z]; exact hc j))]) rfl
theorem Fr_hI {c i : Nat} {x : Int32} (H : Fr g g1) (hc : nes c i) : Fr g (hI g1 c i x) := Fr_of H (fun c' j h => by
  rw [hI_at, if_neg (show ¬ (c' = c ∧ j = i) from fun z => h (by rw [z.1, z.2]; exact hc))]) rfl
theorem Fr_hJ {c i : Nat} {x : Int64} (H : Fr g g1) : Fr g (hJ g1 c i x) := Fr_of H (fun _ _ _ => rfl) rfl
theorem Fr_hQ {c : Nat} {F : Nat → Int64} (H : Fr g g1) : Fr g (hQ g1 c F) := Fr_of H (fun _ _ _ => rfl) rfl
theorem mrow_gM {i : Nat} (hi : i < 54) : mrow (gM g w a k) i = w i := by
  unfold mrow gM mA
  dsimp only
  by_cases h1 : i < 48
  · rw [if_pos h1, if_neg (by omega), if_neg (by omega), if_pos (by omega)]
    congr 1
    omega
  · rw [if_neg h1]
    by_cases h2 : i < 53
    · rw [if_pos h2, if_neg (by omega), if_neg (by omega), if_neg (by omega), if_pos (by omega)]
      congr 1
      omega
    · rw [if_neg h2, if_pos (by omega), if_neg (by omega), if_neg (by omega), if_neg (by omega), if_neg (by omega), if_pos (by omega)]
      congr 1
      omega
theorem Fr_gM (H : Fr g g1) (hw : ∀ i, i < 54 → w i = mrow g i) : Fr g (gM g1 w a k) := by
  obtain ⟨f1, f2, f3, f4, f5, f6, f7⟩ := H
  have key : ∀ c j, ¬ c = 72 → ¬ c = 73 → ¬ (64 ≤ c ∧ c ≤ 70) → ¬ (c = 49 ∧ j = 33) → (gM g1 w a k).1 c j = g1.1 c j := by
    intro c j h1 h2 h3 h4
    unfold gM mA
    dsimp only
    rw [if_neg h1, if_neg h2, if_neg (by omega), if_neg (by omega), if_neg h4]
  refine ⟨fun c j e => (key c j ?_ ?_ ?_ ?_).trans (f1 c j e), fun i hi => (mrow_gM hi).trans (hw i hi), f3, f4, fun i hi => ?_, fun i hi => ?_, fun i hi => ?_⟩
  all_goals first
    | (unfold esN at e; omega)
    | (rw [key 30 i (by omega) (by omega) (by omega) (by omega)]; exact f5 i hi)
    | (rw [key 38 i (by omega) (by omega) (by omega) (by omega)]; exact f6 i hi)
    | (rw [key 42 i (by omega) (by omega) (by omega) (by omega)]; exact f7 i hi)
theorem Fr_row30 {f : Rw} {c : Nat} (hc : c = 30 ∨ c = 38 ∨ c = 42) (H : Fr g g1) (hf : Z54 f) : Fr g (hR g1 c f) := by
  obtain ⟨f1, f2, f3, f4, f5, f6, f7⟩ := H
  have key : ∀ c' j, ¬ c' = c → (hR g1 c f).1 c' j = g1.1 c' j := fun c' j h => by rw [hR_at, if_neg h]
  refine ⟨fun c' j e => (key c' j ?_).trans (f1 c' j e), fun i hi => (mrow_of (fun c' j e => key c' j ?_) i).trans (f2 i hi), f3, f4, fun i hi => ?_, fun i hi => ?_, fun i hi => ?_⟩
  · unfold esN at e; omega
  · omega
  · rw [hR_at]; split
    · exact hf i hi
    · exact f5 i hi
  · rw [hR_at]; split
    · exact hf i hi
    · exact f6 i hi
  · rw [hR_at]; split
    · exact hf i hi
    · exact f7 i hi
theorem Fr_gP {r : Nat} {s : Int32} {m : Int64} {v : Rw} (hc : r = 30 ∨ r = 38 ∨ r = 42) (H : Fr g g1) (hf : Z54 w) : Fr g (gP g1 r w s m v k) := by
  unfold gP
  exact Fr_hR (Fr_hR (Fr_hJ (Fr_hI (Fr_row30 hc H hf) (by unfold nes esN; omega))) (fun j => by unfold nes esN; omega)) (fun j => by unfold nes esN; omega)
theorem r_K (H : RelP N S D L n q T ac o t g) : KN (kC g) N S D L := H.1.1
theorem r_O (H : RelP N S D L n q T ac o t g) : KO (kC g) N S D L := H.1.2.1
theorem r_R (H : RelP N S D L n q T ac o t g) : RI (kC g) N S 9999 (g.1 29) := H.1.2.2.1
theorem r_z (H : RelP N S D L n q T ac o t g) : Z54 (g.1 29) := H.1.2.2.2.1
theorem r_30 (H : RelP N S D L n q T ac o t g) : Z54 (g.1 30) := H.1.2.2.2.2.1
theorem r_38 (H : RelP N S D L n q T ac o t g) : Z54 (g.1 38) := H.1.2.2.2.2.2.1
theorem r_42 (H : RelP N S D L n q T ac o t g) : Z54 (g.1 42) := H.1.2.2.2.2.2.2.1
theorem r_M (H : RelP N S D L n q T ac o t g) : MK (kC g) N S D L g := H.2.1.1
theorem r_w (H : RelP N S D L n q T ac o t g) : ∀ i, i < 54 → mrow g i = g.1 29 i := H.2.1.2.1
theorem r_gM (h : ∀ i, i < 54 → mrow g i = w i) : gM g w (g.1 72) (g.1 73) = g := (gM_ext (fun i hi => (h i hi).symm)).trans gM_eta
end REL
