/-! ===== how many are unlike: plain lists ===== -/
def ddS (l : List Int64) (x : Int64) : List Int64 := if x ∈ l then l else l ++ [x]
def dd (l : List Int64) : List Int64 := l.foldl ddS []
theorem dd_app {l : List Int64} {x : Int64} : dd (l ++ [x]) = ddS (dd l) x := by
  unfold dd; rw [List.foldl_append]; rfl
theorem ddS_mem {l : List Int64} {x y : Int64} : y ∈ ddS l x ↔ (y ∈ l ∨ y = x) := by
  unfold ddS
  split
  · next h =>
    constructor
    · intro q; exact Or.inl q
    · intro q
      rcases q with q | q
      · exact q
      · rw [q]; exact h
  · rw [List.mem_append, List.mem_singleton]
theorem foldl_mem : ∀ (l a : List Int64) (y : Int64), y ∈ l.foldl ddS a ↔ (y ∈ a ∨ y ∈ l) := by
  intro l
  induction l with
  | nil => intro a y; simp
  | cons x l ih =>
    intro a y
    rw [List.foldl_cons, ih, ddS_mem, List.mem_cons]
    constructor
    · intro q
      rcases q with (q | q) | q
      · exact Or.inl q
      · exact Or.inr (Or.inl q)
      · exact Or.inr (Or.inr q)
    · intro q
      rcases q with q | q | q
      · exact Or.inl (Or.inl q)
      · exact Or.inl (Or.inr q)
      · exact Or.inr q
theorem dd_mem {l : List Int64} {y : Int64} : y ∈ dd l ↔ y ∈ l := by
  unfold dd; rw [foldl_mem]; simp
theorem ddS_len {l : List Int64} {x : Int64} : (ddS l x).length ≤ l.length + 1 := by
  unfold ddS; split
  · omega
  · rw [List.length_append]; exact Nat.le_refl _
theorem foldl_len : ∀ l a : List Int64, (l.foldl ddS a).length ≤ a.length + l.length := by
  intro l
  induction l with
  | nil => intro a; simp
  | cons x l ih =>
    intro a
    rw [List.foldl_cons, List.length_cons]
    have h1 := ih (ddS a x)
    have h2 := ddS_len (l := a) (x := x)
    omega
theorem dd_len {l : List Int64} : (dd l).length ≤ l.length := by
  have := foldl_len l []
  unfold dd
  simpa using this
/-- what the Ear keeps of minute x: these choirs -/
def EX (l : List Int64) (F : Nat → Int64) (n : Int32) (x : Nat) : Prop := n = Int32.ofNat l.length ∧ ∀ i, i < l.length → F (x * 72 + i) = l.getD i 0
section DD
variable {F : Nat → Int64} {x : Int64} {b i j : Nat} {C : Nat → Int64} {q : (Nat → Int64) × Rw} {l : List Int64}
theorem newB_iff : ∀ (m e : Nat) (c : Bool), newB F b x m e c = true ↔ (c = true ∧ ∀ i, e ≤ i → i < e + m → ¬ F (b + i) = x) ∨ (c = true ∧ m = 0) := by
  intro m
  induction m with
  | zero =>
    intro e c
    unfold newB
    exact ⟨fun h => Or.inr ⟨h, rfl⟩, fun h => h.elim (fun z => z.1) (fun z => z.1)⟩
  | succ m ih =>
    intro e c
    unfold newB
    cases c with
    | false => exact ⟨fun h => (by cases h), fun h => h.elim (fun z => (by cases z.1)) (fun z => (by cases z.1))⟩
    | true =>
      rw [if_pos rfl, ih, Bool.not_eq_true', decide_eq_false_iff_not]
      constructor
      · intro h
        left
        refine ⟨rfl, fun i h1 h2 => ?_⟩
        by_cases e0 : i = e
        · rcases h with h | h
          · rw [e0]; exact h.1
          · rw [e0]; exact h.1
        · rcases h with h | h
          · exact h.2 i (by omega) (by omega)
          · omega
      · intro h
        rcases h with h | h
        · left
          exact ⟨h.2 e (by omega) (by omega), fun i h1 h2 => h.2 i (by omega) (by omega)⟩
        · omega
theorem newB_mem (h : ∀ i, i < l.length → F (b + i) = l.getD i 0) : newB F b x l.length 0 true = true ↔ x ∉ l := by
  rw [newB_iff]
  constructor
  · intro h1 h2
    obtain ⟨i, hi, e⟩ := List.mem_iff_getElem.mp h2
    have h3 := h i hi
    rw [List.getD_eq_getElem?_getD, List.getElem?_eq_getElem hi, Option.getD_some, e] at h3
    rcases h1 with h1 | h1
    · exact h1.2 i (by omega) (by omega) h3
    · omega
  · intro h1
    left
    refine ⟨rfl, fun i _ hi h2 => ?_⟩
    rw [Nat.zero_add] at hi
    have h3 := h i hi
    rw [List.getD_eq_getElem?_getD, List.getElem?_eq_getElem hi, Option.getD_some] at h3
    exact h1 (List.mem_iff_getElem.mpr ⟨i, hi, by rw [← h3]; exact h2⟩)
theorem coS_same (h : EX l q.1 (q.2 i) i) (hl : l.length < 72) : EX (ddS l (C i)) (coS C i q).1 ((coS C i q).2 i) i := by
  obtain ⟨h1, h2⟩ := h
  unfold coS
  rw [h1, nn_clamp (by omega)]
  by_cases hn : newB q.1 (i * 72) (C i) l.length 0 true = true
  · rw [if_pos hn]
    have hm := (newB_mem h2).mp hn
    unfold ddS
    rw [if_neg hm]
    refine ⟨?_, fun j hj => ?_⟩
    · dsimp only; rw [upd_same, List.length_append]; rfl
    · rw [List.length_append, List.length_singleton] at hj
      dsimp only
      unfold vp_updL
      by_cases e : j = l.length
      · rw [if_pos (by rw [e]), e, List.getD_eq_getElem?_getD, List.getElem?_append_right (Nat.le_refl _), Nat.sub_self]; rfl
      · rw [if_neg (by omega), h2 j (by omega), List.getD_eq_getElem?_getD, List.getD_eq_getElem?_getD, List.getElem?_append_left (by omega)]
  · rw [if_neg hn]
    have hm : C i ∈ l := Classical.byContradiction fun z => hn ((newB_mem h2).mpr z)
    unfold ddS
    rw [if_pos hm]
    exact ⟨h1, h2⟩
theorem coS_oth (h : EX l q.1 (q.2 j) j) (hl : l.length ≤ 72) (hij : ¬ j = i) (hc : (q.2 i).toNatClampNeg < 72) : EX l (coS C i q).1 ((coS C i q).2 j) j := by
  obtain ⟨h1, h2⟩ := h
  unfold coS
  split
  · refine ⟨?_, fun e he => ?_⟩
    · dsimp only; rw [upd_oth hij]; exact h1
    · dsimp only
      unfold vp_updL
      rw [if_neg (by omega)]
      exact h2 e he
  · exact ⟨h1, h2⟩
theorem coF_E {l : Nat → List Int64} (hl : ∀ x, (l x).length < 72) : ∀ (m i : Nat) (q : (Nat → Int64) × Rw), i + m = 61 → (∀ x, i ≤ x → x ≤ 60 → EX (l x) q.1 (q.2 x) x) → (∀ x, 1 ≤ x → x < i → EX (ddS (l x) (C x)) q.1 (q.2 x) x) → ∀ x, 1 ≤ x → x ≤ 60 → EX (ddS (l x) (C x)) (coF C m i q).1 ((coF C m i q).2 x) x := by
  intro m
  induction m with
  | zero => intro i q hi _ h x h1 h2; exact h x h1 (by omega)
  | succ m ih =>
    intro i q hi ha hb
    unfold coF
    have hq := (ha i (Nat.le_refl i) (by omega)).1
    have hli := hl i
    have hc : (q.2 i).toNatClampNeg < 72 := by rw [hq, nn_clamp (by omega)]; exact hli
    refine ih (i + 1) (coS C i q) (by omega) ?_ ?_
    · intro x h1 h2
      exact coS_oth (ha x (by omega) h2) (Nat.le_of_lt (hl x)) (by omega) hc
    · intro x h1 h2
      by_cases e : x = i
      · subst e; exact coS_same (ha x (by omega) (by omega)) hli
      · refine coS_oth (hb x h1 (by omega)) ?_ e hc
        have := ddS_len (l := l x) (x := C x)
        have := hl x
        omega
/-- the Ear holds the choirs of E: cv x e is that of e in minute x -/
def EI (cv : Nat → Nat → Int64) (E : List Nat) (F : Nat → Int64) (u : Rw) : Prop := ∀ x, 1 ≤ x → x ≤ 60 → EX (dd (E.map (cv x))) F (u x) x
theorem EI_lt {cv : Nat → Nat → Int64} {E : List Nat} {u : Rw} (h : EI cv E F u) (hl : E.length < 72) : ∀ x, 1 ≤ x → x ≤ 60 → ∃ c, u x = Int32.ofNat c ∧ c < 72 := by
  intro x h1 h2
  refine ⟨_, (h x h1 h2).1, ?_⟩
  have := dd_len (l := E.map (cv x))
  rw [List.length_map] at this
  omega
theorem EI_suc {cv : Nat → Nat → Int64} {E : List Nat} {u : Rw} {e : Nat} (h : EI cv E F u) (hl : E.length < 72) (hC : ∀ x, 1 ≤ x → x ≤ 60 → C x = cv x e) : EI cv (E ++ [e]) (coF C 60 1 (F, u)).1 (coF C 60 1 (F, u)).2 := by
  intro x h1 h2
  rw [List.map_append, List.map_singleton, dd_app, ← hC x h1 h2]
  refine coF_E (C := C) (l := fun x => dd (E.map (cv x))) (fun x => ?_) 60 1 (F, u) (by omega) (fun x h1 h2 => h x h1 h2) (fun x h1 h2 => by omega) x h1 h2
  have := dd_len (l := E.map (cv x))
  rw [List.length_map] at this
  show (dd (E.map (cv x))).length < 72
  omega
/-- the reference's count is the same -/
theorem nwL_iff {i f : Nat} : ∀ (m e : Nat) (c : Bool), nwL F i f m e c = true ↔ (c = true ∧ ∀ y, e ≤ y → y < e + m → ¬ F (60 * y + i) = F (60 * f + i)) := by
  intro m
  induction m with
  | zero => intro e c; unfold nwL; exact ⟨fun h => ⟨h, fun y h1 h2 => by omega⟩, fun h => h.1⟩
  | succ m ih =>
    intro e c
    unfold nwL
    cases c with
    | false => exact ⟨fun h => (by cases h), fun h => (by cases h.1)⟩
    | true =>
      rw [if_pos rfl, ih, Bool.not_eq_true', decide_eq_false_iff_not]
      constructor
      · intro ⟨h1, h2⟩
        refine ⟨rfl, fun y h3 h4 => ?_⟩
        by_cases e0 : y = e
        · rw [e0]; exact h1
        · exact h2 y (by omega) (by omega)
      · intro ⟨_, h⟩
        exact ⟨h e (by omega) (by omega), fun y h1 h2 => h y (by omega) (by omega)⟩
theorem range_suc {f : Nat} {h : Nat → Int64} : (List.range (f + 1)).map h = (List.range f).map h ++ [h f] := by
  rw [List.range_succ, List.map_append, List.map_singleton]
theorem unL_dd {i : Nat} : ∀ (m f : Nat), unL F i m f (dd ((List.range f).map fun e => F (60 * e + i))).length = (dd ((List.range (f + m)).map fun e => F (60 * e + i))).length := by
  intro m
  induction m with
  | zero => intro f; rfl
  | succ m ih =>
    intro f
    unfold unL
    rw [show f + (m + 1) = f + 1 + m by omega, ← ih (f + 1), range_suc, dd_app]
    congr 1
    have hm : F (60 * f + i) ∈ dd ((List.range f).map fun e => F (60 * e + i)) ↔ ¬ nwL F i f f 0 true = true := by
      rw [dd_mem, nwL_iff, List.mem_map]
      constructor
      · intro ⟨e, he, h1⟩ ⟨_, h2⟩
        rw [List.mem_range] at he
        exact h2 e (by omega) (by omega) h1
      · intro h1
        apply Classical.byContradiction
        intro h2
        refine h1 ⟨rfl, fun y _ h4 h5 => h2 ⟨y, List.mem_range.mpr (by omega), h5⟩⟩
    unfold ddS
    by_cases h : F (60 * f + i) ∈ dd ((List.range f).map fun e => F (60 * e + i))
    · rw [if_pos h, Bool.eq_false_iff.mpr (hm.mp h)]; rfl
    · rw [if_neg h, List.length_append]
      have : nwL F i f f 0 true = true := Classical.byContradiction fun z => h (hm.mpr z)
      rw [this]; rfl
theorem unL_eq {i n : Nat} : unL F i n 0 0 = (dd ((List.range n).map fun e => F (60 * e + i))).length := by
  have := unL_dd (F := F) (i := i) n 0
  rw [Nat.zero_add] at this
  exact this
end DD
/-- the first minute with the most, of m from i on -/
def chM (c : Nat → Nat) : Nat → Nat → Int32 → Nat → Int32 × Nat
  | 0, _, b, o => (b, o)
  | m + 1, i, b, o => if o < c i then chM c m (i + 1) (Int32.ofNat i) (c i) else chM c m (i + 1) b o
theorem liL_chM {F : Nat → Int64} {n : Nat} {c : Nat → Nat} (h : ∀ i, i < 60 → unL F i n 0 0 = c (i + 1)) : ∀ (m i : Nat) (b : Int32) (o : Nat), i + m = 60 → liL F n m i b o = chM c m (i + 1) b o := by
  intro m
  induction m with
  | zero => intro i b o _; rfl
  | succ m ih =>
    intro i b o hi
    unfold liL chM
    rw [h i (by omega), ih (i + 1) _ _ (by omega), ih (i + 1) _ _ (by omega)]
/-- which chalks of kettle j fit, from c on; which kettles and chalks -/
def fiS (ok : Nat → Bool) (was : Int32) : Nat → Nat → List Nat
  | 0, _ => []
  | m + 1, c => if Int32.ofNat c = was then fiS ok was m (c + 1) else if ok c = true then c :: fiS ok was m (c + 1) else fiS ok was m (c + 1)
def foS (ok : Nat → Nat → Bool) (w : Rw) : Nat → Nat → List Nat
  | 0, _ => []
  | m + 1, j => (fiS (ok j) (w (24 + j)) 10 0).map (fun c => 10 * j + c) ++ foS ok w m (j + 1)
section FOS
variable {j : Nat} {w : Rw}
theorem fiL_S {ok : Nat → Bool} {was : Int32} : ∀ (m c n : Nat) (f : Rw), (fiL ok j was m c n f).1 = n + (fiS ok was m c).length ∧ (∀ e, e < n → (fiL ok j was m c n f).2 e = f e) ∧ ∀ e, e < (fiS ok was m c).length → (fiL ok j was m c n f).2 (n + e) = Int32.ofNat (10 * j + (fiS ok was m c).getD e 0) := by
  intro m
  induction m with
  | zero => intro c n f; exact ⟨rfl, fun e _ => rfl, fun e he => absurd he (Nat.not_lt_zero e)⟩
  | succ m ih =>
    intro c n f
    unfold fiL fiS
    by_cases h : Int32.ofNat c = was
    · rw [if_pos h, if_pos h]; exact ih _ _ _
    · rw [if_neg h, if_neg h]
      by_cases h2 : ok c = true
      · rw [if_pos h2, if_pos h2]
        obtain ⟨q1, q2, q3⟩ := ih (c + 1) (n + 1) (upd f n (Int32.ofNat (10 * j + c)))
        refine ⟨by rw [q1, List.length_cons]; omega, fun e he => ?_, fun e he => ?_⟩
        · rw [q2 e (by omega), upd_oth (by omega)]
        · cases e with
          | zero =>
            have := q2 n (by omega)
            rw [upd_same] at this
            exact this
          | succ e =>
            rw [List.length_cons] at he
            have := q3 e (by omega)
            rw [show n + 1 + e = n + (e + 1) by omega] at this
            rw [this]; rfl
      · rw [if_neg h2, if_neg h2]; exact ih _ _ _
theorem foL_S {ok : Nat → Nat → Bool} : ∀ (m j n : Nat) (f : Rw), (foL ok w m j n f).1 = n + (foS ok w m j).length ∧ (∀ e, e < n → (foL ok w m j n f).2 e = f e) ∧ ∀ e, e < (foS ok w m j).length → (foL ok w m j n f).2 (n + e) = Int32.ofNat ((foS ok w m j).getD e 0) := by
  intro m
  induction m with
  | zero => intro j n f; exact ⟨rfl, fun e _ => rfl, fun e he => absurd he (Nat.not_lt_zero e)⟩
  | succ m ih =>
    intro j n f
    unfold foL foS
    obtain ⟨p1, p2, p3⟩ := fiL_S (ok := ok j) (j := j) (was := w (24 + j)) 10 0 n f
    generalize fiL (ok j) j (w (24 + j)) 10 0 n f = Z at p1 p2 p3
    obtain ⟨q1, q2, q3⟩ := ih (j + 1) Z.1 Z.2
    refine ⟨by rw [q1, p1, List.length_append, List.length_map]; omega, fun e he => ?_, fun e he => ?_⟩
    · rw [q2 e (by omega), p2 e he]
    · rw [List.length_append, List.length_map] at he
      by_cases h : e < (fiS (ok j) (w (24 + j)) 10 0).length
      · rw [q2 (n + e) (by omega), p3 e h, List.getD_eq_getElem?_getD, List.getD_eq_getElem?_getD, List.getElem?_append_left (by rw [List.length_map]; exact h), List.getElem?_map, List.getElem?_eq_getElem h]; rfl
      · have := q3 (e - (fiS (ok j) (w (24 + j)) 10 0).length) (by omega)
        rw [show Z.1 + (e - (fiS (ok j) (w (24 + j)) 10 0).length) = n + e by omega] at this
        rw [this, List.getD_eq_getElem?_getD, List.getD_eq_getElem?_getD, List.getElem?_append_right (by rw [List.length_map]; omega), List.length_map]
theorem fiS_b {ok : Nat → Bool} {was : Int32} : ∀ (m c : Nat), ∀ e, e ∈ fiS ok was m c → e < c + m := by
  intro m
  induction m with
  | zero => intro c e he; cases he
  | succ m ih =>
    intro c e he
    unfold fiS at he
    split at he
    · have := ih (c + 1) e he; omega
    · split at he
      · rcases List.mem_cons.mp he with h | h
        · omega
        · have := ih (c + 1) e h; omega
      · have := ih (c + 1) e he; omega
end FOS
