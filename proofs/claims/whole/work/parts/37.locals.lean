/-! ===== locals by their places: the order of the list of locals doesn't matter ===== -/
def px_nd (L : px_Ls) : Prop := (L.map Prod.fst).Nodup
def px_eqv (L L' : px_Ls) : Prop := L.Perm L' ∧ px_nd L
theorem px_nd_cons {q : Nat × Value} {L : px_Ls} : px_nd (q :: L) ↔ (∀ w, (q.1, w) ∉ L) ∧ px_nd L := by
  unfold px_nd
  rw [List.map_cons, List.nodup_cons]
  constructor
  · rintro ⟨h1, h2⟩
    exact ⟨fun w hw => h1 (List.mem_map.mpr ⟨(q.1, w), hw, rfl⟩), h2⟩
  · rintro ⟨h1, h2⟩
    refine ⟨fun hm => ?_, h2⟩
    obtain ⟨⟨a, w⟩, hw, e⟩ := List.mem_map.mp hm
    have e' : a = q.1 := e
    subst e'
    exact h1 w hw
theorem px_nd_filter {L : px_Ls} (h : px_nd L) (f : Nat × Value → Bool) : px_nd (L.filter f) :=
  List.Nodup.sublist (List.Sublist.map Prod.fst List.filter_sublist) h
theorem px_rd_iff {L : px_Ls} (hn : px_nd L) {i : Nat} {v : Value} : px_rd L i = some v ↔ (i, v) ∈ L := by
  constructor
  · exact px_rd_mem
  · intro hm
    induction L with
    | nil => cases hm
    | cons q L ih =>
      obtain ⟨h1, h2⟩ := px_nd_cons.mp hn
      unfold px_rd
      rcases List.mem_cons.mp hm with e | hm'
      · rw [← e]
        have : Nat.beq i i = true := Nat.beq_refl i
        rw [this]; rfl
      · cases hq : Nat.beq q.1 i with
        | true =>
          have e1 := Nat.eq_of_beq_eq_true hq
          rw [← e1] at hm'
          exact absurd hm' (h1 v)
        | false => exact ih h2 hm'
theorem px_eqv.symm {L L' : px_Ls} (e : px_eqv L L') : px_eqv L' L := ⟨e.1.symm, (List.Perm.nodup_iff (e.1.map Prod.fst)).mp e.2⟩
theorem px_eqv.rd {L L' : px_Ls} (e : px_eqv L L') (i : Nat) : px_rd L' i = px_rd L i := by
  have key : ∀ v, px_rd L' i = some v ↔ px_rd L i = some v := fun v => by
    rw [px_rd_iff e.2, px_rd_iff e.symm.2]
    exact (e.1.mem_iff).symm
  cases h1 : px_rd L' i with
  | some v => exact ((key v).mp h1).symm
  | none =>
    cases h2 : px_rd L i with
    | none => rfl
    | some v => rw [(key v).mpr h2] at h1; cases h1
theorem px_eqv.st1 {L L' : px_Ls} (e : px_eqv L L') (i : Nat) (v : Value) : px_eqv (px_st1 L i v) (px_st1 L' i v) := by
  refine ⟨List.Perm.cons _ (e.1.filter _), px_nd_cons.mpr ⟨fun w hw => ?_, px_nd_filter e.2 _⟩⟩
  have := (List.mem_filter.mp hw).2
  simp at this
theorem px_eqv.st2 {L L' : px_Ls} (e : px_eqv L L') (i : Nat) (v : Value) : px_eqv (px_st2 L i v) (px_st2 L' i v) := by
  refine ⟨List.Perm.cons _ (e.1.filter _), px_nd_cons.mpr ⟨fun w hw => ?_, px_nd_filter e.2 _⟩⟩
  have := (List.mem_filter.mp hw).2
  simp at this
theorem px_eqv.drop {L L' : px_Ls} (e : px_eqv L L') (i : Nat) : px_eqv (px_drop L i) (px_drop L' i) := ⟨e.1.filter _, px_nd_filter e.2 _⟩
def px_same (r r' : px_R) : Prop := ∀ q, r = some q → ∃ L2, r' = some (q.1, L2, q.2.2) ∧ px_eqv q.2.1 L2
theorem px_same.keep {L L' : px_Ls} (e : px_eqv L L') (n : Nat) (st : List Value) : px_same (some (n, L, st)) (some (n, L', st)) := fun q h => by cases h; exact ⟨_, rfl, e⟩
theorem px_same.no {r' : px_R} : px_same none r' := fun q h => by cases h
theorem px_same_ii {L L' : px_Ls} (e : px_eqv L L') (n : Nat) (st : List Value) (f : Int32 → Int32 → Value) : px_same (px_ii n L st f) (px_ii n L' st f) := by
  unfold px_ii; split
  · exact px_same.keep e _ _
  · exact px_same.no
theorem px_same_ll {L L' : px_Ls} (e : px_eqv L L') (n : Nat) (st : List Value) (f : Int64 → Int64 → Value) : px_same (px_ll n L st f) (px_ll n L' st f) := by
  unfold px_ll; split
  · exact px_same.keep e _ _
  · exact px_same.no
theorem px_same_li {L L' : px_Ls} (e : px_eqv L L') (n : Nat) (st : List Value) (f : Int64 → Int32 → Value) : px_same (px_li n L st f) (px_li n L' st f) := by
  unfold px_li; split
  · exact px_same.keep e _ _
  · exact px_same.no
theorem px_same_i {L L' : px_Ls} (e : px_eqv L L') (n : Nat) (st : List Value) (f : Int32 → Value) : px_same (px_i n L st f) (px_i n L' st f) := by
  unfold px_i; split
  · exact px_same.keep e _ _
  · exact px_same.no
theorem px_same_div {L L' : px_Ls} (e : px_eqv L L') (n : Nat) (st : List Value) (f : Int32 → Int32 → Value) : px_same (px_div n L st f) (px_div n L' st f) := by
  unfold px_div; split
  · split
    · exact px_same.no
    · exact px_same.keep e _ _
  · exact px_same.no
theorem px_same_ldi {L L' : px_Ls} (e : px_eqv L L') (n : Nat) (st : List Value) (i : Nat) : px_same (px_ldi n L st i) (px_ldi n L' st i) := by
  unfold px_ldi; rw [e.rd i]; split
  · exact px_same.keep e _ _
  · exact px_same.no
theorem px_same_ldl {L L' : px_Ls} (e : px_eqv L L') (n : Nat) (st : List Value) (i : Nat) : px_same (px_ldl n L st i) (px_ldl n L' st i) := by
  unfold px_ldl; rw [e.rd i]; split
  · exact px_same.keep e _ _
  · exact px_same.no
theorem px_same_lda {L L' : px_Ls} (e : px_eqv L L') (n : Nat) (st : List Value) (i : Nat) : px_same (px_lda n L st i) (px_lda n L' st i) := by
  unfold px_lda; rw [e.rd i]; split
  · exact px_same.keep e _ _
  · exact px_same.keep e _ _
  · exact px_same.keep e _ _
  · exact px_same.no
theorem px_same_st {nL n i : Nat} {L L' : px_Ls} (e : px_eqv L L') : px_same (bif Nat.blt i nL then some (n, L, []) else none) (bif Nat.blt i nL then some (n, L', []) else none) := by
  cases Nat.blt i nL
  · exact px_same.no
  · exact px_same.keep e _ _
theorem px_same_sti {L L' : px_Ls} (e : px_eqv L L') (nL n : Nat) (st : List Value) (i : Nat) : px_same (px_sti nL n L st i) (px_sti nL n L' st i) := by
  unfold px_sti; split
  · cases Nat.blt i nL
    · exact px_same.no
    · exact px_same.keep (e.st1 _ _) _ _
  · exact px_same.no
theorem px_same_stl {L L' : px_Ls} (e : px_eqv L L') (nL n : Nat) (st : List Value) (i : Nat) : px_same (px_stl nL n L st i) (px_stl nL n L' st i) := by
  unfold px_stl; split
  · cases Nat.blt (i + 1) nL
    · exact px_same.no
    · exact px_same.keep (e.st2 _ _) _ _
  · exact px_same.no
theorem px_same_sta {L L' : px_Ls} (e : px_eqv L L') (nL n : Nat) (st : List Value) (i : Nat) : px_same (px_sta nL n L st i) (px_sta nL n L' st i) := by
  unfold px_sta
  split <;> (try exact px_same.no) <;> (cases Nat.blt i nL <;> first | exact px_same.no | exact px_same.keep (e.st1 _ _) _ _)
theorem px_same_inc {L L' : px_Ls} (e : px_eqv L L') (nL n : Nat) (st : List Value) (i : Nat) (x : Int32) : px_same (px_inc nL n L st i x) (px_inc nL n L' st i x) := by
  unfold px_inc; rw [e.rd i]; split
  · cases Nat.blt i nL
    · exact px_same.no
    · exact px_same.keep (e.st1 _ _) _ _
  · exact px_same.no
theorem px_same_tab {L L' : px_Ls} (e : px_eqv L L') (pc : Nat) (dflt lo hi : Int) (offs : Array Int) (x : Int32) (r : List Value) : px_same (px_tab L pc dflt lo hi offs x r) (px_tab L' pc dflt lo hi offs x r) := by
  unfold px_tab
  split
  · split
    · exact px_same.keep e _ _
    · exact px_same.no
  · split
    · split
      · exact px_same.keep e _ _
      · exact px_same.no
    · exact px_same.no
theorem px_same_look {L L' : px_Ls} (e : px_eqv L L') (pc : Nat) (dflt : Int) (ps : Array (Int × Int)) (x : Int32) (r : List Value) : px_same (px_look L pc dflt ps x r) (px_look L' pc dflt ps x r) := by
  unfold px_look
  split
  · exact px_same.keep e _ _
  · exact px_same.no
set_option maxHeartbeats 4000000 in
theorem px_same_L {L L' : px_Ls} (e : px_eqv L L') (nL : Nat) (i : Instr) (tg pc : Nat) (st : List Value) : px_same (px_L nL i tg pc L st) (px_L nL i tg pc L' st) := by
  unfold px_L
  split <;> first
    | exact px_same.keep e _ _
    | exact px_same_ldi e _ _ _
    | exact px_same_ldl e _ _ _
    | exact px_same_lda e _ _ _
    | exact px_same_sti e _ _ _ _
    | exact px_same_stl e _ _ _ _
    | exact px_same_sta e _ _ _ _
    | exact px_same_inc e _ _ _ _ _
    | exact px_same_ii e _ _ _
    | exact px_same_ll e _ _ _
    | exact px_same_li e _ _ _
    | exact px_same_div e _ _ _
    | exact px_same_i e _ _ _
    | exact px_same.no
    | (split <;> first | exact px_same.keep e _ _ | exact px_same.no | exact px_same_tab e _ _ _ _ _ _ _ | exact px_same_look e _ _ _ _ _ | (cases (Nat.beq _ _) <;> first | exact px_same.no | exact px_same.keep e _ _) | (cases (Nat.beq _ _ && Nat.beq _ _) <;> first | exact px_same.no | exact px_same.keep e _ _))
