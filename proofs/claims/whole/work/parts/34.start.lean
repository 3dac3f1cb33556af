/-! ===== the law's start: the claim out of the pure machine's run ===== -/
theorem px_S1 {args : Array Value} {s : State} {A : Nat → Prop} (hA : ∀ a : Nat, a < s.heap.size → ¬ A a) {o : String} {i n : Nat} {bs : List Int32} (hn : n < 2 ^ 31) (h : px_sf args s o i n bs) : ∃ a t : Nat, (Term.string o i).eval args s none [] s = some (.ref a) ∧ va_O "java/lang/String" a A s s.heap ∧ va_OF "java/lang/String" "coder" "B" (.int 0) a A s s.heap ∧ va_OF "java/lang/String" "value" "[B" (.ref t) a A s s.heap ∧ va_T .byte t n (fun j => .int (bs.getD j 0)) A s s.heap := by
  obtain ⟨h1, h2, h3, h4, h5⟩ := h
  obtain ⟨a, c, cA, kA, q1, q2, q3, q4, q5, q6, -⟩ := Cond.exactly_spec (args := args) (first := s) (o := none) (s := s) (idx := []) (t := .string o i) (cls := "java/lang/String") h1
  obtain ⟨t, ht, hT⟩ := va_Tof (f := fun j => .int (bs.getD j 0)) (A := A) hn h3 (va_eqt h4) (fun j hj => va_eqt (h5 j hj)) hA
  exact ⟨a, t, q1, ⟨cA, q3, q5, by rw [q6]; exact q2, hA a (Array.getElem?_eq_some_iff.mp q3).1⟩, vk_OFof q1 (va_eqt h2) hA, vk_OFof q1 ht hA, hT⟩
theorem kt_hft : ∀ a k x, defaultValue (kt_ft a k) ≠ .float x := by
  intro a k x
  unfold kt_ft
  split
  · unfold tyX0; split <;> (intro h; cases h)
  · unfold tyX1; split <;> (intro h; cases h)
  · unfold tyX2; split <;> (intro h; cases h)
  · unfold tyX3; split <;> (intro h; cases h)
  · unfold tyX4; split <;> (intro h; cases h)
  · unfold tyX5; split <;> (intro h; cases h)
  · unfold tyX6; split <;> (intro h; cases h)
  · unfold tyX7; split <;> (intro h; cases h)
  · unfold tyX8; split <;> (intro h; cases h)
  · unfold tyX9; split <;> (intro h; cases h)
  · unfold tyX10; split <;> (intro h; cases h)
/-- what is left to prove: on every script of at most 384 ints the pure machine's run of the law answers 1, within the claim's room -/
def kt_Goal : Prop := ∀ (L : Nat) (xs : Nat → Int32), L ≤ 384 → ∃ (n : Nat) (h' : px_H) (C S : Nat), px_run kt_mt kt_ft kt_X n 100 M_L_law (some (L, xs)) 0 [(0, .float 4294967295)] [] [] 0 0 = some (.inl (some (.int 1)), h', C, S) ∧ C ≤ 600128 ∧ S ≤ 7301098
def R_law : String := "KettleChoirLaw"
def lw_P (b : Addr) (xs : List Int32) (args : Array Value) (s : State) : Prop := args = #[.ref b] ∧ s.IntsAt b xs ∧ xs.length ≤ 384 ∧ (Jvm.Cond.and given_1 narrow_1).before args s = true
def lw_Q (_ : Array Value) (s : State) (o : Outcome) (t : State) : Prop := o = .returned (some (.int 1)) ∧ Framed s o t [] 600128 7301098
def lw_Z (below : List Frame) (a : Array Value) (s : State) : State → Prop := fun t => ∃ o, t.status = .running ∧ Ended t below o ∧ lw_Q a s o t
def lw_At (p : Program) (s : State) (m : MethodId) (meth : Method) (c : Code) (b L : Nat) (xs : Nat → Int32) : Prop :=
  p.tables.exec = Jvm.exec ∧ c.code = code ∧ meth.sig.returnType = ret ∧ c.maxLocals = 7 ∧ s.vm.findClass R_law = some m.cls ∧ (∀ w ∈ lw_tbl, w.before #[Value.ref b] s = true) ∧ va_X b L xs s s.heap ∧ b < s.heap.size ∧ meth.locks = false ∧ (Jvm.Cond.and given_1 narrow_1).before #[Value.ref b] s = true ∧ c.exceptionTable.toList = []
set_option maxHeartbeats 8000000 in
theorem px_start {p : Program} {e : Env} {s : State} {m : MethodId} {below : List Frame} {meth : Method} {c : Code} (l : Launch) (hl : l.stackTraces = false) {b L : Nat} {xs : Nat → Int32} (C0 : lw_At p s m meth c b L xs)
    (hrun : ∃ (n : Nat) (h' : px_H) (C S : Nat), px_run kt_mt kt_ft kt_X n 100 M_L_law (some (L, xs)) 0 [(0, .float 4294967295)] [] [] 0 0 = some (.inl (some (.int 1)), h', C, S) ∧ C ≤ 600128 ∧ S ≤ 7301098) :
    W p l e room_1 s m #[Value.ref b] below meth c s.heap [] 0 0 (lw_Z below #[Value.ref b] s) (entryFrame m ([Value.ref b] : List Value).toArray 7) := by
  obtain ⟨hx, hb, hr, hml, hown, hts, hX, hbl, hlocks, hgv, htab⟩ := C0
  obtain ⟨n, h', C, S, hrn, hC, hS⟩ := hrun
  have hnr : narrow_1.before #[Value.ref b] s = true := px_andr hgv
  obtain ⟨A, hAd⟩ : ∃ A : Nat → Prop, A = fun q => s.heap.size ≤ q := ⟨_, rfl⟩
  have hA : ∀ a : Nat, a < s.heap.size → ¬ A a := fun a ha z => by rw [hAd] at z; exact absurd z (by omega)
  have hA2 : ∀ q, s.heap.size ≤ q → A q := fun q hq => by rw [hAd]; exact hq
  have hT : ∀ w ∈ kt_T, w.before #[Value.ref b] s = true := fun w hw => hts w (List.mem_filter.mp hw).1
  -- the constant texts
  have hstr : ∀ k : Nat, ∃ q : Nat × Nat, k < kt_X.1.length → (∀ (o : String) (i : Nat) (tx : String), kt_X.1[k]? = some (o, i, tx) → vk_R o i tx q.1 s) ∧ va_O "java/lang/String" q.1 A s s.heap ∧ va_OF "java/lang/String" "coder" "B" (.int 0) q.1 A s s.heap ∧ va_OF "java/lang/String" "value" "[B" (.ref q.2) q.1 A s s.heap ∧ va_T .byte q.2 (kt_X.2.1.getD k 0) (fun j => .int ((kt_X.2.2.1.getD k []).getD j 0)) A s s.heap := by
    intro k
    by_cases hk : k < kt_X.1.length
    · obtain ⟨⟨o, i, tx⟩, hg⟩ : ∃ q, kt_X.1[k]? = some q := ⟨_, List.getElem?_eq_getElem hk⟩
      obtain ⟨a, t, q1, q2, q3, q4, q5⟩ := px_S1 hA (kt_asc k hk).1 (kt_sf hnr k o i tx hg)
      refine ⟨(a, t), fun _ => ⟨fun o' i' tx' h' => ?_, q2, q3, q4, q5⟩⟩
      rw [hg] at h'
      cases h'
      exact vk_R.of (hts _ (lq_str (o, i, tx) (List.mem_of_getElem? hg))) q1
    · exact ⟨(0, 0), fun h => absurd h hk⟩
  obtain ⟨f, hf⟩ := Classical.axiomOfChoice hstr
  obtain ⟨aS, haS⟩ : ∃ aS : Nat → Nat, aS = fun k => if k = 4294967295 then b else (f k).1 := ⟨_, rfl⟩
  have haS1 : ∀ k, k < kt_X.1.length → aS k = (f k).1 := fun k hk => by
    have : kt_X.1.length = kt_nstr := rfl
    rw [haS]
    dsimp only
    rw [if_neg]
    intro z
    rw [this, z] at hk
    exact absurd hk (by decide)
  have haS2 : aS 4294967295 = b := by rw [haS]; dsimp only; rw [if_pos rfl]
  -- the classes
  have hcls : ∀ ci : Nat, ∃ q : ClassId × (Nat → Nat), ∀ (C : String) (T : u_T) (N : Nat), vwCl[ci]? = some (C, T, N) → u_Kn s C T N q.1 q.2 := by
    intro ci
    cases hci : vwCl[ci]? with
    | none => exact ⟨(0, fun _ => 0), fun _ _ _ h => by cases h⟩
    | some q =>
      obtain ⟨C, T, N⟩ := q
      obtain ⟨g1, -, -, g4, -⟩ := kt_cls ci C T N hci
      obtain ⟨cC, iS, hk⟩ := u_known hT g1 (hT _ g4)
      exact ⟨(cC, iS), fun C' T' N' h => by cases h; exact hk⟩
  obtain ⟨dd, hdd⟩ := Classical.axiomOfChoice hcls
  obtain ⟨c0, k0, p0, i1, i2, i3⟩ := Cond.arrayClass_spec (type := .int) (hT _ kt_ai)
  obtain ⟨c1, k1, p1, j1, j2, j3⟩ := Cond.arrayClass_spec (type := .long) (hT _ kt_al)
  obtain ⟨c2, k2, p2, b1, b2, b3⟩ := Cond.arrayClass_spec (type := .byte) (hT _ kt_ab)
  obtain ⟨p3, c3, k3, s0, -, s2, s3, s4⟩ := Cond.arrayOver_spec (n := "java/lang/String") (hts _ lq_ao)
  have hK : va_K (fun c => (dd c).1, fun c => (dd c).2) vwCl (px_tys (fun t => match t with | 0 => c0 | 1 => c1 | 2 => c2 | _ => c3)) s := by
    refine ⟨fun c q hq => hdd c q.1 q.2.1 q.2.2 hq, fun k q hk => ?_⟩
    match k, hk with
    | 0, hk => cases hk; exact ⟨fun N z => ⟨(fun k h => by cases h), k0, i2, p0, i3⟩, i1⟩
    | 1, hk => cases hk; exact ⟨fun N z => ⟨(fun k h => by cases h), k1, j2, p1, j3⟩, j1⟩
    | 2, hk => cases hk; exact ⟨fun N z => ⟨(fun k h => by cases h), k2, b2, p2, b3⟩, b1⟩
    | 3, hk => cases hk; exact ⟨fun N z => ⟨(fun k h => by cases h), k3, s2, p3, s3⟩, k3, p3, s2, s3, s0, s4⟩
    | n + 4, hk => cases hk
  have hst : px_St kt_X aS (fun k => (f k).2) A s s.heap := by
    refine ⟨fun k hk => ?_, fun k o i tx hk => ?_, va_AO.of (hts _ lq_ao), vx_Zqof (hts _ lq_lu) (hts _ lq_it) (nr_us hnr) hA, vx_Zqof (hts _ lq_ln) (hts _ lq_it) (nr_ss hnr) hA, fun q hq => va_Nw.of rfl (hts _ (lq_nest q hq)), va_Nc.of (nr_nc hnr), va_Nw.of rfl (hts _ lq_c0), va_Nw.of rfl (hts _ lq_c1), ?_, va_Zof (hts _ lq_lc) (hT _ ks_S_n) (va_eqt (nr_cs hnr)) hA, va_Zqof (hts _ lq_lf) (hT _ ks_P_n) (nr_sf hnr) hA⟩
    · obtain ⟨-, g⟩ := hf k hk
      rw [haS1 k hk]
      exact g
    · have hk' : k < kt_X.1.length := (List.getElem?_eq_some_iff.mp hk).1
      rw [haS1 k hk']
      exact (hf k hk').1 o i tx hk
    · exact List.forall_mem_cons.mpr ⟨va_Nw.of rfl (hts _ lq_d0), List.forall_mem_cons.mpr ⟨va_Nw.of rfl (hts _ lq_d1), List.forall_mem_cons.mpr ⟨va_Nw.of rfl (hts _ lq_d2), fun _ h => nomatch h⟩⟩⟩
  have F : px_Fx p s m #[Value.ref b] meth c M_L_law.2.1 M_L_law.2.2.1 M_L_law.1.cls (decide (M_L_law.1.name = "<init>")) kt_T (fun c => (dd c).1, fun c => (dd c).2) vwCl kt_ft (fun t => match t with | 0 => c0 | 1 => c1 | 2 => c2 | _ => c3) aS (fun k => (f k).2) A kt_X :=
    ⟨hx, hb, hml, hown, hT, hK, hA2, fun z => absurd z (by decide), kt_cls, hst⟩
  have FS : px_Sc s aS A (some (L, xs)) := ⟨by rw [haS2]; exact hX, by rw [haS2]; exact hbl, by rw [haS2]; exact hA b hbl⟩
  have w1 := px_sound hl kt_good kt_cls kt_hft (px_hstr kt_asc) kt_ok n 100 M_L_law (some (L, xs)) 0 [(0, .float 4294967295)] [] [] 0 0 _ h' C S okb_L_law hrn px_okS_nil (fun q hq => by rw [List.mem_singleton.mp hq]; exact px_ok_float _ _) (fun _ h => nomatch h)
    p e room_1 s m #[Value.ref b] below meth c (fun c => (dd c).1, fun c => (dd c).2) (fun t => match t with | 0 => c0 | 1 => c1 | 2 => c2 | _ => c3) aS (fun k => (f k).2) A (fun _ => 0) (fun _ => 0) 0 F FS htab hr hlocks (by decide) (by decide) hC hS (fun _ _ => rfl) (Nat.le_refl _)
  have hent := lv_entry ([.ref b]) (n := 7) (Nat.le_of_ble_eq_true rfl)
  have hloc : px_trL (fun _ => 0) aS [(0, .float 4294967295)] = lv_args 0 [.ref b] := by
    show [(0, Value.ref (aS (4294967295 : UInt32).toNat))] = [(0, Value.ref b)]
    have : (4294967295 : UInt32).toNat = 4294967295 := by decide
    rw [this, haS2]
  rw [lg_entry_eq]
  have w2 := w1 s.heap _ [] (fun k q hk => by cases hk) ⟨fun i j x y hi => (by cases hi), fun k q hk => (by cases hk)⟩ va_S.rf (by rw [hloc]; exact hent)
  intro T hT9 Y
  obtain ⟨t, a1, o, b1, b2, b3⟩ := w2 T hT9 Y
  refine ⟨t, a1, o, b1, b2, ?_⟩
  rcases b3 with ⟨⟨v, ad', hv, -, ho, -⟩, L9, ⟨f1, f2, f3⟩, hfree⟩ | ⟨q, -, E, ce, L9, ⟨k, ad', hv, -⟩, -⟩
  · cases hv
    refine ⟨ho, f1, f2, f3.weaken (fun y hy hlt => ?_) hC hS⟩
    exact absurd (hfree y hy) (hA _ hlt)
  · cases hv
