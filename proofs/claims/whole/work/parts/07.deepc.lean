/-! ===== contracts over pure heaps, calls, ends ===== -/
abbrev px_Res : Type := Option Value ⊕ Nat
def px_Pre (X : px_X) (D : va_G) (cl : List vw_C) (dA : Nat → ClassId) (ad aS aV : Nat → Nat) (h : px_H) (sz : Nat) (U : State) : Prop :=
  U.heap.size = sz ∧ va_P D cl (px_ws dA ad aS h) U.heap ∧ va_K D cl (px_tys dA) U ∧ va_D (fun _ => True) (px_ws dA ad aS h) ∧ px_St X aS aV (va_A (px_ws dA ad aS h) sz) U U.heap
def px_Post (D : va_G) (cl : List vw_C) (dA : Nat → ClassId) (aS : Nat → Nat) (A : Nat → Prop) (ad' : Nat → Nat) (h' : px_H) (st t : State) : Prop :=
  va_P D cl (px_ws dA ad' aS h') t.heap ∧ va_D A (px_ws dA ad' aS h') ∧ va_F A st t
def px_Qc (D : va_G) (cl : List vw_C) (dA : Nat → ClassId) (ad aS : Nat → Nat) (n0 : Nat) (A : Nat → Prop) (r : px_Res) (h' : px_H) : Array Value → State → Outcome → State → Prop := fun _ st oc t =>
  ∃ (v : Option Value) (ad' : Nat → Nat), r = .inl v ∧ px_agree n0 ad ad' ∧ oc = .returned (v.map (px_tr ad' aS)) ∧ px_Post D cl dA aS A ad' h' st t
def px_XC (D : va_G) (cl : List vw_C) (dA : Nat → ClassId) (ad aS : Nat → Nat) (n0 : Nat) (A : Nat → Prop) (r : px_Res) (h' : px_H) : String → State → State → Prop := fun E st t =>
  ∃ (k : Nat) (ad' : Nat → Nat), r = .inr k ∧ E = px_exn k ∧ px_agree n0 ad ad' ∧ px_Post D cl dA aS A ad' h' st t
/-- the contract of one run: from the pure heap h with the pure arguments as, the method ends with r in the pure heap h' -/
def px_Ct (l : Launch) (X : px_X) (cl : List vw_C) (y : MethodName) (ws : List Cond) (rm : Room) (as : List Value) (h : px_H) (r : px_Res) (h' : px_H) (mc ms : Nat) : Prop :=
  ∀ (D : va_G) (dA : Nat → ClassId) (ad aS aV : Nat → Nat) (sz : Nat), vx_Met l y ws rm (va_Pc (as.map (px_tr ad aS)) (px_Pre X D cl dA ad aS aV h sz))
    (px_Qc D cl dA ad aS h.length (va_A (px_ws dA ad aS h) sz) r h') (px_XC D cl dA ad aS h.length (va_A (px_ws dA ad aS h) sz) r h') mc ms (va_A (px_ws dA ad aS h) sz)
theorem px_blind (X : px_X) (D : va_G) (cl : List vw_C) (dA : Nat → ClassId) (ad aS aV : Nat → Nat) (h : px_H) (sz : Nat) (av : List Value) : FrameBlind (va_Pc av (px_Pre X D cl dA ad aS aV h sz)) := by
  intro a U g mk q
  obtain ⟨q0, q1, qP, qK, qD, qS⟩ := q
  exact ⟨q0, q1, qP, va_K.moved (u := U) (U := U.calling g mk a) (Vm.Alike.refl U.vm) qK, qD, px_St.same (U := U.calling g mk a) rfl qS⟩
/-- a run that returns needs no row for throws -/
theorem px_met {l : Launch} {y : MethodName} {ws : List Cond} {rm : Room} {Pc : Array Value → State → Prop} {Qc : Array Value → State → Outcome → State → Prop} {XC : String → State → State → Prop} {mc ms : Nat} {free : Addr → Prop} (hM : vx_Met l y ws rm Pc Qc XC mc ms free) (hX : ∀ E st t, ¬ XC E st t) : Met l y ws rm Pc Qc mc ms free := by
  refine MetFree.mono hM (fun _ _ z => z) (fun _ _ _ _ _ z => z) (fun a st o t _ hq => ?_)
  rcases hq with hq | ⟨q, -, E, ce, L, hx, -⟩
  · exact hq
  · exact absurd hx (hX E st t)
theorem px_sum_map (f : Value → Value) (hf : ∀ v, (f v).category = v.category) (r : List Value) : ((r.map f).map fun v => v.category).sum = (r.map fun v => v.category).sum := by
  rw [List.map_map]
  congr 1
  apply List.map_congr_left
  intro v _
  exact hf v
section PXC
variable {p : Program} {l : Launch} {e : Env} {R : Room} {s : State} {m : MethodId} {args : Array Value} {below : List Frame} {meth : Method} {c : Code} {D : va_G} {cl : List vw_C} {dA : Nat → ClassId} {aS aV : Nat → Nat} {A : Nat → Prop} {nL : Nat} {Q : State → Prop} {ad : Nat → Nat} {h h' : px_H} {cn sn : Nat} {cc : ByteArray} {own : String} {ini : Bool} {Ts : List Cond} {ft : Nat → Nat → FieldType} {X : px_X} {scr : Option (Nat × (Nat → Int32))} {H : Heap} {locs : List Loc} {ls : Array Slot} {mc ms pc : Nat}
theorem px_freeA (hD : va_D A (px_ws dA ad aS h)) (hS : va_S A s.heap H locs) (hA : ∀ q, s.heap.size ≤ q → A q) : ∀ q, va_A (px_ws dA ad aS h) H.size q → A q := by
  rintro q (⟨k, e0, hk⟩ | hq)
  · exact hD.2 k _ hk
  · exact hA q (Nat.le_trans hS.1 hq)
theorem px_pre (F : px_Fx p s m args meth c cc nL own ini Ts D cl ft dA aS aV A X) (hP : va_P D cl (px_ws dA ad aS h) H) (hD : va_D A (px_ws dA ad aS h)) (hS : va_S A s.heap H locs) (av : List Value) : ∀ U : State, U.heap = H → s.WarmedH U.vm → va_Pc av (px_Pre X D cl dA ad aS aV h H.size) av.toArray U := by
  obtain ⟨-, -, -, -, -, hK, hA, -, -, hst⟩ := F
  intro U hU hW
  refine ⟨rfl, by rw [hU], by rw [hU]; exact hP, va_K.moved hW.alike hK, hD.weaken (fun _ _ _ _ => trivial), ?_⟩
  rw [hU]
  exact ((hst.kept hS.2.1).narrow (px_freeA hD hS hA)).warm hW
/-- behind a call that returned -/
theorem px_back {L : px_Ls} {rest st0 : List Value} {v : Option Value} {a : Array Value} (hA : ∀ q, s.heap.size ≤ q → A q) (oS : px_okS h.length rest) (oL : px_okLs h.length L)
    (hr : vx_Run p l e R s m args below meth c H locs cn sn mc ms (F0 m pc ls st0) (rest.map (px_tr ad aS)) (px_Qc D cl dA ad aS h.length (va_A (px_ws dA ad aS h) H.size) (.inl v) h' a) (px_XC D cl dA ad aS h.length (va_A (px_ws dA ad aS h) H.size) (.inl v) h') (va_A (px_ws dA ad aS h) H.size))
    (hD : va_D A (px_ws dA ad aS h)) (hS : va_S A s.heap H locs) (hl : lv_has ls nL (px_trL ad aS L))
    (K : ∀ ad', px_agree h.length ad ad' → px_W p l e R s m args below meth c D cl dA aS A nL Q ad' (pc + 3) L (v.toList ++ rest) h' (cn + mc) (sn + ms)) : W p l e R s m args below meth c H locs cn sn Q (F0 m pc ls st0) := by
  intro T hT Y
  rcases hr T hT Y with ⟨v', st₀, t, T', L9, h0, Y', hL, e1, e2, ⟨v1, ad', hr1, hag, ho, hP1, hD1, hF1⟩, st⟩ | ⟨q, st₀, t, T', L9, E, ce, h0, Y', hL, e1, e2, ⟨k, ad', hr1, -⟩, -⟩
  · cases hr1
    cases ho
    obtain ⟨k1, k2, k3⟩ := vx_keep h0 e1 hS (fun q _ z => px_freeA hD hS hA q z) (px_freeA hD hS hA) hL hF1
    have kk := K ad' hag T'.heap ls (locs ++ L9) (by rw [e1]; exact hP1) (hD1.weaken (fun _ q _ z => px_freeA hD hS hA q.1 z)) k3 (by rw [px_L_agree hag oL]; exact hl)
    rw [List.map_append, px_st_agree hag oS] at kk
    obtain ⟨t2, a1, b1⟩ := kk T' rfl Y'
    refine ⟨t2, st t2 ?_, b1⟩
    have e9 : (Option.map (px_tr ad' aS) v).toList = v.toList.map (px_tr ad' aS) := by cases v <;> rfl
    rw [e9]
    exact a1
  · cases hr1
/-- behind a call that threw -/
theorem px_backX {rest st0 : List Value} {k : Nat} {a : Array Value} (hA : ∀ q, s.heap.size ≤ q → A q)
    (hr : vx_Run p l e R s m args below meth c H locs cn sn mc ms (F0 m pc ls st0) (rest.map (px_tr ad aS)) (px_Qc D cl dA ad aS h.length (va_A (px_ws dA ad aS h) H.size) (.inr k) h' a) (px_XC D cl dA ad aS h.length (va_A (px_ws dA ad aS h) H.size) (.inr k) h') (va_A (px_ws dA ad aS h) H.size))
    (hD : va_D A (px_ws dA ad aS h)) (hS : va_S A s.heap H locs)
    (K : ∀ (ad' : Nat → Nat) (q : Addr) (ce : Cell) (H1 : Heap) (locs1 : List Loc), px_agree h.length ad ad' → va_P D cl (px_ws dA ad' aS h') H1 → va_D A (px_ws dA ad' aS h') → va_S A s.heap H1 locs1 → H1[q]? = some ce → ce.vm = .none → s.vm.findClass (px_exn k) = some ce.cls → vx_W p l e R s m args below meth c H1 locs1 (cn + mc) (sn + ms) Q (F0 m pc ls (rest.map (px_tr ad aS))) q) : W p l e R s m args below meth c H locs cn sn Q (F0 m pc ls st0) := by
  intro T hT Y
  rcases hr T hT Y with ⟨v', st₀, t, T', L9, h0, Y', hL, e1, e2, ⟨v1, ad', hr1, -⟩, st⟩ | ⟨q, st₀, t, T', L9, E, ce, h0, Y', hL, e1, e2, ⟨k1, ad', hr1, hE, hag, hP1, hD1, hF1⟩, hce, hcv, hcl, st⟩
  · cases hr1
  · cases hr1
    subst hE
    obtain ⟨g1, g2, g3⟩ := vx_keep h0 e1 hS (fun q _ z => px_freeA hD hS hA q z) (px_freeA hD hS hA) hL hF1
    obtain ⟨t2, a1, b1⟩ := K ad' q ce T'.heap (locs ++ L9) hag (by rw [e1]; exact hP1) (hD1.weaken (fun _ q _ z => px_freeA hD hS hA q.1 z)) g3 (by rw [e1]; exact hce) hcv hcl T' rfl Y'
    exact ⟨t2, st.trans a1, b1⟩
/-- a run without throws, seen as one with -/
theorem px_runof {g : JFrame} {rest : List Value} {Qa : State → Outcome → State → Prop} {XC : String → State → State → Prop} {free : Addr → Prop} (hr : va_Run p l e R s m args below meth c H locs cn sn mc ms g rest Qa free) : vx_Run p l e R s m args below meth c H locs cn sn mc ms g rest Qa XC free :=
  fun T hT Y => Or.inl (hr T hT Y)
theorem px_noX {D : va_G} {cl : List vw_C} {dA : Nat → ClassId} {ad aS : Nat → Nat} {n0 : Nat} {A : Nat → Prop} {v : Option Value} {h' : px_H} : ∀ E st t, ¬ px_XC D cl dA ad aS n0 A (.inl v) h' E st t := by
  rintro E st t ⟨k, ad', hr, -⟩
  cases hr
end PXC
