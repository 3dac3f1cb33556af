/-! ===== THE PURE MACHINE IS SOUND: what it answers, the machine answers ===== -/
def px_rm (d C S : Nat) : Room := { frames := d, cells := C, slots := S, locals := 64 * d }
def px_word (M : px_Mt) : Cond := match M.2.2.2.2.1 with
  | [] => .code M.1 M.2.1 M.2.2.1 M.2.2.2.1
  | hh => .codeWith M.1 M.2.1 M.2.2.1 M.2.2.2.1 hh
def px_okRt (i : Instr) (len : Nat) : Bool := match i with
  | .return_ | .ireturn | .lreturn => Nat.beq len 1
  | _ => true
def px_okT (Ts : List Cond) (X : px_X) (own : String) (cc : ByteArray) (i : Instr) (len a pc : Nat) : Prop := match i with
  | .new ik => 900 ≤ a → ∃ (js ic k ix w : Nat) (tx : String) (names : List String) (rx : ByteArray), len = 3 ∧ a ≤ 901 ∧ Bundle.fit (px_exn (a - 900)) = true ∧ (∀ n ∈ names, Bundle.fit n = true) ∧ names.length ≤ 4 ∧ (decode rx 0 = .ok (.aload_n 0, 1) ∧ decode rx 1 = .ok (.aload_n 1, 1) ∧ decode rx 2 = .ok (.invokespecial ix, 3) ∧ decode rx 5 = .ok (.return_, 1)) ∧
      Cond.classLink own ik (px_exn (a - 900)) ∈ Ts ∧ Cond.initialized (px_exn (a - 900)) ∈ Ts ∧ X.1[k]? = some (own, js, tx) ∧
      (∀ w ∈ (px_atX own ic (px_exn (a - 900)) ix rx names).filter goodWord, w ∈ Ts) ∧ (∀ w ∈ (px_atX own ic (px_exn (a - 900)) ix rx names).filter (fun w => !goodWord w), w ∈ Cond.castable (px_exn (a - 900)) (px_exn (a - 900)) :: px_sup.map (fun n => Cond.declares (Bundle.initS n))) ∧
      (∀ w ∈ Cond.classLink own ik (px_exn (a - 900)) :: Cond.initialized (px_exn (a - 900)) :: px_atX own ic (px_exn (a - 900)) ix rx names, vx_ot w = true) ∧ decode cc (pc + 3) = .ok (.dup, 1) ∧
      ((decode cc (pc + 4) = .ok (.ldc js, 2) ∧ w = 2) ∨ (decode cc (pc + 4) = .ok (.ldc_w js, 3) ∧ w = 3)) ∧ decode cc (pc + 4 + w) = .ok (.invokespecial ic, 3) ∧ decode cc (pc + 4 + w + 3) = .ok (.athrow, 1)
  | _ => True
def px_okI (mt : Nat → Option px_Mt) (Ts : List Cond) (cl : List vw_C) (X : px_X) (own : String) (i : Instr) (len a b k : Nat) : Prop := ∀ M, mt a = some M → match i with
  | .invokevirtual idx => len = 3 ∧ M.2.2.2.2.1 = [] ∧ Cond.methodLink own idx M.1 ∈ Ts ∧ Cond.instanceMethod M.1 ∈ Ts ∧ Cond.selects M.1.cls M.1 M.1 ∈ Ts ∧ (∃ T N, cl[k]? = some (M.1.cls, T, N)) ∧ (parseMethodDescriptor M.1.desc).map (fun d => d.parameters.length) = some b
  | .invokespecial idx => len = 3 ∧ M.2.2.2.2.1 = [] ∧ M.1.name = "<init>" ∧ M.2.2.2.1 = none ∧ Cond.instanceMethod M.1 ∈ Ts ∧ (parseMethodDescriptor M.1.desc).map (fun d => d.parameters.length) = some b ∧ (Cond.methodLink own idx M.1 ∈ Ts ∨ ∃ host, (own, idx, M.1, host) ∈ X.2.2.2)
  | .invokestatic idx => len = 3 ∧ Cond.methodLink own idx M.1 ∈ Ts ∧ Cond.static M.1 ∈ Ts ∧ (parseMethodDescriptor M.1.desc).map (fun d => d.parameters.length) = some b
  | _ => True
def px_okEn (mt : Nat → Option px_Mt) (Ts : List Cond) (cl : List vw_C) (X : px_X) (M : px_Mt) (pc : Nat) (en : px_En) : Prop :=
  decode M.2.1 pc = .ok (en.1, en.2.1) ∧ px_okL en.1 en.2.1 en.2.2.1 pc = true ∧ px_okM Ts cl X.1 M.1.cls (decide (M.1.name = "<init>")) en.1 en.2.1 en.2.2.1 en.2.2.2.1 en.2.2.2.2.2 ∧ px_okP Ts M.1.cls en.1 en.2.1 en.2.2.1 ∧
  px_okT Ts X M.1.cls M.2.1 en.1 en.2.1 en.2.2.1 pc ∧ px_okN Ts cl M.1.cls en.1 en.2.1 en.2.2.1 en.2.2.2.1 ∧ px_okI mt Ts cl X M.1.cls en.1 en.2.1 en.2.2.1 en.2.2.2.1 en.2.2.2.2.1 ∧ (∀ k, px_okV k en.2.2.2.2.2) ∧
  px_okRt en.1 en.2.1 = true ∧ (∀ j n, px_aj en = some (j, n) → en.2.1 = n)
def px_okHd (Ts : List Cond) (own : String) : List (Nat × Nat × Nat × Nat) → List Nat → Prop
  | [], [] => True
  | q :: hs, kd :: ks => q.2.2.2 ≠ 0 ∧ kd ≤ 1 ∧ Cond.classLink own q.2.2.2 (px_exn kd) ∈ Ts ∧ px_okHd Ts own hs ks
  | _, _ => False
def px_okB (mt : Nat → Option px_Mt) (Ts : List Cond) (cl : List vw_C) (X : px_X) (M : px_Mt) : Prop := px_okHd Ts M.1.cls M.2.2.2.2.1 M.2.2.2.2.2.1 ∧ ∀ pc en, M.2.2.2.2.2.2 pc = some en → px_okEn mt Ts cl X M pc en
def px_okMt (mt : Nat → Option px_Mt) (Ts : List Cond) (cl : List vw_C) (X : px_X) (M : px_Mt) : Prop :=
  plainName M.1.cls = true ∧ (M.1.cls ≠ "java/lang/invoke/MethodHandle" ∧ M.1.cls ≠ "java/lang/invoke/VarHandle") ∧ M.2.2.1 ≤ 40 ∧ Cond.initialized M.1.cls ∈ Ts ∧ px_word M ∈ Ts ∧ px_okHd Ts M.1.cls M.2.2.2.2.1 M.2.2.2.2.2.1 ∧ ∀ pc en, M.2.2.2.2.2.2 pc = some en → px_okEn mt Ts cl X M pc en
theorem px_okMt.b {mt : Nat → Option px_Mt} {Ts : List Cond} {cl : List vw_C} {X : px_X} {M : px_Mt} (h : px_okMt mt Ts cl X M) : px_okB mt Ts cl X M := h.2.2.2.2.2
theorem px_args_tr (ad aS : Nat → Nat) : ∀ (as : List Value) (i : Nat), lv_args i (as.map (px_tr ad aS)) = px_trL ad aS (lv_args i as)
  | [], _ => rfl
  | v :: as, i => by
    show (i, px_tr ad aS v) :: lv_args (if (px_tr ad aS v).category = 2 then i + 2 else i + 1) (as.map (px_tr ad aS)) = (i, px_tr ad aS v) :: px_trL ad aS (lv_args (if v.category = 2 then i + 2 else i + 1) as)
    rw [px_cat, px_args_tr ad aS as]
theorem px_sl_len (as : List Value) : (lg_sl as).length = px_sum as := by
  induction as with
  | nil => rfl
  | cons v as ih =>
    have h1 : lg_sl (v :: as) = (if v.category = 2 then [.val v, .second] else [.val v]) ++ lg_sl as := by simp [lg_sl]
    have h2 : px_sum (v :: as) = v.category + px_sum as := by simp [px_sum]
    rw [h1, h2, List.length_append, ih]
    rcases lv_cat v with h | h <;> rw [h] <;> rfl
section PXS
variable {mt : Nat → Option px_Mt} {ft : Nat → Nat → FieldType} {X : px_X} {l : Launch} {Ts : List Cond} {cl : List vw_C}
/-- the statement for runs of n steps -/
def px_Snd (mt : Nat → Option px_Mt) (ft : Nat → Nat → FieldType) (X : px_X) (l : Launch) (Ts : List Cond) (cl : List vw_C) (n : Nat) : Prop :=
  ∀ (d : Nat) (M : px_Mt) (scr : Option (Nat × (Nat → Int32))) (pc : Nat) (L : px_Ls) (st : List Value) (h : px_H) (cn sn : Nat) (r : px_Res) (h' : px_H) (C S : Nat), px_okB mt Ts cl X M → px_run mt ft X n d M scr pc L st h cn sn = some (r, h', C, S) → px_okS h.length st → px_okLs h.length L → px_okH h.length h →
  ∀ (p : Program) (e : Env) (R : Room) (s : State) (m : MethodId) (args : Array Value) (below : List Frame) (meth : Method) (c : Code) (D : va_G) (dA : Nat → ClassId) (aS aV : Nat → Nat) (A : Nat → Prop) (ad ad0 : Nat → Nat) (n0 : Nat),
    px_Fx p s m args meth c M.2.1 M.2.2.1 M.1.cls (decide (M.1.name = "<init>")) Ts D cl ft dA aS aV A X → px_Sc s aS A scr → c.exceptionTable.toList = tableOf M.2.2.2.2.1 → meth.sig.returnType = M.2.2.2.1 → meth.locks = false → d ≤ R.frames → 64 * d ≤ R.locals → C ≤ R.cells → S ≤ R.slots → px_agree n0 ad0 ad → n0 ≤ h.length →
    px_W p l e R s m args below meth c D cl dA aS A M.2.2.1 (vx_MQ below (px_Qc D cl dA ad0 aS n0 A r h') (px_XC D cl dA ad0 aS n0 A r h') args s C S A) ad pc L st h cn sn
set_option maxHeartbeats 4000000 in
/-- a run gives its method's contract -/
theorem px_ct {n : Nat} (hcl : px_Cls Ts cl ft) (ih : px_Snd mt ft X l Ts cl n) {d : Nat} {M : px_Mt} {as : List Value} {h h' : px_H} {r : px_Res} {C S : Nat} (hM : px_okMt mt Ts cl X M) (hr : px_run mt ft X n d M none 0 (lv_args 0 as) [] h 0 0 = some (r, h', C, S)) (oS : px_okS h.length as) (oH : px_okH h.length h) (hsum : px_sum as ≤ M.2.2.1) :
    px_Ct l X cl M.1 (px_word M :: Ts) (px_rm d C S) as h r h' C S := by
  intro D dA ad aS aV sz
  have hM' := hM
  obtain ⟨hy, -, -, -, hword, -, -⟩ := hM
  have body : ∀ (p : Program) (e : Env) (s : State) (m : MethodId) (args : Array Value) (below : List Frame) (meth : Method) (c : Code) (s₁ : State), BodyLoose p l M.1 (headSpec (px_word M :: Ts) (px_rm d C S)) M.2.1 M.2.2.1 M.2.2.2.1 e s m args below meth c s₁ → c.maxLocals = M.2.2.1 → c.exceptionTable.toList = tableOf M.2.2.2.2.1 → va_Pc (as.map (px_tr ad aS)) (px_Pre X D cl dA ad aS aV h sz) args s →
      W p l e (headSpec (px_word M :: Ts) (px_rm d C S)).room s m args below meth c s.heap [] 0 0 (vx_MQ below (px_Qc D cl dA ad aS h.length (va_A (px_ws dA ad aS h) sz) r h') (px_XC D cl dA ad aS h.length (va_A (px_ws dA ad aS h) sz) r h') args s C S (va_A (px_ws dA ad aS h) sz)) (entryFrame m args M.2.2.1) := by
    intro p e s m args below meth c s₁ B hml htab hv
    obtain ⟨rfl, hsz, hP, hK, hD0, hSt⟩ := hv
    have hts := atoms_spec (ws := px_word M :: Ts) B.pre
    have F : px_Fx p s m (as.map (px_tr ad aS)).toArray meth c M.2.1 M.2.2.1 M.1.cls (decide (M.1.name = "<init>")) Ts D cl ft dA aS aV (va_A (px_ws dA ad aS h) sz) X :=
      ⟨B.exec, B.bytes, hml, findClass_of_methodNamed B.named, fun w hw => hts w (List.mem_cons_of_mem _ hw), hK, fun q hq => Or.inr (by rw [← hsz]; exact hq), fun hi => by rw [(name_of_methodNamed B.named B.method).1]; exact of_decide_eq_true hi, hcl, hSt⟩
    have w1 := ih d M none 0 (lv_args 0 as) [] h 0 0 r h' C S hM'.b hr px_okS_nil (px_args_ok as 0 oS) oH p e (px_rm d C S) s m (as.map (px_tr ad aS)).toArray below meth c D dA aS aV (va_A (px_ws dA ad aS h) sz) ad ad h.length F trivial htab B.returns B.notSynchronized (Nat.le_refl _) (Nat.le_refl _) (Nat.le_refl _) (Nat.le_refl _) (fun _ _ => rfl) (Nat.le_refl _)
    have hl := lv_entry (as.map (px_tr ad aS)) (n := M.2.2.1) (by rw [px_sl_len]; unfold px_sum; rw [px_sum_tr]; exact hsum)
    rw [lg_entry_eq]
    rw [px_args_tr] at hl
    exact w1 s.heap _ [] hP (hD0.self) va_S.rf hl
  cases hh : M.2.2.2.2.1 with
  | nil =>
    have hw : px_word M = .code M.1 M.2.1 M.2.2.1 M.2.2.2.1 := by unfold px_word; rw [hh]
    refine vx_ofW (cc := M.2.1) (maxL := M.2.2.1) (ret := M.2.2.2.1) hy (by rw [hw]) (fun p e s m args below meth c s₁ B hml hx hv => ?_)
    refine body p e s m args below meth c s₁ B hml ?_ hv
    rw [hh]
    cases ht : c.exceptionTable.toList with
    | nil => rfl
    | cons z zs => exact (hx z (by rw [ht]; exact List.mem_cons_self)).elim
  | cons q qs =>
    have hw : px_word M = .codeWith M.1 M.2.1 M.2.2.1 M.2.2.2.1 (q :: qs) := by unfold px_word; rw [hh]
    refine vx_ofWH (cc := M.2.1) (maxL := M.2.2.1) (ret := M.2.2.2.1) (hh := q :: qs) hy (by rw [hw]) (fun p e s m args below meth c s₁ B hml hv => ?_)
    refine body p e s m args below meth c s₁ B hml ?_ hv
    rw [hh]
    exact vx_table (x := M.1) B (atoms_spec (ws := px_word M :: Ts) B.pre (Cond.codeWith M.1 M.2.1 M.2.2.1 M.2.2.2.1 (q :: qs)) (by rw [← hw]; exact List.mem_cons_self))
end PXS
