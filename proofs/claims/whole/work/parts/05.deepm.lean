/-! ===== steps that read or write the heap, constants ===== -/
def px_tys (dA : Nat → ClassId) : List (ClassId × FieldType) := [(dA 0, .int), (dA 1, .long), (dA 2, .byte), (dA 3, .object "java/lang/String")]
def px_fit (ty : FieldType) (v : Value) : Bool := match ty with
  | .int => (match v with | .int _ => true | _ => false)
  | .long => (match v with | .long _ => true | _ => false)
  | .boolean => (match v with | .int x => decide (x = 0) || decide (x = 1) | _ => false)
  | .object _ => (match v with | .ref _ => true | .null => true | .float _ => true | _ => false)
  | .array _ => (match v with | .ref _ => true | .null => true | .float _ => true | _ => false)
  | _ => false
theorem px_fit_ok {ty : FieldType} {v : Value} (ad aS : Nat → Nat) (h : px_fit ty v = true) : narrow ty (px_tr ad aS v) = px_tr ad aS v ∧ fits ty (px_tr ad aS v) = true := by
  cases ty <;> cases v <;> first | (cases h; done) | exact ⟨rfl, rfl⟩ | skip
  rename_i x
  have h1 : (decide (x = 0) || decide (x = 1)) = true := h
  rcases Bool.or_eq_true_iff.mp h1 with h2 | h2
  · have := of_decide_eq_true h2
    subst this
    exact ⟨(by decide : narrow .boolean (.int 0) = .int 0), (by decide : fits .boolean (.int 0) = true)⟩
  · have := of_decide_eq_true h2
    subst this
    exact ⟨(by decide : narrow .boolean (.int 1) = .int 1), (by decide : fits .boolean (.int 1) = true)⟩
/-- the constant texts: their cells, what they hold, out of the world -/
def px_S (NS : Nat) (len : List Nat) (byt : List (List Int32)) (aS aV : Nat → Nat) (A : Nat → Prop) (U : State) (H : Heap) : Prop :=
  ∀ i : Nat, i < NS → va_O "java/lang/String" (aS i) A U H ∧ va_OF "java/lang/String" "coder" "B" (.int 0) (aS i) A U H ∧ va_OF "java/lang/String" "value" "[B" (.ref (aV i)) (aS i) A U H ∧ va_T .byte (aV i) (len.getD i 0) (fun j => .int ((byt.getD i []).getD j 0)) A U H
theorem px_S.moved {N : Nat} {len : List Nat} {byt : List (List Int32)} {adK adV : Nat → Nat} {A : Nat → Prop} {u U : State} {H : Heap} (hvm : u.vm.Alike U.vm) (h : px_S N len byt adK adV A u H) : px_S N len byt adK adV A U H :=
  fun i hi => ⟨va_O.moved hvm (h i hi).1, va_OF.moved hvm (h i hi).2.1, va_OF.moved hvm (h i hi).2.2.1, va_T.moved hvm (h i hi).2.2.2⟩
theorem px_S.kept {N : Nat} {len : List Nat} {byt : List (List Int32)} {adK adV : Nat → Nat} {A : Nat → Prop} {U : State} {H H1 : Heap} (h : px_S N len byt adK adV A U H) (hq : ∀ a : Nat, a < H.size → ¬ A a → H1[a]? = H[a]?) : px_S N len byt adK adV A U H1 :=
  fun i hi => ⟨(h i hi).1.kept hq, (h i hi).2.1.kept hq, (h i hi).2.2.1.kept hq, (h i hi).2.2.2.kept hq⟩
theorem px_S.narrow {N : Nat} {len : List Nat} {byt : List (List Int32)} {adK adV : Nat → Nat} {A B : Nat → Prop} {U : State} {H : Heap} (h : px_S N len byt adK adV A U H) (hAB : ∀ q, B q → A q) : px_S N len byt adK adV B U H :=
  fun i hi => ⟨(h i hi).1.narrow hAB, (h i hi).2.1.narrow hAB, (h i hi).2.2.1.narrow hAB, (h i hi).2.2.2.narrow hAB⟩
theorem px_S.recv {N : Nat} {len : List Nat} {byt : List (List Int32)} {adK adV : Nat → Nat} {A : Nat → Prop} {s : State} {H : Heap} {locs : List Loc} {i : Nat} (hE : px_S N len byt adK adV A s s.heap) (hi : i < N) (hS : va_S A s.heap H locs) : ∃ cell : Cell, H[adK i]? = some cell ∧ cell.vm.isStatics = false ∧ s.vm.findClass "java/lang/String" = some cell.cls := by
  obtain ⟨cell, h1, h2, h3, -⟩ := (hE i hi).1.kept hS.2.1
  exact ⟨cell, h1, h2, h3⟩
/-- the facts of the classes that the worlds hold -/
def px_Cls (Ts : List Cond) (cl : List vw_C) (ft : Nat → Nat → FieldType) : Prop := ∀ (ci : Nat) (C : String) (T : u_T) (N : Nat), cl[ci]? = some (C, T, N) →
  (∀ w ∈ u_ws C T N, w ∈ Ts) ∧ (∀ k, k < N → parseFieldDescriptor (T k).2.2.1 = some (ft ci k)) ∧ (∀ a, a < N → ∀ b, b < N → a ≠ b → (T a).2.1 ≠ (T b).2.1) ∧ Cond.instantiable C N ∈ Ts ∧ Cond.initialized C ∈ Ts
/-- the tables that speak of things outside the worlds: places of constant texts, their lengths, their bytes; links to private constructors of nest mates -/
abbrev px_X : Type := List (String × Nat × String) × List Nat × List (List Int32) × List (String × Nat × MethodName × String)
/-- the classes above the two exceptions -/
def px_sup : List String := ["java/lang/RuntimeException", "java/lang/Exception", "java/lang/Throwable"]
/-- the two exceptions, by their numbers -/
def px_exn : Nat → String
  | 0 => "java/lang/IllegalArgumentException"
  | _ => "java/util/NoSuchElementException"
/-- what is said of things outside the worlds: the constant texts, the class of their arrays, the two statics that a throw reads, the nest, that an exception of the first kind isn't one of the second -/
def px_St (X : px_X) (aS aV : Nat → Nat) (A : Nat → Prop) (U : State) (H : Heap) : Prop :=
  px_S X.1.length X.2.1 X.2.2.1 aS aV A U H ∧ (∀ (k : Nat) (o : String) (i : Nat) (tx : String), X.1[k]? = some (o, i, tx) → vk_R o i tx (aS k) U) ∧ va_AO "java/lang/String" U ∧ vx_Zq Bundle.tN "UNASSIGNED_STACK" Bundle.steD A U H ∧ vx_Zq Bundle.tN "SUPPRESSED_SENTINEL" Bundle.listD A U H ∧
  (∀ q ∈ X.2.2.2, va_Nw (.methodLinkNest q.1 q.2.1 q.2.2.1 q.2.2.2) U) ∧ va_Nc (px_exn 0) (px_exn 1) U ∧ va_Nw (.castable (px_exn 0) (px_exn 0)) U ∧ va_Nw (.castable (px_exn 1) (px_exn 1)) U ∧ (∀ n ∈ px_sup, va_Nw (.declares (Bundle.initS n)) U) ∧ va_Z "java/lang/String" "COMPACT_STRINGS" "Z" (.int 1) A U H ∧ va_Zq "jdk/internal/util/Preconditions" "SIOOBE_FORMATTER" "Ljava/util/function/BiFunction;" A U H
theorem px_St.warm {X : px_X} {aS aV : Nat → Nat} {A : Nat → Prop} {s U : State} {H : Heap} (hW : s.WarmedH U.vm) (h : px_St X aS aV A s H) : px_St X aS aV A U H :=
  ⟨h.1.moved hW.alike, fun k o i tx hk => (h.2.1 k o i tx hk).warm hW, va_AO.moved hW.alike h.2.2.1, vx_Zq.moved hW.alike h.2.2.2.1, vx_Zq.moved hW.alike h.2.2.2.2.1, fun q hq => va_Nw.warmM hW (h.2.2.2.2.2.1 q hq), va_Nc.moved hW.alike h.2.2.2.2.2.2.1, va_Nw.warmC hW h.2.2.2.2.2.2.2.1, va_Nw.warmC hW h.2.2.2.2.2.2.2.2.1, fun n hn => va_Nw.warmD hW (h.2.2.2.2.2.2.2.2.2.1 n hn), va_Z.moved hW.alike h.2.2.2.2.2.2.2.2.2.2.1, va_Zq.moved hW.alike h.2.2.2.2.2.2.2.2.2.2.2⟩
theorem px_St.same {X : px_X} {aS aV : Nat → Nat} {A : Nat → Prop} {s U : State} {H : Heap} (hv : U.vm = s.vm) (h : px_St X aS aV A s H) : px_St X aS aV A U H :=
  have ha : s.vm.Alike U.vm := by rw [hv]; exact Vm.Alike.refl _
  ⟨h.1.moved ha, fun k o i tx hk => (h.2.1 k o i tx hk).same hv, va_AO.moved ha h.2.2.1, vx_Zq.moved ha h.2.2.2.1, vx_Zq.moved ha h.2.2.2.2.1, fun q hq => va_Nw.same rfl hv.symm (h.2.2.2.2.2.1 q hq), va_Nc.moved ha h.2.2.2.2.2.2.1, va_Nw.same rfl hv.symm h.2.2.2.2.2.2.2.1, va_Nw.same rfl hv.symm h.2.2.2.2.2.2.2.2.1, fun n hn => va_Nw.same rfl hv.symm (h.2.2.2.2.2.2.2.2.2.1 n hn), va_Z.moved ha h.2.2.2.2.2.2.2.2.2.2.1, va_Zq.moved ha h.2.2.2.2.2.2.2.2.2.2.2⟩
theorem px_St.kept {X : px_X} {aS aV : Nat → Nat} {A : Nat → Prop} {s : State} {H H1 : Heap} (h : px_St X aS aV A s H) (hq : ∀ a : Nat, a < H.size → ¬ A a → H1[a]? = H[a]?) : px_St X aS aV A s H1 :=
  ⟨h.1.kept hq, h.2.1, h.2.2.1, vx_Zq.kept h.2.2.2.1 hq, vx_Zq.kept h.2.2.2.2.1 hq, h.2.2.2.2.2.1, h.2.2.2.2.2.2.1, h.2.2.2.2.2.2.2.1, h.2.2.2.2.2.2.2.2.1, h.2.2.2.2.2.2.2.2.2.1, va_Z.kept h.2.2.2.2.2.2.2.2.2.2.1 hq, va_Zq.kept h.2.2.2.2.2.2.2.2.2.2.2 hq⟩
theorem px_St.narrow {X : px_X} {aS aV : Nat → Nat} {A B : Nat → Prop} {s : State} {H : Heap} (h : px_St X aS aV A s H) (hAB : ∀ q, B q → A q) : px_St X aS aV B s H :=
  ⟨h.1.narrow hAB, h.2.1, h.2.2.1, vx_Zq.narrow h.2.2.2.1 hAB, vx_Zq.narrow h.2.2.2.2.1 hAB, h.2.2.2.2.2.1, h.2.2.2.2.2.2.1, h.2.2.2.2.2.2.2.1, h.2.2.2.2.2.2.2.2.1, h.2.2.2.2.2.2.2.2.2.1, va_Z.narrow h.2.2.2.2.2.2.2.2.2.2.1 hAB, va_Zq.narrow h.2.2.2.2.2.2.2.2.2.2.2 hAB⟩
/-- what a frame stands on -/
def px_Fx (p : Program) (s : State) (m : MethodId) (args : Array Value) (meth : Method) (c : Code) (cc : ByteArray) (nL : Nat) (own : String) (ini : Bool) (Ts : List Cond) (D : va_G) (cl : List vw_C) (ft : Nat → Nat → FieldType) (dA : Nat → ClassId) (aS aV : Nat → Nat) (A : Nat → Prop) (X : px_X) : Prop :=
  p.tables.exec = Jvm.exec ∧ c.code = cc ∧ c.maxLocals = nL ∧ s.vm.findClass own = some m.cls ∧ (∀ w ∈ Ts, w.before args s = true) ∧ va_K D cl (px_tys dA) s ∧ (∀ q, s.heap.size ≤ q → A q) ∧ (ini = true → meth.name = "<init>") ∧ px_Cls Ts cl ft ∧ px_St X aS aV A s s.heap
/-- the law's script, where the frame is the law's -/
def px_Sc (s : State) (aS : Nat → Nat) (A : Nat → Prop) (scr : Option (Nat × (Nat → Int32))) : Prop := match scr with
  | none => True
  | some (n, xs) => va_X (aS 4294967295) n xs s s.heap ∧ aS 4294967295 < s.heap.size ∧ ¬ A (aS 4294967295)
abbrev px_RM : Type := Option (Nat × List Value × px_H)
def px_out (i : Int32) (n : Nat) : Bool := decide (i < 0) || Nat.ble n i.toNatClampNeg
theorem px_in_ok {i : Int32} {n : Nat} (h : px_out i n = false) : vp_in i n := by
  unfold px_out at h
  rcases Bool.or_eq_false_iff.mp h with ⟨h1, h2⟩
  rintro (z | z)
  · exact of_decide_eq_false h1 z
  · have := Nat.ble_eq_true_of_le z
    rw [h2] at this
    cases this
def px_get (a b pc : Nat) (st : List Value) (h : px_H) : px_RM := match st with
  | .ref q :: r => (match h[q]? with
    | some (.inr (ci, fs)) => bif Nat.beq ci a then (match fs[b]? with | some v => some (pc + 3, v :: r, h) | none => none) else none
    | _ => none)
  | _ => none
def px_put (a b : Nat) (ty : FieldType) (pc : Nat) (st : List Value) (h : px_H) : px_RM := match st with
  | v :: .ref q :: r => (match h[q]? with
    | some (.inr (ci, fs)) => bif (Nat.beq ci a && (Nat.blt b fs.length && px_fit ty v)) then some (pc + 3, r, h.set q (.inr (ci, fs.set b v))) else none
    | _ => none)
  | _ => none
def px_ald (scr : Option (Nat × (Nat → Int32))) (pc : Nat) (st : List Value) (h : px_H) : px_RM := match st with
  | .int i :: .ref q :: r => (match h[q]? with
    | some (.inl (0, n, .inl f)) => bif px_out i n then none else some (pc + 1, .int (f i.toNatClampNeg) :: r, h)
    | _ => none)
  | .int i :: .float k :: r => (match scr with
    | some (n, xs) => if k = 4294967295 then (bif px_out i n then none else some (pc + 1, .int (xs i.toNatClampNeg) :: r, h)) else none
    | none => none)
  | _ => none
def px_ast (pc : Nat) (st : List Value) (h : px_H) : px_RM := match st with
  | .int x :: .int i :: .ref q :: r => (match h[q]? with
    | some (.inl (0, n, .inl f)) => bif px_out i n then none else some (pc + 1, r, h.set q (.inl (0, n, .inl (upd f i.toNatClampNeg x))))
    | _ => none)
  | _ => none
def px_lld (pc : Nat) (st : List Value) (h : px_H) : px_RM := match st with
  | .int i :: .ref q :: r => (match h[q]? with
    | some (.inl (1, n, .inr (.inl f))) => bif px_out i n then none else some (pc + 1, .long (f i.toNatClampNeg) :: r, h)
    | _ => none)
  | _ => none
def px_lst (pc : Nat) (st : List Value) (h : px_H) : px_RM := match st with
  | .long x :: .int i :: .ref q :: r => (match h[q]? with
    | some (.inl (1, n, .inr (.inl f))) => bif px_out i n then none else some (pc + 1, r, h.set q (.inl (1, n, .inr (.inl (vp_updL f i.toNatClampNeg x)))))
    | _ => none)
  | _ => none
def px_bld (pc : Nat) (st : List Value) (h : px_H) : px_RM := match st with
  | .int i :: .ref q :: r => (match h[q]? with
    | some (.inl (2, n, .inl f)) => bif px_out i n then none else some (pc + 1, .int (f i.toNatClampNeg) :: r, h)
    | _ => none)
  | _ => none
def px_bst (pc : Nat) (st : List Value) (h : px_H) : px_RM := match st with
  | .int x :: .int i :: .ref q :: r => (match h[q]? with
    | some (.inl (2, n, .inl f)) => bif px_out i n then none else some (pc + 1, r, h.set q (.inl (2, n, .inl (upd f i.toNatClampNeg x.toInt8.toInt32))))
    | _ => none)
  | _ => none
def px_rld (pc : Nat) (st : List Value) (h : px_H) : px_RM := match st with
  | .int i :: .ref q :: r => (match h[q]? with
    | some (.inl (3, n, .inr (.inr (.inr (.inr f))))) => bif px_out i n then none else (match f i.toNatClampNeg with
      | some k => if k < 4294967296 then some (pc + 1, .float (UInt32.ofNat k) :: r, h) else none
      | none => some (pc + 1, .null :: r, h))
    | _ => none)
  | _ => none
def px_rst (NS pc : Nat) (st : List Value) (h : px_H) : px_RM := match st with
  | .float k :: .int i :: .ref q :: r => (match h[q]? with
    | some (.inl (3, n, .inr (.inr (.inr (.inr f))))) => bif (px_out i n || Nat.ble NS k.toNat) then none else some (pc + 1, r, h.set q (.inl (3, n, .inr (.inr (.inr (.inr (va_up f i.toNatClampNeg (some k.toNat))))))))
    | _ => none)
  | _ => none
def px_len (scr : Option (Nat × (Nat → Int32))) (pc : Nat) (st : List Value) (h : px_H) : px_RM := match st with
  | .ref q :: r => (match h[q]? with
    | some (.inl (t, n, _)) => bif Nat.blt t 4 then some (pc + 1, .int (Int32.ofNat n) :: r, h) else none
    | _ => none)
  | .float k :: r => (match scr with
    | some (n, _) => if k = 4294967295 then some (pc + 1, .int (Int32.ofNat n) :: r, h) else none
    | none => none)
  | _ => none
def px_M (NS : Nat) (ft : Nat → Nat → FieldType) (scr : Option (Nat × (Nat → Int32))) (i : Instr) (a b : Nat) (kv : Value) (pc : Nat) (st : List Value) (h : px_H) : px_RM := match i with
  | .getfield _ => px_get a b pc st h
  | .putfield _ => px_put a b (ft a b) pc st h
  | .iaload => px_ald scr pc st h
  | .iastore => px_ast pc st h
  | .laload => px_lld pc st h
  | .lastore => px_lst pc st h
  | .baload => px_bld pc st h
  | .bastore => px_bst pc st h
  | .aaload => px_rld pc st h
  | .aastore => px_rst NS pc st h
  | .arraylength => px_len scr pc st h
  | .ldc _ => some (pc + 2, kv :: st, h)
  | .ldc_w _ => some (pc + 3, kv :: st, h)
  | .ldc2_w _ => some (pc + 3, kv :: st, h)
  | _ => none
/-- what the table's row of such a step must be right in -/
def px_okM (Ts : List Cond) (cl : List vw_C) (SL : List (String × Nat × String)) (own : String) (ini : Bool) (i : Instr) (len a b : Nat) (kv : Value) : Prop := match i with
  | .getfield idx => len = 3 ∧ ∃ (C : String) (T : u_T) (N : Nat), cl[a]? = some (C, T, N) ∧ b < N ∧ Cond.fieldLink own idx (T b).1 (T b).2.1 (T b).2.2.1 ∈ Ts
  | .putfield idx => len = 3 ∧ ∃ (C : String) (T : u_T) (N : Nat), cl[a]? = some (C, T, N) ∧ b < N ∧ Cond.fieldLink own idx (T b).1 (T b).2.1 (T b).2.2.1 ∈ Ts ∧ ((T b).2.2.2 = false ∨ ((T b).2.2.2 = true ∧ (T b).1 = own ∧ ini = true))
  | .iaload | .iastore | .laload | .lastore | .baload | .bastore | .aaload | .aastore | .arraylength => len = 1
  | .ldc idx => len = 2 ∧ ((∃ v : Int32, kv = .int v ∧ Cond.constant own idx v ∈ Ts) ∨ ∃ (k : Nat) (tx : String), kv = .float (UInt32.ofNat k) ∧ k < 4294967296 ∧ SL[k]? = some (own, idx, tx))
  | .ldc_w idx => len = 3 ∧ ((∃ v : Int32, kv = .int v ∧ Cond.constant own idx v ∈ Ts) ∨ ∃ (k : Nat) (tx : String), kv = .float (UInt32.ofNat k) ∧ k < 4294967296 ∧ SL[k]? = some (own, idx, tx))
  | .ldc2_w idx => len = 3 ∧ ∃ v : Int64, kv = .long v ∧ Cond.constantLong own idx v ∈ Ts
  | _ => True
section PXM
variable {p : Program} {l : Launch} {e : Env} {R : Room} {s : State} {m : MethodId} {args : Array Value} {below : List Frame} {meth : Method} {c : Code} {D : va_G} {cl : List vw_C} {dA : Nat → ClassId} {aS aV : Nat → Nat} {A : Nat → Prop} {nL : Nat} {Q : State → Prop} {ad : Nat → Nat} {h h' : px_H} {cn sn : Nat} {cc : ByteArray} {own : String} {ini : Bool} {Ts : List Cond} {ft : Nat → Nat → FieldType} {X : px_X} {scr : Option (Nat × (Nat → Int32))}
theorem px_u32 {k : Nat} (h : k < 4294967296) : (UInt32.ofNat k).toNat = k := by
  rw [UInt32.toNat_ofNat']
  exact Nat.mod_eq_of_lt h
theorem px_noneif {α : Type} {b : Bool} {x : Option α} {y : α} (h : (bif b then none else x) = some y) : b = false ∧ x = some y := by
  cases b with
  | true => cases h
  | false => exact ⟨rfl, h⟩
set_option maxHeartbeats 4000000 in
theorem px_M_sound (F : px_Fx p s m args meth c cc nL own ini Ts D cl ft dA aS aV A X) (FS : px_Sc s aS A scr) {i : Instr} {len a b pc pc' : Nat} {kv : Value} {L : px_Ls} {st st' : List Value} (hd : decode cc pc = .ok (i, len)) (ok : px_okM Ts cl X.1 own ini i len a b kv) (hs : px_M X.1.length ft scr i a b kv pc st h = some (pc', st', h'))
    (K : px_W p l e R s m args below meth c D cl dA aS A nL Q ad pc' L st' h' cn sn) : px_W p l e R s m args below meth c D cl dA aS A nL Q ad pc L st h cn sn := by
  obtain ⟨hx, hb, hml, hown, hts, hK, hA, hini, hcl, hstr, hsl, -, -, -, -, -⟩ := F
  intro H ls locs hP hD hS hl
  cases i
  case getfield idx =>
    obtain ⟨rfl, C, T, N, hc, hbN, hlink⟩ := ok
    change px_get a b pc st h = some (pc', st', h') at hs
    unfold px_get at hs
    split at hs
    · rename_i q r
      split at hs
      · rename_i ci fs hq
        cases hci : Nat.beq ci a with
        | false => rw [hci] at hs; cases hs
        | true =>
          rw [hci] at hs
          cases Nat.eq_of_beq_eq_true hci
          change (match fs[b]? with | some v => some (pc + 3, v :: r, h) | none => none) = some (pc', st', h') at hs
          split at hs
          · rename_i v hv
            cases hs
            exact va_get hx hb hts (hcl _ _ _ _ hc).1 hown hK hP q (px_ws_at hq) hc b hbN (hts _ hlink) (fun _ z => z) (v := px_tr ad aS v) (by rw [List.getElem?_map, hv]; rfl) hd (K H ls locs hP hD hS hl)
          · cases hs
      · cases hs
    · cases hs
  case putfield idx =>
    obtain ⟨rfl, C, T, N, hc, hbN, hlink, hfin⟩ := ok
    change px_put a b (ft a b) pc st h = some (pc', st', h') at hs
    unfold px_put at hs
    split at hs
    · rename_i v q r
      split at hs
      · rename_i ci fs hq
        obtain ⟨h1, h2⟩ := px_cond_some hs
        obtain ⟨h3, h4⟩ := Bool.and_eq_true_iff.mp h1
        obtain ⟨h5, h6⟩ := Bool.and_eq_true_iff.mp h4
        cases Nat.eq_of_beq_eq_true h3
        cases h2
        obtain ⟨q1, q2, q3, -, -⟩ := hcl _ _ _ _ hc
        have hf := px_fit_ok ad aS h6
        have kk : ∀ (H1 : Heap) (locs1 : List Loc), va_P D cl ((px_ws dA ad aS h).set q (ad q, .inr (a, (fs.map (px_tr ad aS)).set b (px_tr ad aS v)))) H1 → va_D A ((px_ws dA ad aS h).set q (ad q, .inr (a, (fs.map (px_tr ad aS)).set b (px_tr ad aS v)))) → va_S A s.heap H1 locs1 → W p l e R s m args below meth c H1 locs1 cn sn Q (F0 m (pc + 3) ls (st'.map (px_tr ad aS))) := by
          intro H1 locs1 g1 g2 g3
          have e1 : (px_ws dA ad aS h).set q (ad q, .inr (a, (fs.map (px_tr ad aS)).set b (px_tr ad aS v))) = px_ws dA ad aS (h.set q (.inr (a, fs.set b v))) := by
            rw [← px_ws_set]
            simp only [px_trE, List.map_set]
          rw [e1] at g1 g2
          exact K H1 ls locs1 g1 g2 g3 hl
        have hlen : b < (fs.map (px_tr ad aS)).length := by rw [List.length_map]; exact px_blt h5
        rcases hfin with hfin | ⟨hfin, hdecl, hi⟩
        · exact va_put hx hb hts q1 (ft a) q2 q3 hown hK hP hD hS q (px_ws_at hq) hc b hbN (hts _ hlink) (fun _ z => z) hfin (q2 b hbN) hf.1 hf.2 hlen hd kk
        · exact va_putF hx hb hts q1 (ft a) q2 q3 hown hK hP hD hS q (px_ws_at hq) hc b hbN (hts _ hlink) (fun _ z => z) hfin (hini hi) hdecl (q2 b hbN) hf.1 hf.2 hlen hd kk
      · cases hs
    · cases hs
  case iaload =>
    cases ok
    change px_ald scr pc st h = some (pc', st', h') at hs
    unfold px_ald at hs
    split at hs
    · rename_i i q r
      split at hs
      · rename_i n f hq
        obtain ⟨h1, h2⟩ := px_noneif hs
        cases h2
        exact va_iald hx hb hK hP q 0 (px_ws_at hq) rfl (px_in_ok h1) hd (K H ls locs hP hD hS hl)
      · cases hs
    · rename_i i k r
      cases scr with
      | none => cases hs
      | some sx =>
        obtain ⟨n, xs⟩ := sx
        change (if k = 4294967295 then (bif px_out i n then none else some (pc + 1, .int (xs i.toNatClampNeg) :: r, h)) else none) = some (pc', st', h') at hs
        split at hs
        · rename_i hk
          subst hk
          obtain ⟨h1, h2⟩ := px_noneif hs
          cases h2
          obtain ⟨g1, g2, g3⟩ := FS
          exact va_sld hx hb g1 g2 g3 hS (px_in_ok h1) hd (K H ls locs hP hD hS hl)
        · cases hs
    · cases hs
  case iastore =>
    cases ok
    change px_ast pc st h = some (pc', st', h') at hs
    unfold px_ast at hs
    split at hs
    · rename_i x i q r
      split at hs
      · rename_i n f hq
        obtain ⟨h1, h2⟩ := px_noneif hs
        cases h2
        refine va_iast hx hb hK hP hD hS q 0 (px_ws_at hq) rfl (px_in_ok h1) hd (fun H1 locs1 g1 g2 g3 => ?_)
        have e1 := px_ws_set dA ad aS h q (.inl (0, n, .inl (upd f i.toNatClampNeg x)))
        exact K H1 ls locs1 (e1 ▸ g1) (e1 ▸ g2) g3 hl
      · cases hs
    · cases hs
  case laload =>
    cases ok
    change px_lld pc st h = some (pc', st', h') at hs
    unfold px_lld at hs
    split at hs
    · rename_i i q r
      split at hs
      · rename_i n f hq
        obtain ⟨h1, h2⟩ := px_noneif hs
        cases h2
        exact va_lald hx hb hK hP q 1 (px_ws_at hq) rfl (px_in_ok h1) hd (K H ls locs hP hD hS hl)
      · cases hs
    · cases hs
  case lastore =>
    cases ok
    change px_lst pc st h = some (pc', st', h') at hs
    unfold px_lst at hs
    split at hs
    · rename_i x i q r
      split at hs
      · rename_i n f hq
        obtain ⟨h1, h2⟩ := px_noneif hs
        cases h2
        refine va_last hx hb hK hP hD hS q 1 (px_ws_at hq) rfl (px_in_ok h1) hd (fun H1 locs1 g1 g2 g3 => ?_)
        have e1 := px_ws_set dA ad aS h q (.inl (1, n, .inr (.inl (vp_updL f i.toNatClampNeg x))))
        exact K H1 ls locs1 (e1 ▸ g1) (e1 ▸ g2) g3 hl
      · cases hs
    · cases hs
  case baload =>
    cases ok
    change px_bld pc st h = some (pc', st', h') at hs
    unfold px_bld at hs
    split at hs
    · rename_i i q r
      split at hs
      · rename_i n f hq
        obtain ⟨h1, h2⟩ := px_noneif hs
        cases h2
        exact va_bald hx hb hK hP q 2 (px_ws_at hq) rfl (px_in_ok h1) hd (K H ls locs hP hD hS hl)
      · cases hs
    · cases hs
  case bastore =>
    cases ok
    change px_bst pc st h = some (pc', st', h') at hs
    unfold px_bst at hs
    split at hs
    · rename_i x i q r
      split at hs
      · rename_i n f hq
        obtain ⟨h1, h2⟩ := px_noneif hs
        cases h2
        refine va_bast hx hb hK hP hD hS q 2 (px_ws_at hq) rfl (px_in_ok h1) hd (fun H1 locs1 g1 g2 g3 => ?_)
        rw [vp_nar_byte] at g1 g2
        have e1 := px_ws_set dA ad aS h q (.inl (2, n, .inl (upd f i.toNatClampNeg x.toInt8.toInt32)))
        exact K H1 ls locs1 (e1 ▸ g1) (e1 ▸ g2) g3 hl
      · cases hs
    · cases hs
  case aaload =>
    cases ok
    change px_rld pc st h = some (pc', st', h') at hs
    unfold px_rld at hs
    split at hs
    · rename_i i q r
      split at hs
      · rename_i n f hq
        obtain ⟨h1, h2⟩ := px_noneif hs
        refine va_aldq hx hb hK hP q 3 (px_ws_at hq) rfl (px_in_ok h1) hd ?_
        split at h2
        · rename_i k hk
          split at h2
          · rename_i hk2
            cases h2
            have := K H ls locs hP hD hS hl
            simp only [List.map_cons, px_tr, px_u32 hk2] at this
            simp only [hk, Option.map_some, va_rf]
            exact this
          · cases h2
        · rename_i hk
          cases h2
          simp only [hk, Option.map_none, va_rf]
          exact K H ls locs hP hD hS hl
      · cases hs
    · cases hs
  case aastore =>
    cases ok
    change px_rst X.1.length pc st h = some (pc', st', h') at hs
    unfold px_rst at hs
    split at hs
    · rename_i k i q r
      split at hs
      · rename_i n f hq
        obtain ⟨h1, h2⟩ := px_noneif hs
        obtain ⟨h3, h4⟩ := Bool.or_eq_false_iff.mp h1
        cases h2
        have hk : k.toNat < X.1.length := by
          cases Nat.lt_or_ge k.toNat X.1.length with
          | inl z => exact z
          | inr z => rw [Nat.ble_eq_true_of_le z] at h4; cases h4
        refine vb_astq hx hb hK hP hD hS q 3 (px_ws_at hq) rfl (C := "java/lang/String") (hstr.recv hk hS) (fun comp c0 e1 e2 => by cases Option.some.inj (e1.symm.trans e2); exact va_asg _ _) (px_in_ok h3) hd (fun H1 locs1 g1 g2 g3 => ?_)
        have e1 := px_ws_set dA ad aS h q (.inl (3, n, .inr (.inr (.inr (.inr (va_up f i.toNatClampNeg (some k.toNat)))))))
        have e2 : (fun j => (va_up f i.toNatClampNeg (some k.toNat) j).map aS) = va_up (fun j => (f j).map aS) i.toNatClampNeg (some (aS k.toNat)) := by
          funext j
          unfold va_up
          split <;> rfl
        have e3 : (px_ws dA ad aS h).set q (ad q, .inl (dA 3, n, .inr (.inr (.inr (.inr (va_up (fun j => (f j).map aS) i.toNatClampNeg (some (aS k.toNat)))))))) = px_ws dA ad aS (h.set q (.inl (3, n, .inr (.inr (.inr (.inr (va_up f i.toNatClampNeg (some k.toNat)))))))) := by
          rw [← e1, ← e2]; rfl
        rw [e3] at g1 g2
        exact K H1 ls locs1 g1 g2 g3 hl
      · cases hs
    · cases hs
  case arraylength =>
    cases ok
    change px_len scr pc st h = some (pc', st', h') at hs
    unfold px_len at hs
    split at hs
    · rename_i q r
      split at hs
      · rename_i t n ar hq
        obtain ⟨h1, h2⟩ := px_cond_some hs
        cases h2
        have ht := px_blt h1
        have hn : (px_trA aS (n, ar)).1 = n := by rcases ar with f | f | f | f | f <;> rfl
        obtain ⟨ty, hty⟩ : ∃ ty, (px_tys dA)[t]? = some (dA t, ty) := by
          rcases (show t = 0 ∨ t = 1 ∨ t = 2 ∨ t = 3 by omega) with rfl | rfl | rfl | rfl <;> exact ⟨_, rfl⟩
        exact va_alen hx hb hK hP q t (px_ws_at hq) hty (by rw [hn]) hd (K H ls locs hP hD hS hl)
      · cases hs
    · rename_i k r
      cases scr with
      | none => cases hs
      | some sx =>
        obtain ⟨n, xs⟩ := sx
        change (if k = 4294967295 then some (pc + 1, .int (Int32.ofNat n) :: r, h) else none) = some (pc', st', h') at hs
        split at hs
        · rename_i hk
          subst hk
          cases hs
          obtain ⟨g1, g2, g3⟩ := FS
          exact va_slen hx hb g1 g2 g3 hS hd (K H ls locs hP hD hS hl)
        · cases hs
    · cases hs
  case ldc idx =>
    obtain ⟨rfl, ⟨v, rfl, hw⟩ | ⟨k, tx, rfl, hk, hw⟩⟩ := ok
    · cases hs
      exact lv_ldc hx hb hown (hts _ hw) hd (K H ls locs hP hD hS hl)
    · cases hs
      have := K H ls locs hP hD hS hl
      simp only [List.map_cons, px_tr, px_u32 hk] at this
      exact va_ldcS hx hb hown (hsl k _ _ _ hw) hd this
  case ldc_w idx =>
    obtain ⟨rfl, ⟨v, rfl, hw⟩ | ⟨k, tx, rfl, hk, hw⟩⟩ := ok
    · cases hs
      exact lv_ldcw hx hb hown (hts _ hw) hd (K H ls locs hP hD hS hl)
    · cases hs
      have := K H ls locs hP hD hS hl
      simp only [List.map_cons, px_tr, px_u32 hk] at this
      intro T hT Y
      obtain ⟨t, a1, b1⟩ := this T hT Y
      have hZ := hsl k _ _ _ hw
      exact ⟨t, Stand.ldcStringW Y hx hown (text := tx) (a := aS k) hZ.1 hZ.2 (g := F0 m pc ls (st.map (px_tr ad aS))) rfl (by rw [hb]; exact hd) t a1, b1⟩
  case ldc2_w idx =>
    obtain ⟨rfl, v, rfl, hw⟩ := ok
    cases hs
    exact lv_ldc2 hx hb hown (hts _ hw) hd (K H ls locs hP hD hS hl)
  all_goals cases hs
end PXM
