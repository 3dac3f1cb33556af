/-! ===== tables of methods, and how their rows are checked ===== -/
def px_lookT : List (Nat × px_En) → Nat → Option px_En
  | [], _ => none
  | q :: l, pc => bif Nat.beq q.1 pc then some q.2 else px_lookT l pc
theorem px_lookT_mem : ∀ {l : List (Nat × px_En)} {pc : Nat} {en : px_En}, px_lookT l pc = some en → (pc, en) ∈ l
  | [], _, _, h => by cases h
  | q :: l, pc, en, h => by
    unfold px_lookT at h
    cases hq : Nat.beq q.1 pc with
    | true =>
      rw [hq] at h
      have e1 := Nat.eq_of_beq_eq_true hq
      have e2 : q.2 = en := Option.some.inj h
      rw [← e1, ← e2]
      exact List.mem_cons_self
    | false =>
      rw [hq] at h
      exact List.mem_cons_of_mem _ (px_lookT_mem h)
/-- all of a row's checks but its decoding -/
def px_okR (mt : Nat → Option px_Mt) (Ts : List Cond) (cl : List vw_C) (X : px_X) (y : MethodName) (cc : ByteArray) (pc : Nat) (en : px_En) : Prop :=
  px_okL en.1 en.2.1 en.2.2.1 pc = true ∧ px_okM Ts cl X.1 y.cls (decide (y.name = "<init>")) en.1 en.2.1 en.2.2.1 en.2.2.2.1 en.2.2.2.2.2 ∧ px_okP Ts y.cls en.1 en.2.1 en.2.2.1 ∧
  px_okT Ts X y.cls cc en.1 en.2.1 en.2.2.1 pc ∧ px_okN Ts cl y.cls en.1 en.2.1 en.2.2.1 en.2.2.2.1 ∧ px_okI mt Ts cl X y.cls en.1 en.2.1 en.2.2.1 en.2.2.2.1 en.2.2.2.2.1 ∧ (∀ k, px_okV k en.2.2.2.2.2) ∧
  px_okRt en.1 en.2.1 = true ∧ (∀ j n, px_aj en = some (j, n) → en.2.1 = n)
/-- rows that name nothing outside their method -/
def px_isnull (v : Value) : Bool := match v with
  | .null => true
  | _ => false
def px_smk (i : Instr) (len : Nat) : Bool := match i with
  | .iconst _ | .lconst _ | .aconst_null | .iload_n _ | .lload_n _ | .aload_n _ | .istore_n _ | .lstore_n _ | .bipush _ | .iload _ | .lload _ | .aload _ | .istore _ | .lstore _ | .sipush _ | .iadd | .isub | .imul | .iand | .ior | .ixor | .ishl | .ishr | .iushr | .idiv | .irem | .ineg | .land | .lor | .lcmp | .lushr | .lshl | .i2l | .i2b | .dup | .dup2 | .pop | .goto _ | .ifnull _ | .ifnonnull _ | .iinc _ _ | .ifCond _ _ | .if_icmp _ _ | .lookupswitch _ _ | .tableswitch _ _ _ _ | .astore_n _ | .astore _ => true
  | .iaload | .iastore | .laload | .lastore | .baload | .bastore | .aaload | .aastore | .arraylength | .return_ | .ireturn | .lreturn => Nat.beq len 1
  | _ => false
def px_smp (pc : Nat) (en : px_En) : Bool := px_isnull en.2.2.2.2.2 && (px_okL en.1 en.2.1 en.2.2.1 pc && px_smk en.1 en.2.1)
theorem px_Rmk {mt : Nat → Option px_Mt} {Ts : List Cond} {cl : List vw_C} {X : px_X} {y : MethodName} {cc : ByteArray} {pc : Nat} {i : Instr} {len a b d : Nat} {kv : Value} (h1 : px_okL i len a pc = true) (h2 : px_okM Ts cl X.1 y.cls (decide (y.name = "<init>")) i len a b kv) (h3 : px_okP Ts y.cls i len a) (h4 : px_okT Ts X y.cls cc i len a pc) (h5 : px_okN Ts cl y.cls i len a b) (h6 : px_okI mt Ts cl X y.cls i len a b d) (h7 : ∀ k, px_okV k kv) (h8 : px_okRt i len = true) (h9 : ∀ j n, px_aj (i, len, a, b, d, kv) = some (j, n) → len = n) : px_okR mt Ts cl X y cc pc (i, len, a, b, d, kv) := ⟨h1, h2, h3, h4, h5, h6, h7, h8, h9⟩
theorem px_smp_ok {mt : Nat → Option px_Mt} {Ts : List Cond} {cl : List vw_C} {X : px_X} {y : MethodName} {cc : ByteArray} {pc : Nat} {en : px_En} (h : px_smp pc en = true) : px_okR mt Ts cl X y cc pc en := by
  obtain ⟨i, len, a, b, d, kv⟩ := en
  obtain ⟨h1, h2⟩ := Bool.and_eq_true_iff.mp h
  obtain ⟨h2, h3⟩ := Bool.and_eq_true_iff.mp h2
  have hkv : ∀ k, px_okV k kv := fun k x hx => by
    dsimp only at h1
    rw [hx] at h1
    cases h1
  dsimp only at h2 h3
  clear h1 h
  cases i
  case iconst => exact px_Rmk h2 trivial trivial trivial trivial (fun _ _ => trivial) hkv rfl (fun _ _ hj => nomatch hj)
  case lconst => exact px_Rmk h2 trivial trivial trivial trivial (fun _ _ => trivial) hkv rfl (fun _ _ hj => nomatch hj)
  case aconst_null => exact px_Rmk h2 trivial trivial trivial trivial (fun _ _ => trivial) hkv rfl (fun _ _ hj => nomatch hj)
  case iload_n => exact px_Rmk h2 trivial trivial trivial trivial (fun _ _ => trivial) hkv rfl (fun _ _ hj => nomatch hj)
  case lload_n => exact px_Rmk h2 trivial trivial trivial trivial (fun _ _ => trivial) hkv rfl (fun _ _ hj => nomatch hj)
  case aload_n => exact px_Rmk h2 trivial trivial trivial trivial (fun _ _ => trivial) hkv rfl (fun _ _ hj => nomatch hj)
  case istore_n => exact px_Rmk h2 trivial trivial trivial trivial (fun _ _ => trivial) hkv rfl (fun _ _ hj => nomatch hj)
  case lstore_n => exact px_Rmk h2 trivial trivial trivial trivial (fun _ _ => trivial) hkv rfl (fun _ _ hj => nomatch hj)
  case bipush => exact px_Rmk h2 trivial trivial trivial trivial (fun _ _ => trivial) hkv rfl (fun _ _ hj => nomatch hj)
  case iload => exact px_Rmk h2 trivial trivial trivial trivial (fun _ _ => trivial) hkv rfl (fun _ _ hj => nomatch hj)
  case lload => exact px_Rmk h2 trivial trivial trivial trivial (fun _ _ => trivial) hkv rfl (fun _ _ hj => nomatch hj)
  case aload => exact px_Rmk h2 trivial trivial trivial trivial (fun _ _ => trivial) hkv rfl (fun _ _ hj => nomatch hj)
  case istore => exact px_Rmk h2 trivial trivial trivial trivial (fun _ _ => trivial) hkv rfl (fun _ _ hj => nomatch hj)
  case lstore => exact px_Rmk h2 trivial trivial trivial trivial (fun _ _ => trivial) hkv rfl (fun _ _ hj => nomatch hj)
  case sipush => exact px_Rmk h2 trivial trivial trivial trivial (fun _ _ => trivial) hkv rfl (fun _ _ hj => nomatch hj)
  case iadd => exact px_Rmk h2 trivial trivial trivial trivial (fun _ _ => trivial) hkv rfl (fun _ _ hj => nomatch hj)
  case isub => exact px_Rmk h2 trivial trivial trivial trivial (fun _ _ => trivial) hkv rfl (fun _ _ hj => nomatch hj)
  case imul => exact px_Rmk h2 trivial trivial trivial trivial (fun _ _ => trivial) hkv rfl (fun _ _ hj => nomatch hj)
  case iand => exact px_Rmk h2 trivial trivial trivial trivial (fun _ _ => trivial) hkv rfl (fun _ _ hj => nomatch hj)
  case ior => exact px_Rmk h2 trivial trivial trivial trivial (fun _ _ => trivial) hkv rfl (fun _ _ hj => nomatch hj)
  case ixor => exact px_Rmk h2 trivial trivial trivial trivial (fun _ _ => trivial) hkv rfl (fun _ _ hj => nomatch hj)
  case ishl => exact px_Rmk h2 trivial trivial trivial trivial (fun _ _ => trivial) hkv rfl (fun _ _ hj => nomatch hj)
  case ishr => exact px_Rmk h2 trivial trivial trivial trivial (fun _ _ => trivial) hkv rfl (fun _ _ hj => nomatch hj)
  case iushr => exact px_Rmk h2 trivial trivial trivial trivial (fun _ _ => trivial) hkv rfl (fun _ _ hj => nomatch hj)
  case idiv => exact px_Rmk h2 trivial trivial trivial trivial (fun _ _ => trivial) hkv rfl (fun _ _ hj => nomatch hj)
  case irem => exact px_Rmk h2 trivial trivial trivial trivial (fun _ _ => trivial) hkv rfl (fun _ _ hj => nomatch hj)
  case ineg => exact px_Rmk h2 trivial trivial trivial trivial (fun _ _ => trivial) hkv rfl (fun _ _ hj => nomatch hj)
  case land => exact px_Rmk h2 trivial trivial trivial trivial (fun _ _ => trivial) hkv rfl (fun _ _ hj => nomatch hj)
  case lor => exact px_Rmk h2 trivial trivial trivial trivial (fun _ _ => trivial) hkv rfl (fun _ _ hj => nomatch hj)
  case lcmp => exact px_Rmk h2 trivial trivial trivial trivial (fun _ _ => trivial) hkv rfl (fun _ _ hj => nomatch hj)
  case lushr => exact px_Rmk h2 trivial trivial trivial trivial (fun _ _ => trivial) hkv rfl (fun _ _ hj => nomatch hj)
  case lshl => exact px_Rmk h2 trivial trivial trivial trivial (fun _ _ => trivial) hkv rfl (fun _ _ hj => nomatch hj)
  case i2l => exact px_Rmk h2 trivial trivial trivial trivial (fun _ _ => trivial) hkv rfl (fun _ _ hj => nomatch hj)
  case i2b => exact px_Rmk h2 trivial trivial trivial trivial (fun _ _ => trivial) hkv rfl (fun _ _ hj => nomatch hj)
  case dup => exact px_Rmk h2 trivial trivial trivial trivial (fun _ _ => trivial) hkv rfl (fun _ _ hj => nomatch hj)
  case dup2 => exact px_Rmk h2 trivial trivial trivial trivial (fun _ _ => trivial) hkv rfl (fun _ _ hj => nomatch hj)
  case pop => exact px_Rmk h2 trivial trivial trivial trivial (fun _ _ => trivial) hkv rfl (fun _ _ hj => nomatch hj)
  case goto => exact px_Rmk h2 trivial trivial trivial trivial (fun _ _ => trivial) hkv rfl (fun _ _ hj => nomatch hj)
  case ifnull => exact px_Rmk h2 trivial trivial trivial trivial (fun _ _ => trivial) hkv rfl (fun _ _ hj => nomatch hj)
  case ifnonnull => exact px_Rmk h2 trivial trivial trivial trivial (fun _ _ => trivial) hkv rfl (fun _ _ hj => nomatch hj)
  case iinc => exact px_Rmk h2 trivial trivial trivial trivial (fun _ _ => trivial) hkv rfl (fun _ _ hj => nomatch hj)
  case ifCond => exact px_Rmk h2 trivial trivial trivial trivial (fun _ _ => trivial) hkv rfl (fun _ _ hj => nomatch hj)
  case if_icmp => exact px_Rmk h2 trivial trivial trivial trivial (fun _ _ => trivial) hkv rfl (fun _ _ hj => nomatch hj)
  case lookupswitch => exact px_Rmk h2 trivial trivial trivial trivial (fun _ _ => trivial) hkv rfl (fun _ _ hj => nomatch hj)
  case tableswitch => exact px_Rmk h2 trivial trivial trivial trivial (fun _ _ => trivial) hkv rfl (fun _ _ hj => nomatch hj)
  case iaload => exact px_Rmk h2 (Nat.eq_of_beq_eq_true h3) trivial trivial trivial (fun _ _ => trivial) hkv rfl (fun _ _ hj => nomatch hj)
  case iastore => exact px_Rmk h2 (Nat.eq_of_beq_eq_true h3) trivial trivial trivial (fun _ _ => trivial) hkv rfl (fun _ _ hj => nomatch hj)
  case laload => exact px_Rmk h2 (Nat.eq_of_beq_eq_true h3) trivial trivial trivial (fun _ _ => trivial) hkv rfl (fun _ _ hj => nomatch hj)
  case lastore => exact px_Rmk h2 (Nat.eq_of_beq_eq_true h3) trivial trivial trivial (fun _ _ => trivial) hkv rfl (fun _ _ hj => nomatch hj)
  case baload => exact px_Rmk h2 (Nat.eq_of_beq_eq_true h3) trivial trivial trivial (fun _ _ => trivial) hkv rfl (fun _ _ hj => nomatch hj)
  case bastore => exact px_Rmk h2 (Nat.eq_of_beq_eq_true h3) trivial trivial trivial (fun _ _ => trivial) hkv rfl (fun _ _ hj => nomatch hj)
  case aaload => exact px_Rmk h2 (Nat.eq_of_beq_eq_true h3) trivial trivial trivial (fun _ _ => trivial) hkv rfl (fun _ _ hj => nomatch hj)
  case aastore => exact px_Rmk h2 (Nat.eq_of_beq_eq_true h3) trivial trivial trivial (fun _ _ => trivial) hkv rfl (fun _ _ hj => nomatch hj)
  case arraylength => exact px_Rmk h2 (Nat.eq_of_beq_eq_true h3) trivial trivial trivial (fun _ _ => trivial) hkv rfl (fun _ _ hj => nomatch hj)
  case return_ => exact px_Rmk h2 trivial trivial trivial trivial (fun _ _ => trivial) hkv h3 (fun _ _ hj => nomatch hj)
  case ireturn => exact px_Rmk h2 trivial trivial trivial trivial (fun _ _ => trivial) hkv h3 (fun _ _ hj => nomatch hj)
  case lreturn => exact px_Rmk h2 trivial trivial trivial trivial (fun _ _ => trivial) hkv h3 (fun _ _ hj => nomatch hj)
  case astore_n => exact px_Rmk h2 trivial trivial trivial trivial (fun _ _ => trivial) hkv rfl (fun _ _ hj => by cases hj; exact Nat.eq_of_beq_eq_true h2)
  case astore => exact px_Rmk h2 trivial trivial trivial trivial (fun _ _ => trivial) hkv rfl (fun _ _ hj => by cases hj; exact Nat.eq_of_beq_eq_true h2)
  all_goals cases h3
section PXLK
variable {mt : Nat → Option px_Mt} {Ts : List Cond} {cl : List vw_C} {X : px_X} {y : MethodName} {cc : ByteArray} {pc a b d : Nat}
theorem px_kn : ∀ k, px_okV k .null := fun k => px_ok_null k
def px_fk (Ts : List Cond) (cl : List vw_C) (own : String) (idx a b : Nat) (ini : Bool) : Prop := ∃ (C : String) (T : u_T) (N : Nat), cl[a]? = some (C, T, N) ∧ b < N ∧ Cond.fieldLink own idx (T b).1 (T b).2.1 (T b).2.2.1 ∈ Ts ∧ ((T b).2.2.2 = false ∨ ((T b).2.2.2 = true ∧ (T b).1 = own ∧ ini = true))
theorem px_k_get {idx : Nat} (h : ∃ (C : String) (T : u_T) (N : Nat), cl[a]? = some (C, T, N) ∧ b < N ∧ Cond.fieldLink y.cls idx (T b).1 (T b).2.1 (T b).2.2.1 ∈ Ts) : px_okR mt Ts cl X y cc pc (.getfield idx, 3, a, b, d, .null) :=
  px_Rmk (rfl) (⟨rfl, h⟩) (trivial) (trivial) (trivial) (fun _ _ => trivial) (px_kn) (rfl) (fun _ _ hj => nomatch hj)
theorem px_k_put {idx : Nat} (h : ∃ (C : String) (T : u_T) (N : Nat), cl[a]? = some (C, T, N) ∧ b < N ∧ Cond.fieldLink y.cls idx (T b).1 (T b).2.1 (T b).2.2.1 ∈ Ts ∧ ((T b).2.2.2 = false ∨ ((T b).2.2.2 = true ∧ (T b).1 = y.cls ∧ decide (y.name = "<init>") = true))) : px_okR mt Ts cl X y cc pc (.putfield idx, 3, a, b, d, .null) :=
  px_Rmk (rfl) (⟨rfl, h⟩) (trivial) (trivial) (trivial) (fun _ _ => trivial) (px_kn) (rfl) (fun _ _ hj => nomatch hj)
theorem px_k_ldci {idx : Nat} {v : Int32} (h : Cond.constant y.cls idx v ∈ Ts) : px_okR mt Ts cl X y cc pc (.ldc idx, 2, a, b, d, .int v) :=
  px_Rmk (rfl) (⟨rfl, Or.inl ⟨v, rfl, h⟩⟩) (trivial) (trivial) (trivial) (fun _ _ => trivial) (fun k => px_ok_int k v) (rfl) (fun _ _ hj => nomatch hj)
theorem px_k_ldcs {idx k : Nat} {tx : String} (hk : k < 4294967296) (h : X.1[k]? = some (y.cls, idx, tx)) : px_okR mt Ts cl X y cc pc (.ldc idx, 2, a, b, d, .float (UInt32.ofNat k)) :=
  px_Rmk (rfl) (⟨rfl, Or.inr ⟨k, tx, rfl, hk, h⟩⟩) (trivial) (trivial) (trivial) (fun _ _ => trivial) (fun k => px_ok_float k _) (rfl) (fun _ _ hj => nomatch hj)
theorem px_k_ldcws {idx k : Nat} {tx : String} (hk : k < 4294967296) (h : X.1[k]? = some (y.cls, idx, tx)) : px_okR mt Ts cl X y cc pc (.ldc_w idx, 3, a, b, d, .float (UInt32.ofNat k)) :=
  px_Rmk (rfl) (⟨rfl, Or.inr ⟨k, tx, rfl, hk, h⟩⟩) (trivial) (trivial) (trivial) (fun _ _ => trivial) (fun k => px_ok_float k _) (rfl) (fun _ _ hj => nomatch hj)
theorem px_k_ldcw {idx : Nat} {v : Int32} (h : Cond.constant y.cls idx v ∈ Ts) : px_okR mt Ts cl X y cc pc (.ldc_w idx, 3, a, b, d, .int v) :=
  px_Rmk (rfl) (⟨rfl, Or.inl ⟨v, rfl, h⟩⟩) (trivial) (trivial) (trivial) (fun _ _ => trivial) (fun k => px_ok_int k v) (rfl) (fun _ _ hj => nomatch hj)
theorem px_k_ldc2 {idx : Nat} {v : Int64} (h : Cond.constantLong y.cls idx v ∈ Ts) : px_okR mt Ts cl X y cc pc (.ldc2_w idx, 3, a, b, d, .long v) :=
  px_Rmk (rfl) (⟨rfl, v, rfl, h⟩) (trivial) (trivial) (trivial) (fun _ _ => trivial) (fun k => px_ok_long k v) (rfl) (fun _ _ hj => nomatch hj)
theorem px_k_new {idx : Nat} {C : String} {T : u_T} (ha : a < 900) (h : cl[a]? = some (C, T, b)) (hw : Cond.classLink y.cls idx C ∈ Ts) : px_okR mt Ts cl X y cc pc (.new idx, 3, a, b, d, .null) :=
  px_Rmk (rfl) (trivial) (trivial) (fun h9 => by omega) (fun _ => ⟨rfl, C, T, h, hw⟩) (fun _ _ => trivial) (px_kn) (rfl) (fun _ _ hj => nomatch hj)
theorem px_k_thr {idx : Nat} (ha : 900 ≤ a) (h : px_okT Ts X y.cls cc (.new idx) 3 a pc) : px_okR mt Ts cl X y cc pc (.new idx, 3, a, b, d, .null) :=
  px_Rmk (rfl) (trivial) (trivial) (h) (fun h9 => by omega) (fun _ _ => trivial) (px_kn) (rfl) (fun _ _ hj => nomatch hj)
theorem px_k_arr {t : ArrayType} (h : (a = 0 ∧ t = .int ∧ Cond.arrayClass .int ∈ Ts) ∨ (a = 1 ∧ t = .long ∧ Cond.arrayClass .long ∈ Ts) ∨ (a = 2 ∧ t = .byte ∧ Cond.arrayClass .byte ∈ Ts)) : px_okR mt Ts cl X y cc pc (.newarray t, 2, a, b, d, .null) :=
  px_Rmk (rfl) (trivial) (trivial) (trivial) (⟨rfl, h⟩) (fun _ _ => trivial) (px_kn) (rfl) (fun _ _ hj => nomatch hj)
theorem px_k_arq {idx : Nat} (h : Cond.classLink y.cls idx "java/lang/String" ∈ Ts) : px_okR mt Ts cl X y cc pc (.anewarray idx, 3, a, b, d, .null) :=
  px_Rmk (rfl) (trivial) (trivial) (trivial) (⟨rfl, h⟩) (fun _ _ => trivial) (px_kn) (rfl) (fun _ _ hj => nomatch hj)
theorem px_k_vir {idx : Nat} {M : px_Mt} (ha : a < 1000) (hm : mt a = some M) (h : M.2.2.2.2.1 = [] ∧ Cond.methodLink y.cls idx M.1 ∈ Ts ∧ Cond.instanceMethod M.1 ∈ Ts ∧ Cond.selects M.1.cls M.1 M.1 ∈ Ts ∧ (∃ T N, cl[d]? = some (M.1.cls, T, N)) ∧ (parseMethodDescriptor M.1.desc).map (fun d => d.parameters.length) = some b) : px_okR mt Ts cl X y cc pc (.invokevirtual idx, 3, a, b, d, .null) :=
  px_Rmk (rfl) (trivial) (⟨fun z => by omega, fun z => by omega⟩) (trivial) (trivial) (fun M' hM' => by cases Option.some.inj (hm.symm.trans hM'); exact ⟨rfl, h⟩) (px_kn) (rfl) (fun _ _ hj => nomatch hj)
theorem px_k_spe {idx : Nat} {M : px_Mt} (ha : a < 1000) (hm : mt a = some M) (h : M.2.2.2.2.1 = [] ∧ M.1.name = "<init>" ∧ M.2.2.2.1 = none ∧ Cond.instanceMethod M.1 ∈ Ts ∧ (parseMethodDescriptor M.1.desc).map (fun d => d.parameters.length) = some b ∧ (Cond.methodLink y.cls idx M.1 ∈ Ts ∨ ∃ host, (y.cls, idx, M.1, host) ∈ X.2.2.2)) : px_okR mt Ts cl X y cc pc (.invokespecial idx, 3, a, b, d, .null) :=
  px_Rmk (rfl) (trivial) (fun z => by omega) (trivial) (trivial) (fun M' hM' => by cases Option.some.inj (hm.symm.trans hM'); exact ⟨rfl, h⟩) (px_kn) (rfl) (fun _ _ hj => nomatch hj)
theorem px_k_sta {idx : Nat} {M : px_Mt} (ha : a < 1000) (hm : mt a = some M) (h : Cond.methodLink y.cls idx M.1 ∈ Ts ∧ Cond.static M.1 ∈ Ts ∧ (parseMethodDescriptor M.1.desc).map (fun d => d.parameters.length) = some b) : px_okR mt Ts cl X y cc pc (.invokestatic idx, 3, a, b, d, .null) :=
  px_Rmk (rfl) (trivial) (⟨fun z => by omega, fun z => by omega, fun z => by omega, fun z => by omega⟩) (trivial) (trivial) (fun M' hM' => by cases Option.some.inj (hm.symm.trans hM'); exact ⟨rfl, h⟩) (px_kn) (rfl) (fun _ _ hj => nomatch hj)
theorem px_k_obj {idx : Nat} (hm : mt 1000 = none) (h : Cond.methodLink y.cls idx objectInit ∈ Ts ∧ Cond.instanceMethod objectInit ∈ Ts ∧ Cond.code objectInit ⟨#[0xb1]⟩ 1 none ∈ Ts) : px_okR mt Ts cl X y cc pc (.invokespecial idx, 3, 1000, b, d, .null) :=
  px_Rmk (rfl) (trivial) (fun _ => ⟨rfl, h⟩) (trivial) (trivial) (fun M' hM' => by cases hm.symm.trans hM') (px_kn) (rfl) (fun _ _ hj => nomatch hj)
theorem px_k_max {idx : Nat} (hm : mt 1001 = none) (h : Cond.methodLink y.cls idx Lib.Math.max.name ∈ Ts ∧ Cond.static Lib.Math.max.name ∈ Ts ∧ Cond.initialized "java/lang/Math" ∈ Ts ∧ Cond.code Lib.Math.max.name Lib.Math.max.code 2 (some .int) ∈ Ts) : px_okR mt Ts cl X y cc pc (.invokestatic idx, 3, 1001, b, d, .null) :=
  px_Rmk (rfl) (trivial) (⟨fun _ => ⟨rfl, h⟩, fun z => absurd z (by decide), fun z => absurd z (by decide), fun z => absurd z (by decide)⟩) (trivial) (trivial) (fun M' hM' => by cases hm.symm.trans hM') (px_kn) (rfl) (fun _ _ hj => nomatch hj)
theorem px_k_min {idx : Nat} (hm : mt 1002 = none) (h : Cond.methodLink y.cls idx Lib.Math.min.name ∈ Ts ∧ Cond.static Lib.Math.min.name ∈ Ts ∧ Cond.initialized "java/lang/Math" ∈ Ts ∧ Cond.code Lib.Math.min.name Lib.Math.min.code 2 (some .int) ∈ Ts) : px_okR mt Ts cl X y cc pc (.invokestatic idx, 3, 1002, b, d, .null) :=
  px_Rmk (rfl) (trivial) (⟨fun z => absurd z (by decide), fun _ => ⟨rfl, h⟩, fun z => absurd z (by decide), fun z => absurd z (by decide)⟩) (trivial) (trivial) (fun M' hM' => by cases hm.symm.trans hM') (px_kn) (rfl) (fun _ _ hj => nomatch hj)
theorem px_k_abs {idx : Nat} (hm : mt 1003 = none) (h : Cond.methodLink y.cls idx Lib.Math.abs.name ∈ Ts ∧ Cond.static Lib.Math.abs.name ∈ Ts ∧ Cond.initialized "java/lang/Math" ∈ Ts ∧ Cond.code Lib.Math.abs.name Lib.Math.abs.code 1 (some .int) ∈ Ts) : px_okR mt Ts cl X y cc pc (.invokestatic idx, 3, 1003, b, d, .null) :=
  px_Rmk (rfl) (trivial) (⟨fun z => absurd z (by decide), fun z => absurd z (by decide), fun _ => ⟨rfl, h⟩, fun z => absurd z (by decide)⟩) (trivial) (trivial) (fun M' hM' => by cases hm.symm.trans hM') (px_kn) (rfl) (fun _ _ hj => nomatch hj)
theorem px_k_cpy {idx : Nat} (hm : mt 1004 = none) (h : Cond.methodLink y.cls idx arraycopyName ∈ Ts ∧ Cond.native arraycopyName ∈ Ts ∧ Cond.static arraycopyName ∈ Ts ∧ Cond.initialized "java/lang/System" ∈ Ts) : px_okR mt Ts cl X y cc pc (.invokestatic idx, 3, 1004, b, d, .null) :=
  px_Rmk (rfl) (trivial) (⟨fun z => absurd z (by decide), fun z => absurd z (by decide), fun z => absurd z (by decide), fun _ => ⟨rfl, h⟩⟩) (trivial) (trivial) (fun M' hM' => by cases hm.symm.trans hM') (px_kn) (rfl) (fun _ _ hj => nomatch hj)
theorem px_k_len {idx : Nat} (hm : mt 1005 = none) (h : Cond.methodLink y.cls idx px_lenN ∈ Ts) : px_okR mt Ts cl X y cc pc (.invokevirtual idx, 3, 1005, b, d, .null) :=
  px_Rmk (rfl) (trivial) (⟨fun _ => ⟨rfl, h⟩, fun z => absurd z (by decide)⟩) (trivial) (trivial) (fun M' hM' => by cases hm.symm.trans hM') (px_kn) (rfl) (fun _ _ hj => nomatch hj)
theorem px_k_chr {idx : Nat} (hm : mt 1006 = none) (h : Cond.methodLink y.cls idx px_chrN ∈ Ts) : px_okR mt Ts cl X y cc pc (.invokevirtual idx, 3, 1006, b, d, .null) :=
  px_Rmk (rfl) (trivial) (⟨fun z => absurd z (by decide), fun _ => ⟨rfl, h⟩⟩) (trivial) (trivial) (fun M' hM' => by cases hm.symm.trans hM') (px_kn) (rfl) (fun _ _ hj => nomatch hj)
end PXLK
/-- a method's whole check -/
def px_dec (cc : ByteArray) (l : List (Nat × px_En)) : Prop := ∀ q ∈ l, decode cc q.1 = .ok (q.2.1, q.2.2.1)
theorem px_en_of {mt : Nat → Option px_Mt} {Ts : List Cond} {cl : List vw_C} {X : px_X} {M : px_Mt} {pc : Nat} {en : px_En} (h1 : decode M.2.1 pc = .ok (en.1, en.2.1)) (h2 : px_okR mt Ts cl X M.1 M.2.1 pc en) : px_okEn mt Ts cl X M pc en := ⟨h1, h2⟩
theorem px_mk {mt : Nat → Option px_Mt} {Ts : List Cond} {cl : List vw_C} {X : px_X} {M : px_Mt} {ls ll : List (Nat × px_En)} (ht : M.2.2.2.2.2.2 = px_lookT (ls ++ ll)) (h1 : plainName M.1.cls = true) (h2 : M.1.cls ≠ "java/lang/invoke/MethodHandle" ∧ M.1.cls ≠ "java/lang/invoke/VarHandle") (h3 : M.2.2.1 ≤ 40) (h4 : Cond.initialized M.1.cls ∈ Ts) (h5 : px_word M ∈ Ts) (h6 : px_okHd Ts M.1.cls M.2.2.2.2.1 M.2.2.2.2.2.1)
    (hdec : px_dec M.2.1 (ls ++ ll)) (hs : ls.all (fun q => px_smp q.1 q.2) = true) (hl : ∀ q ∈ ll, px_okR mt Ts cl X M.1 M.2.1 q.1 q.2) : px_okMt mt Ts cl X M := by
  have key : ∀ pc en, M.2.2.2.2.2.2 pc = some en → px_okEn mt Ts cl X M pc en := by
    intro pc en he
    rw [ht] at he
    have hm := px_lookT_mem he
    have e1 : decode M.2.1 pc = .ok (en.1, en.2.1) := hdec (pc, en) hm
    have e2 : px_okR mt Ts cl X M.1 M.2.1 pc en := by
      rcases List.mem_append.mp hm with h | h
      · have e3 : px_smp pc en = true := List.all_eq_true.mp hs (pc, en) h
        exact px_smp_ok e3
      · exact hl (pc, en) h
    exact px_en_of e1 e2
  exact ⟨h1, h2, h3, h4, h5, h6, key⟩
theorem px_mkb {mt : Nat → Option px_Mt} {Ts : List Cond} {cl : List vw_C} {X : px_X} {M : px_Mt} {ls ll : List (Nat × px_En)} (ht : M.2.2.2.2.2.2 = px_lookT (ls ++ ll)) (h6 : px_okHd Ts M.1.cls M.2.2.2.2.1 M.2.2.2.2.2.1)
    (hdec : px_dec M.2.1 (ls ++ ll)) (hs : ls.all (fun q => px_smp q.1 q.2) = true) (hl : ∀ q ∈ ll, px_okR mt Ts cl X M.1 M.2.1 q.1 q.2) : px_okB mt Ts cl X M := by
  have key : ∀ pc en, M.2.2.2.2.2.2 pc = some en → px_okEn mt Ts cl X M pc en := by
    intro pc en he
    rw [ht] at he
    have hm := px_lookT_mem he
    have e1 : decode M.2.1 pc = .ok (en.1, en.2.1) := hdec (pc, en) hm
    have e2 : px_okR mt Ts cl X M.1 M.2.1 pc en := by
      rcases List.mem_append.mp hm with h | h
      · have e3 : px_smp pc en = true := List.all_eq_true.mp hs (pc, en) h
        exact px_smp_ok e3
      · exact hl (pc, en) h
    exact px_en_of e1 e2
  exact ⟨h6, key⟩
