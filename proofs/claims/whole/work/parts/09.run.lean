/-! ===== the pure machine runs methods ===== -/
/-- a row of a method's table: the instruction, its length, three numbers (a jump's place, a class and a field, a callee and its arguments ..), a constant -/
abbrev px_En : Type := Instr × Nat × Nat × Nat × Nat × Value
/-- a method: its name, its bytes, its locals, what it returns, its handlers, the kinds that these catch, its table -/
abbrev px_Mt : Type := MethodName × ByteArray × Nat × Option FieldType × List (Nat × Nat × Nat × Nat) × List Nat × (Nat → Option px_En)
def px_sum (r : List Value) : Nat := (r.map fun v => v.category).sum
def px_small (r : List Value) : Bool := Nat.ble (px_sum r) 8
/-- methods that stand for one step: Object's constructor, Math.max, min, abs, arraycopy of ints, a text's length and signs -/
def px_init (d : Nat) (st : List Value) (h : px_H) : Option (List Value × px_H) := match st with
  | .ref _ :: r => bif (px_small r && Nat.ble 1 d) then some (r, h) else none
  | _ => none
def px_m2 (f : Int32 → Int32 → Int32) (d : Nat) (st : List Value) (h : px_H) : Option (List Value × px_H) := match st with
  | .int y :: .int x :: r => bif (px_small r && Nat.ble 1 d) then some (.int (f x y) :: r, h) else none
  | _ => none
def px_m1 (f : Int32 → Int32) (d : Nat) (st : List Value) (h : px_H) : Option (List Value × px_H) := match st with
  | .int x :: r => bif (px_small r && Nat.ble 1 d) then some (.int (f x) :: r, h) else none
  | _ => none
def px_max (x y : Int32) : Int32 := if x < y then y else x
def px_min (x y : Int32) : Int32 := if y < x then y else x
def px_abs (x : Int32) : Int32 := if 0 ≤ x then x else 0 - x
def px_cpok (sp dp n : Int32) (n0 n1 : Nat) : Bool := !decide (sp < 0) && (!decide (dp < 0) && (!decide (n < 0) && (Nat.ble (sp.toNatClampNeg + n.toNatClampNeg) n0 && Nat.ble (dp.toNatClampNeg + n.toNatClampNeg) n1)))
def px_cp (d : Nat) (st : List Value) (h : px_H) : Option (List Value × px_H) := match st with
  | .int n :: .int dp :: .ref q1 :: .int sp :: .ref q0 :: r => (match h[q0]? with
    | some (.inl (0, n0, .inl f)) => (match h[q1]? with
      | some (.inl (0, n1, .inl g)) => bif (px_small r && (Nat.ble 1 d && px_cpok sp dp n n0 n1)) then some (r, h.set q1 (.inl (0, n1, .inl (va_cpy f g sp.toNatClampNeg dp.toNatClampNeg n.toNatClampNeg)))) else none
      | _ => none)
    | _ => none)
  | _ => none
def px_sl (X : px_X) (d : Nat) (st : List Value) (h : px_H) : Option (List Value × px_H) := match st with
  | .float k :: r => bif (px_small r && (Nat.ble 12 d && Nat.blt k.toNat X.1.length)) then some (.int (Int32.ofNat (X.2.1.getD k.toNat 0)) :: r, h) else none
  | _ => none
def px_sc (X : px_X) (d : Nat) (st : List Value) (h : px_H) : Option (List Value × px_H) := match st with
  | .int i :: .float k :: r => bif (px_small r && (Nat.ble 12 d && (Nat.blt k.toNat X.1.length && !px_out i (X.2.1.getD k.toNat 0)))) then some (.int ((X.2.2.1.getD k.toNat []).getD i.toNatClampNeg 0) :: r, h) else none
  | _ => none
def px_P (X : px_X) (d : Nat) (i : Instr) (a : Nat) (st : List Value) (h : px_H) : Option (List Value × px_H) := match i with
  | .invokespecial _ => bif Nat.beq a 1000 then px_init d st h else none
  | .invokestatic _ => bif Nat.beq a 1001 then px_m2 px_max d st h else bif Nat.beq a 1002 then px_m2 px_min d st h else bif Nat.beq a 1003 then px_m1 px_abs d st h else bif Nat.beq a 1004 then px_cp d st h else none
  | .invokevirtual _ => bif Nat.beq a 1005 then px_sl X d st h else bif Nat.beq a 1006 then px_sc X d st h else none
  | _ => none
/-- 'throw new E(text)' as one step, at its 'new' -/
def px_T (d : Nat) (i : Instr) (a : Nat) (st : List Value) : Option Nat := match i with
  | .new _ => bif (Nat.ble 900 a && (Nat.ble 12 d && px_small st)) then some (a - 900) else none
  | _ => none
/-- returns -/
def px_vret (ret : Option FieldType) (st : List Value) : Option (Option Value) := match st with
  | [] => (match ret with | none => some none | _ => none)
  | _ => none
def px_iret (ret : Option FieldType) (st : List Value) : Option (Option Value) := match st with
  | [.int x] => (match ret with
    | some .int => some (some (.int x))
    | some .boolean => bif (decide (x = 0) || decide (x = 1)) then some (some (.int x)) else none
    | _ => none)
  | _ => none
def px_lret (ret : Option FieldType) (st : List Value) : Option (Option Value) := match st with
  | [.long x] => (match ret with | some .long => some (some (.long x)) | _ => none)
  | _ => none
def px_end (ret : Option FieldType) (i : Instr) (st : List Value) : Option (Option Value) := match i with
  | .return_ => px_vret ret st
  | .ireturn => px_iret ret st
  | .lreturn => px_lret ret st
  | _ => none
/-- calls: the depth that is left, the callee, its arguments, the rest of the stack -/
def px_pop : Nat → List Value → List Value → Option (List Value × List Value)
  | 0, st, acc => some (acc, st)
  | k + 1, v :: st, acc => px_pop k st (v :: acc)
  | _ + 1, [], _ => none
def px_go (M : px_Mt) (d : Nat) (as r : List Value) : Option (Nat × px_Mt × List Value × List Value) := match d with
  | 0 => none
  | d + 1 => bif (px_small r && Nat.ble (px_sum as) M.2.2.1) then some (d, M, as, r) else none
def px_I (mt : Nat → Option px_Mt) (d : Nat) (i : Instr) (a b k : Nat) (st : List Value) (h : px_H) : Option (Nat × px_Mt × List Value × List Value) := match mt a with
  | none => none
  | some M => (match i with
    | .invokevirtual _ => (match px_pop b st [] with
      | some (as, .ref q :: r) => (match h[q]? with
        | some (.inr (ci, _)) => bif Nat.beq ci k then px_go M d (.ref q :: as) r else none
        | _ => none)
      | _ => none)
    | .invokespecial _ => (match px_pop b st [] with
      | some (as, .ref q :: r) => px_go M d (.ref q :: as) r
      | _ => none)
    | .invokestatic _ => (match px_pop b st [] with
      | some (as, r) => px_go M d as r
      | _ => none)
    | _ => none)
/-- the handler of an exception of kind k thrown at pc -/
def px_find : List (Nat × Nat × Nat × Nat) → List Nat → Nat → Nat → Option Nat
  | q :: hs, kd :: ks, pc, k => bif (Nat.ble q.1 pc && Nat.blt pc q.2.1) then (bif Nat.beq kd k then some q.2.2.1 else bif (Nat.beq kd 1 && Nat.beq k 0) then px_find hs ks pc k else none) else px_find hs ks pc k
  | _, _, _, _ => none
def px_aj (en : px_En) : Option (Nat × Nat) := match en.1 with
  | .astore_n j => some (j, 1)
  | .astore j => some (j, 2)
  | _ => none
def px_drop (L : px_Ls) (j : Nat) : px_Ls := L.filter (fun q => !(q.1 == j) && !(q.1 + 1 == j && q.2.category == 2))
def px_land (M : px_Mt) (pc k : Nat) (L : px_Ls) : Option (Nat × px_Ls) := match px_find M.2.2.2.2.1 M.2.2.2.2.2.1 pc k with
  | none => none
  | some hp => (match M.2.2.2.2.2.2 hp with
    | none => none
    | some en => (match px_aj en with
      | none => none
      | some (j, n) => bif Nat.blt j M.2.2.1 then some (hp + n, px_drop L j) else none))
def px_isI (i : Instr) : Bool := match i with
  | .invokespecial _ => true
  | _ => false
def px_run (mt : Nat → Option px_Mt) (ft : Nat → Nat → FieldType) (X : px_X) : Nat → Nat → px_Mt → Option (Nat × (Nat → Int32)) → Nat → px_Ls → List Value → px_H → Nat → Nat → Option (px_Res × px_H × Nat × Nat)
  | 0, _, _, _, _, _, _, _, _, _ => none
  | n + 1, d, M, scr, pc, L, st, h, cn, sn =>
    match M.2.2.2.2.2.2 pc with
    | none => none
    | some en =>
      match px_L M.2.2.1 en.1 en.2.2.1 pc L st with
      | some q => px_run mt ft X n d M scr q.1 q.2.1 q.2.2 h cn sn
      | none =>
      match px_M X.1.length ft scr en.1 en.2.2.1 en.2.2.2.1 en.2.2.2.2.2 pc st h with
      | some q => px_run mt ft X n d M scr q.1 L q.2.1 q.2.2 cn sn
      | none =>
      match px_P X d en.1 en.2.2.1 st h with
      | some q => px_run mt ft X n d M scr (pc + 3) L q.1 q.2 cn sn
      | none =>
      match px_T d en.1 en.2.2.1 st with
      | some k => (match M.2.2.2.2.1 with | [] => some (.inr k, h, cn + 1, sn + 6) | _ => none)
      | none =>
      match px_N ft en.1 en.2.2.1 en.2.2.2.1 st with
      | some q => px_run mt ft X n d M scr (pc + q.1) L (.ref h.length :: q.2.1) (h ++ [q.2.2.1]) (cn + 1) (sn + q.2.2.2)
      | none =>
      match px_end M.2.2.2.1 en.1 st with
      | some v => some (.inl v, h, cn, sn)
      | none =>
      match px_I mt d en.1 en.2.2.1 en.2.2.2.1 en.2.2.2.2.1 st h with
      | none => none
      | some q =>
        match px_run mt ft X n q.1 q.2.1 none 0 (lv_args 0 q.2.2.1) [] h 0 0 with
        | none => none
        | some (.inl v, h', c, k) => px_run mt ft X n d M scr (pc + 3) L (v.toList ++ q.2.2.2) h' (cn + c) (sn + k)
        | some (.inr z, h', c, k) =>
          bif px_isI en.1 then none else
          match M.2.2.2.2.1 with
          | [] => some (.inr z, h', cn + c, sn + k)
          | _ => (match px_land M pc z L with
            | none => none
            | some w => px_run mt ft X n d M scr w.1 w.2 [] h' (cn + c) (sn + k))
/-- what the steps of this kind must be right in -/
def px_lenN : MethodName := ⟨"java/lang/String", "length", "()I"⟩
def px_chrN : MethodName := ⟨"java/lang/String", "charAt", "(I)C"⟩
def px_okP (Ts : List Cond) (own : String) (i : Instr) (len a : Nat) : Prop := match i with
  | .invokespecial idx => a = 1000 → len = 3 ∧ Cond.methodLink own idx objectInit ∈ Ts ∧ Cond.instanceMethod objectInit ∈ Ts ∧ Cond.code objectInit ⟨#[0xb1]⟩ 1 none ∈ Ts
  | .invokestatic idx => (a = 1001 → len = 3 ∧ Cond.methodLink own idx Lib.Math.max.name ∈ Ts ∧ Cond.static Lib.Math.max.name ∈ Ts ∧ Cond.initialized "java/lang/Math" ∈ Ts ∧ Cond.code Lib.Math.max.name Lib.Math.max.code 2 (some .int) ∈ Ts) ∧
    (a = 1002 → len = 3 ∧ Cond.methodLink own idx Lib.Math.min.name ∈ Ts ∧ Cond.static Lib.Math.min.name ∈ Ts ∧ Cond.initialized "java/lang/Math" ∈ Ts ∧ Cond.code Lib.Math.min.name Lib.Math.min.code 2 (some .int) ∈ Ts) ∧
    (a = 1003 → len = 3 ∧ Cond.methodLink own idx Lib.Math.abs.name ∈ Ts ∧ Cond.static Lib.Math.abs.name ∈ Ts ∧ Cond.initialized "java/lang/Math" ∈ Ts ∧ Cond.code Lib.Math.abs.name Lib.Math.abs.code 1 (some .int) ∈ Ts) ∧
    (a = 1004 → len = 3 ∧ Cond.methodLink own idx arraycopyName ∈ Ts ∧ Cond.native arraycopyName ∈ Ts ∧ Cond.static arraycopyName ∈ Ts ∧ Cond.initialized "java/lang/System" ∈ Ts)
  | .invokevirtual idx => (a = 1005 → len = 3 ∧ Cond.methodLink own idx px_lenN ∈ Ts) ∧ (a = 1006 → len = 3 ∧ Cond.methodLink own idx px_chrN ∈ Ts)
  | _ => True
/-- a text's length and signs: what is owed of the JDK's two methods -/
def px_HStr (l : Launch) (X : px_X) (Ts : List Cond) (cl : List vw_C) (ft : Nat → Nat → FieldType) : Prop :=
  ∀ (p : Program) (e : Env) (R : Room) (s : State) (m : MethodId) (args : Array Value) (below : List Frame) (meth : Method) (c : Code) (cc : ByteArray) (nL : Nat) (own : String) (ini : Bool) (D : va_G) (dA : Nat → ClassId) (aS aV : Nat → Nat) (A : Nat → Prop) (Q : State → Prop) (ad : Nat → Nat) (h : px_H) (cn sn idx pc : Nat) (k : UInt32) (L : px_Ls) (r : List Value),
    px_Fx p s m args meth c cc nL own ini Ts D cl ft dA aS aV A X → 12 ≤ R.frames → 700 ≤ R.locals → cn ≤ R.cells → sn ≤ R.slots → px_small r = true → k.toNat < X.1.length → decode cc pc = .ok (.invokevirtual idx, 3) →
    (Cond.methodLink own idx px_lenN ∈ Ts → px_W p l e R s m args below meth c D cl dA aS A nL Q ad (pc + 3) L (.int (Int32.ofNat (X.2.1.getD k.toNat 0)) :: r) h cn sn → px_W p l e R s m args below meth c D cl dA aS A nL Q ad pc L (.float k :: r) h cn sn) ∧
    (∀ i : Int32, px_out i (X.2.1.getD k.toNat 0) = false → Cond.methodLink own idx px_chrN ∈ Ts → px_W p l e R s m args below meth c D cl dA aS A nL Q ad (pc + 3) L (.int ((X.2.2.1.getD k.toNat []).getD i.toNatClampNeg 0) :: r) h cn sn → px_W p l e R s m args below meth c D cl dA aS A nL Q ad pc L (.int i :: .float k :: r) h cn sn)
section PXP
variable {p : Program} {l : Launch} {e : Env} {R : Room} {s : State} {m : MethodId} {args : Array Value} {below : List Frame} {meth : Method} {c : Code} {D : va_G} {cl : List vw_C} {dA : Nat → ClassId} {aS aV : Nat → Nat} {A : Nat → Prop} {nL : Nat} {Q : State → Prop} {ad : Nat → Nat} {h h' : px_H} {cn sn : Nat} {cc : ByteArray} {own : String} {ini : Bool} {Ts : List Cond} {ft : Nat → Nat → FieldType} {X : px_X} {scr : Option (Nat × (Nat → Int32))} {H : Heap} {locs : List Loc} {ls : Array Slot} {mc ms pc : Nat}
theorem px_small_le {r : List Value} (h : px_small r = true) : px_sum r ≤ 8 := Nat.le_of_ble_eq_true h
theorem px_sum_tr (ad aS : Nat → Nat) (r : List Value) : ((r.map (px_tr ad aS)).map fun v => v.category).sum = px_sum r := px_sum_map _ (px_cat ad aS) r
theorem px_ble {a b : Nat} (h : Nat.ble a b = true) : a ≤ b := Nat.le_of_ble_eq_true h
theorem px_notlt {x : Int32} (h : (!decide (x < 0)) = true) : ¬ x < 0 := fun z => by rw [decide_eq_true z] at h; cases h
set_option maxHeartbeats 4000000 in
theorem px_P_sound (hstr : px_HStr l X Ts cl ft) (F : px_Fx p s m args meth c cc nL own ini Ts D cl ft dA aS aV A X) {i : Instr} {len a d pc : Nat} {L : px_Ls} {st st' : List Value} (hd : decode cc pc = .ok (i, len)) (ok : px_okP Ts own i len a) (hs : px_P X d i a st h = some (st', h')) (hRf : d ≤ R.frames) (hRl : 64 * d ≤ R.locals) (hRc : cn ≤ R.cells) (hRs : sn ≤ R.slots)
    (K : px_W p l e R s m args below meth c D cl dA aS A nL Q ad (pc + 3) L st' h' cn sn) : px_W p l e R s m args below meth c D cl dA aS A nL Q ad pc L st h cn sn := by
  have F' := F
  obtain ⟨hx, hb, hml, hown, hts, hK, hA, hini, hcl, hst⟩ := F
  cases i
  case invokespecial idx =>
    change (bif Nat.beq a 1000 then px_init d st h else none) = some (st', h') at hs
    cases h1 : Nat.beq a 1000 with
    | false => rw [h1] at hs; cases hs
    | true =>
      rw [h1] at hs
      change px_init d st h = some (st', h') at hs
      obtain ⟨rfl, w1, w2, w3⟩ := ok (Nat.eq_of_beq_eq_true h1)
      unfold px_init at hs
      split at hs
      · rename_i q r
        obtain ⟨h2, h3⟩ := px_cond_some hs
        obtain ⟨h4, h5⟩ := Bool.and_eq_true_iff.mp h2
        cases h3
        have hd1 := px_ble h5
        have hsm := px_small_le h4
        intro H ls locs hP hD hS hl
        refine W.objInit hx hb hown (hts _ w1) (hts _ w2) (hts _ w3) rfl (by rw [hml]; exact hl.1) rfl hd (by omega) ?_ ?_
        · have := lv_room (m := m) (pc := pc) (ls := ls) (rest := List.map (px_tr ad aS) (.ref q :: st')) (st := st'.map (px_tr ad aS)) (by rw [px_sum_tr]; exact hsm)
          omega
        · exact K H ls locs hP hD hS hl
      · cases hs
  case invokestatic idx =>
    obtain ⟨o1, o2, o3, o4⟩ := ok
    change (bif Nat.beq a 1001 then px_m2 px_max d st h else bif Nat.beq a 1002 then px_m2 px_min d st h else bif Nat.beq a 1003 then px_m1 px_abs d st h else bif Nat.beq a 1004 then px_cp d st h else none) = some (st', h') at hs
    cases h1 : Nat.beq a 1001 with
    | true =>
      rw [h1] at hs
      obtain ⟨rfl, w1, w2, w3, w4⟩ := o1 (Nat.eq_of_beq_eq_true h1)
      change px_m2 px_max d st h = some (st', h') at hs
      unfold px_m2 at hs
      split at hs
      · rename_i y x r
        obtain ⟨h2, h3⟩ := px_cond_some hs
        obtain ⟨h4, h5⟩ := Bool.and_eq_true_iff.mp h2
        cases h3
        have hd1 := px_ble h5
        have hsm := px_small_le h4
        intro H ls locs hP hD hS hl
        exact va_mmax hx hb (hml.trans hl.1.symm) hown (hts _ w1) (hts _ w2) (hts _ w3) (hts _ w4) (by omega) (by rw [px_sum_tr]; omega) hRc hRs hd (K H ls locs hP hD hS hl)
      · cases hs
    | false =>
    rw [h1] at hs
    cases h1 : Nat.beq a 1002 with
    | true =>
      rw [h1] at hs
      obtain ⟨rfl, w1, w2, w3, w4⟩ := o2 (Nat.eq_of_beq_eq_true h1)
      change px_m2 px_min d st h = some (st', h') at hs
      unfold px_m2 at hs
      split at hs
      · rename_i y x r
        obtain ⟨h2, h3⟩ := px_cond_some hs
        obtain ⟨h4, h5⟩ := Bool.and_eq_true_iff.mp h2
        cases h3
        have hd1 := px_ble h5
        have hsm := px_small_le h4
        intro H ls locs hP hD hS hl
        exact va_mmin hx hb (hml.trans hl.1.symm) hown (hts _ w1) (hts _ w2) (hts _ w3) (hts _ w4) (by omega) (by rw [px_sum_tr]; omega) hRc hRs hd (K H ls locs hP hD hS hl)
      · cases hs
    | false =>
    rw [h1] at hs
    cases h1 : Nat.beq a 1003 with
    | true =>
      rw [h1] at hs
      obtain ⟨rfl, w1, w2, w3, w4⟩ := o3 (Nat.eq_of_beq_eq_true h1)
      change px_m1 px_abs d st h = some (st', h') at hs
      unfold px_m1 at hs
      split at hs
      · rename_i x r
        obtain ⟨h2, h3⟩ := px_cond_some hs
        obtain ⟨h4, h5⟩ := Bool.and_eq_true_iff.mp h2
        cases h3
        have hd1 := px_ble h5
        have hsm := px_small_le h4
        intro H ls locs hP hD hS hl
        exact va_mabs hx hb (hml.trans hl.1.symm) hown (hts _ w1) (hts _ w2) (hts _ w3) (hts _ w4) (by omega) (by rw [px_sum_tr]; omega) hRc hRs hd (K H ls locs hP hD hS hl)
      · cases hs
    | false =>
    rw [h1] at hs
    cases h1 : Nat.beq a 1004 with
    | true =>
      rw [h1] at hs
      obtain ⟨rfl, w1, w2, w3, w4⟩ := o4 (Nat.eq_of_beq_eq_true h1)
      change px_cp d st h = some (st', h') at hs
      unfold px_cp at hs
      split at hs
      · rename_i n dp q1 sp q0 r
        split at hs
        · rename_i n0 f hq0
          split at hs
          · rename_i n1 g hq1
            obtain ⟨h2, h3⟩ := px_cond_some hs
            obtain ⟨h4, h5⟩ := Bool.and_eq_true_iff.mp h2
            obtain ⟨h5, h6⟩ := Bool.and_eq_true_iff.mp h5
            obtain ⟨h6, h7⟩ := Bool.and_eq_true_iff.mp h6
            obtain ⟨h7, h8⟩ := Bool.and_eq_true_iff.mp h7
            obtain ⟨h8, h9⟩ := Bool.and_eq_true_iff.mp h8
            obtain ⟨h9, h10⟩ := Bool.and_eq_true_iff.mp h9
            cases h3
            have hd1 := px_ble h5
            have hsm := px_small_le h4
            intro H ls locs hP hD hS hl
            refine va_copyi (ty := .int) hx hb (hml.trans hl.1.symm) hown (hts _ w1) (hts _ w2) (hts _ w3) (hts _ w4) hK hP hD hS q0 q1 0 0 (px_ws_at hq0) (px_ws_at hq1) rfl rfl rfl (px_notlt h6) (px_notlt h7) (px_notlt h8) (px_ble h9) (px_ble h10) (fun i _ => rfl) (by omega) ?_ hd (fun H1 locs1 g1 g2 g3 => ?_)
            · rw [px_sum_tr]
              have e7 : nativeFrameWords "java/lang/System" "arraycopy" 5 = 7 := by decide
              rw [e7]
              omega
            · have e1 := px_ws_set dA ad aS h q1 (.inl (0, n1, .inl (va_cpy f g sp.toNatClampNeg dp.toNatClampNeg n.toNatClampNeg)))
              exact K H1 ls locs1 (e1 ▸ g1) (e1 ▸ g2) g3 hl
          · cases hs
        · cases hs
      · cases hs
    | false => rw [h1] at hs; cases hs
  case invokevirtual idx =>
    obtain ⟨o1, o2⟩ := ok
    change (bif Nat.beq a 1005 then px_sl X d st h else bif Nat.beq a 1006 then px_sc X d st h else none) = some (st', h') at hs
    cases h1 : Nat.beq a 1005 with
    | true =>
      rw [h1] at hs
      obtain ⟨rfl, w1⟩ := o1 (Nat.eq_of_beq_eq_true h1)
      change px_sl X d st h = some (st', h') at hs
      unfold px_sl at hs
      split at hs
      · rename_i k r
        obtain ⟨h2, h3⟩ := px_cond_some hs
        obtain ⟨h4, h5⟩ := Bool.and_eq_true_iff.mp h2
        obtain ⟨h5, h6⟩ := Bool.and_eq_true_iff.mp h5
        cases h3
        have hd1 := px_ble h5
        exact (hstr p e R s m args below meth c cc nL own ini D dA aS aV A Q ad h cn sn idx pc k L r F' (by omega) (by omega) hRc hRs h4 (px_blt h6) hd).1 w1 K
      · cases hs
    | false =>
    rw [h1] at hs
    cases h1 : Nat.beq a 1006 with
    | true =>
      rw [h1] at hs
      obtain ⟨rfl, w1⟩ := o2 (Nat.eq_of_beq_eq_true h1)
      change px_sc X d st h = some (st', h') at hs
      unfold px_sc at hs
      split at hs
      · rename_i i k r
        obtain ⟨h2, h3⟩ := px_cond_some hs
        obtain ⟨h4, h5⟩ := Bool.and_eq_true_iff.mp h2
        obtain ⟨h5, h6⟩ := Bool.and_eq_true_iff.mp h5
        obtain ⟨h6, h7⟩ := Bool.and_eq_true_iff.mp h6
        cases h3
        have hd1 := px_ble h5
        have ho : px_out i (X.2.1.getD k.toNat 0) = false := by
          cases hz : px_out i (X.2.1.getD k.toNat 0) with
          | false => rfl
          | true => rw [hz] at h7; cases h7
        exact (hstr p e R s m args below meth c cc nL own ini D dA aS aV A Q ad h cn sn idx pc k L r F' (by omega) (by omega) hRc hRs h4 (px_blt h6) hd).2 i ho w1 K
      · cases hs
    | false => rw [h1] at hs; cases hs
  all_goals cases hs
end PXP
