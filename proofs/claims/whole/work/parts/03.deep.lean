/-! ===== THE PURE MACHINE: values, cells and what they stand for. A pure reference is the number of a cell in the pure heap; a pure float k stands for the k-th constant text (or the law's script): the program has no floats ===== -/
abbrev px_E : Type := (Nat × vp_A) ⊕ (Nat × List Value)
abbrev px_H : Type := List px_E
abbrev px_Ls : Type := List (Nat × Value)
def px_tr (ad aS : Nat → Nat) : Value → Value
  | .int x => .int x
  | .long x => .long x
  | .float k => .ref (aS k.toNat)
  | .double x => .double x
  | .null => .null
  | .ref a => .ref (ad a)
  | .retAddr x => .retAddr x
def px_trA (aS : Nat → Nat) : vp_A → vp_A
  | (n, .inl f) => (n, .inl f)
  | (n, .inr (.inl f)) => (n, .inr (.inl f))
  | (n, .inr (.inr (.inl f))) => (n, .inr (.inr (.inl f)))
  | (n, .inr (.inr (.inr (.inl f)))) => (n, .inr (.inr (.inr (.inl f))))
  | (n, .inr (.inr (.inr (.inr f)))) => (n, .inr (.inr (.inr (.inr (fun j => (f j).map aS)))))
def px_trE (dA : Nat → ClassId) (ad aS : Nat → Nat) : px_E → va_E
  | .inl (t, a) => .inl (dA t, px_trA aS a)
  | .inr (ci, fs) => .inr (ci, fs.map (px_tr ad aS))
def px_ws (dA : Nat → ClassId) (ad aS : Nat → Nat) (h : px_H) : va_W := h.zipIdx.map (fun q => (ad q.2, px_trE dA ad aS q.1))
def px_trL (ad aS : Nat → Nat) (L : px_Ls) : px_Ls := L.map (fun q => (q.1, px_tr ad aS q.2))
theorem px_cat (ad aS : Nat → Nat) (v : Value) : (px_tr ad aS v).category = v.category := by cases v <;> rfl
theorem px_ws_get (dA : Nat → ClassId) (ad aS : Nat → Nat) (h : px_H) (i : Nat) : (px_ws dA ad aS h)[i]? = (h[i]?).map (fun e => (ad i, px_trE dA ad aS e)) := by
  simp only [px_ws, List.getElem?_map, List.getElem?_zipIdx, Option.map_map, Nat.zero_add]
  cases h[i]? <;> rfl
theorem px_ws_at {dA : Nat → ClassId} {ad aS : Nat → Nat} {h : px_H} {i : Nat} {e : px_E} (he : h[i]? = some e) : (px_ws dA ad aS h)[i]? = some (ad i, px_trE dA ad aS e) := by
  rw [px_ws_get, he]; rfl
theorem px_ws_len (dA : Nat → ClassId) (ad aS : Nat → Nat) (h : px_H) : (px_ws dA ad aS h).length = h.length := by simp [px_ws]
theorem px_ws_set (dA : Nat → ClassId) (ad aS : Nat → Nat) (h : px_H) (i : Nat) (e : px_E) : (px_ws dA ad aS h).set i (ad i, px_trE dA ad aS e) = px_ws dA ad aS (h.set i e) := by
  apply List.ext_getElem?
  intro k
  rw [List.getElem?_set, px_ws_get, px_ws_get, List.getElem?_set, px_ws_len]
  by_cases hik : i = k
  · subst hik
    by_cases hl : i < h.length
    · simp [hl]
    · simp [hl]
  · simp [hik]
theorem px_ws_app (dA : Nat → ClassId) (ad aS : Nat → Nat) (h : px_H) (e : px_E) : px_ws dA ad aS (h ++ [e]) = px_ws dA ad aS h ++ [(ad h.length, px_trE dA ad aS e)] := by
  simp [px_ws, List.zipIdx_append]
/-- the locals: a store of one slot, of two; a read -/
def px_st1 (L : px_Ls) (i : Nat) (v : Value) : px_Ls := (i, v) :: L.filter (fun q => !(q.1 == i) && !(q.1 + 1 == i && q.2.category == 2))
def px_st2 (L : px_Ls) (i : Nat) (v : Value) : px_Ls := (i, v) :: L.filter (fun q => !(q.1 == i) && (!(q.1 == i + 1) && !(q.1 + 1 == i && q.2.category == 2)))
def px_rd : px_Ls → Nat → Option Value
  | [], _ => none
  | q :: L, i => bif Nat.beq q.1 i then some q.2 else px_rd L i
theorem px_st1_tr (ad aS : Nat → Nat) (L : px_Ls) (i : Nat) (v : Value) : (i, px_tr ad aS v) :: (px_trL ad aS L).filter (fun q => !(q.1 == i) && !(q.1 + 1 == i && q.2.category == 2)) = px_trL ad aS (px_st1 L i v) := by
  simp only [px_trL, px_st1, List.map_cons, List.filter_map]
  congr 2
  apply List.filter_congr
  intro q _
  simp [Function.comp, px_cat]
theorem px_st2_tr (ad aS : Nat → Nat) (L : px_Ls) (i : Nat) (v : Value) : (i, px_tr ad aS v) :: (px_trL ad aS L).filter (fun q => !(q.1 == i) && (!(q.1 == i + 1) && !(q.1 + 1 == i && q.2.category == 2))) = px_trL ad aS (px_st2 L i v) := by
  simp only [px_trL, px_st2, List.map_cons, List.filter_map]
  congr 2
  apply List.filter_congr
  intro q _
  simp [Function.comp, px_cat]
theorem px_rd_mem {L : px_Ls} {i : Nat} {v : Value} (h : px_rd L i = some v) : (i, v) ∈ L := by
  induction L with
  | nil => cases h
  | cons q L ih =>
    unfold px_rd at h
    cases hq : Nat.beq q.1 i with
    | true =>
      rw [hq] at h
      have e1 := Nat.eq_of_beq_eq_true hq
      have e2 : q.2 = v := Option.some.inj h
      rw [← e1, ← e2]
      exact List.mem_cons_self
    | false =>
      rw [hq] at h
      exact List.mem_cons_of_mem _ (ih h)
theorem px_rd_tr {ad aS : Nat → Nat} {ls : Array Slot} {nL : Nat} {L : px_Ls} {i : Nat} {v : Value} (hl : lv_has ls nL (px_trL ad aS L)) (h : px_rd L i = some v) : ls[i]? = some (.val (px_tr ad aS v)) :=
  hl.2.2 (i, px_tr ad aS v) (List.mem_map.mpr ⟨(i, v), px_rd_mem h, rfl⟩)
/-- the judgement: whatever heap holds the pure one, the machine comes to Q -/
def px_W (p : Program) (l : Launch) (e : Env) (R : Room) (s : State) (m : MethodId) (args : Array Value) (below : List Frame) (meth : Method) (c : Code) (D : va_G) (cl : List vw_C) (dA : Nat → ClassId) (aS : Nat → Nat) (A : Nat → Prop) (nL : Nat) (Q : State → Prop) (ad : Nat → Nat) (pc : Nat) (L : px_Ls) (st : List Value) (h : px_H) (cn sn : Nat) : Prop :=
  ∀ (H : Heap) (ls : Array Slot) (locs : List Loc), va_P D cl (px_ws dA ad aS h) H → va_D A (px_ws dA ad aS h) → va_S A s.heap H locs → lv_has ls nL (px_trL ad aS L) → W p l e R s m args below meth c H locs cn sn Q (F0 m pc ls (st.map (px_tr ad aS)))
/-- steps that touch stack and locals alone: tg is the place that a jump names -/
abbrev px_R : Type := Option (Nat × px_Ls × List Value)
def px_ii (n : Nat) (L : px_Ls) (st : List Value) (f : Int32 → Int32 → Value) : px_R := match st with
  | .int y :: .int x :: r => some (n, L, f x y :: r)
  | _ => none
def px_ll (n : Nat) (L : px_Ls) (st : List Value) (f : Int64 → Int64 → Value) : px_R := match st with
  | .long y :: .long x :: r => some (n, L, f x y :: r)
  | _ => none
def px_li (n : Nat) (L : px_Ls) (st : List Value) (f : Int64 → Int32 → Value) : px_R := match st with
  | .int y :: .long x :: r => some (n, L, f x y :: r)
  | _ => none
def px_i (n : Nat) (L : px_Ls) (st : List Value) (f : Int32 → Value) : px_R := match st with
  | .int x :: r => some (n, L, f x :: r)
  | _ => none
def px_div (n : Nat) (L : px_Ls) (st : List Value) (f : Int32 → Int32 → Value) : px_R := match st with
  | .int y :: .int x :: r => if y = 0 then none else some (n, L, f x y :: r)
  | _ => none
def px_ldi (n : Nat) (L : px_Ls) (st : List Value) (i : Nat) : px_R := match px_rd L i with
  | some (.int x) => some (n, L, .int x :: st)
  | _ => none
def px_ldl (n : Nat) (L : px_Ls) (st : List Value) (i : Nat) : px_R := match px_rd L i with
  | some (.long x) => some (n, L, .long x :: st)
  | _ => none
def px_lda (n : Nat) (L : px_Ls) (st : List Value) (i : Nat) : px_R := match px_rd L i with
  | some (.ref x) => some (n, L, .ref x :: st)
  | some (.float x) => some (n, L, .float x :: st)
  | some .null => some (n, L, .null :: st)
  | _ => none
def px_sti (nL n : Nat) (L : px_Ls) (st : List Value) (i : Nat) : px_R := match st with
  | .int x :: r => bif Nat.blt i nL then some (n, px_st1 L i (.int x), r) else none
  | _ => none
def px_stl (nL n : Nat) (L : px_Ls) (st : List Value) (i : Nat) : px_R := match st with
  | .long x :: r => bif Nat.blt (i + 1) nL then some (n, px_st2 L i (.long x), r) else none
  | _ => none
def px_sta (nL n : Nat) (L : px_Ls) (st : List Value) (i : Nat) : px_R := match st with
  | .ref x :: r => bif Nat.blt i nL then some (n, px_st1 L i (.ref x), r) else none
  | .null :: r => bif Nat.blt i nL then some (n, px_st1 L i .null, r) else none
  | .float x :: r => bif Nat.blt i nL then some (n, px_st1 L i (.float x), r) else none
  | _ => none
def px_inc (nL n : Nat) (L : px_Ls) (st : List Value) (i : Nat) (d : Int32) : px_R := match px_rd L i with
  | some (.int x) => bif Nat.blt i nL then some (n, px_st1 L i (.int (x + d)), st) else none
  | _ => none
def px_test (k : Jvm.ClassFile.Cond) (x y : Int32) : Bool := match k with
  | .eq => decide (x = y)
  | .ne => !decide (x = y)
  | .lt => decide (x < y)
  | .ge => decide (y ≤ x)
  | .gt => decide (y < x)
  | .le => decide (x ≤ y)
def px_tab (L : px_Ls) (pc : Nat) (dflt lo hi : Int) (offs : Array Int) (x : Int32) (r : List Value) : px_R :=
  if x.toInt < lo ∨ hi < x.toInt then (if 0 ≤ (pc : Int) + dflt then some (((pc : Int) + dflt).toNat, L, r) else none)
  else match offs[(x.toInt - lo).toNat]? with
    | some off => if 0 ≤ (pc : Int) + off then some (((pc : Int) + off).toNat, L, r) else none
    | none => none
def px_look (L : px_Ls) (pc : Nat) (dflt : Int) (ps : Array (Int × Int)) (x : Int32) (r : List Value) : px_R :=
  if 0 ≤ (pc : Int) + Op.lookupswitch.offset ps.toList dflt x.toInt then some (((pc : Int) + Op.lookupswitch.offset ps.toList dflt x.toInt).toNat, L, r) else none
def px_L (nL : Nat) (i : Instr) (tg pc : Nat) (L : px_Ls) (st : List Value) : px_R := match i with
  | .iconst n => some (pc + 1, L, .int (Int32.ofInt n) :: st)
  | .bipush n => some (pc + 2, L, .int (Int8.ofInt n).toInt32 :: st)
  | .sipush n => some (pc + 3, L, .int (Int16.ofInt n).toInt32 :: st)
  | .lconst n => some (pc + 1, L, .long (Int64.ofNat n) :: st)
  | .aconst_null => some (pc + 1, L, .null :: st)
  | .iload_n k => px_ldi (pc + 1) L st k
  | .iload k => px_ldi (pc + 2) L st k
  | .lload_n k => px_ldl (pc + 1) L st k
  | .lload k => px_ldl (pc + 2) L st k
  | .aload_n k => px_lda (pc + 1) L st k
  | .aload k => px_lda (pc + 2) L st k
  | .istore_n k => px_sti nL (pc + 1) L st k
  | .istore k => px_sti nL (pc + 2) L st k
  | .lstore_n k => px_stl nL (pc + 1) L st k
  | .lstore k => px_stl nL (pc + 2) L st k
  | .astore_n k => px_sta nL (pc + 1) L st k
  | .astore k => px_sta nL (pc + 2) L st k
  | .iinc k d => px_inc nL (pc + 3) L st k (Int32.ofInt d)
  | .iadd => px_ii (pc + 1) L st (fun x y => .int (x + y))
  | .isub => px_ii (pc + 1) L st (fun x y => .int (x - y))
  | .imul => px_ii (pc + 1) L st (fun x y => .int (x * y))
  | .iand => px_ii (pc + 1) L st (fun x y => .int (x &&& y))
  | .ior => px_ii (pc + 1) L st (fun x y => .int (x ||| y))
  | .ixor => px_ii (pc + 1) L st (fun x y => .int (x ^^^ y))
  | .ishl => px_ii (pc + 1) L st (fun x y => .int (x <<< (y &&& 31)))
  | .ishr => px_ii (pc + 1) L st (fun x y => .int (x >>> (y &&& 31)))
  | .iushr => px_ii (pc + 1) L st (fun x y => .int (x.toUInt32 >>> (y.toUInt32 &&& Int32.toUInt32 31)).toInt32)
  | .idiv => px_div (pc + 1) L st (fun x y => .int (x / y))
  | .irem => px_div (pc + 1) L st (fun x y => .int (x - x / y * y))
  | .ineg => px_i (pc + 1) L st (fun x => .int (0 - x))
  | .land => px_ll (pc + 1) L st (fun x y => .long (x &&& y))
  | .lor => px_ll (pc + 1) L st (fun x y => .long (x ||| y))
  | .lcmp => px_ll (pc + 1) L st (fun x y => .int (lg_cmp x y))
  | .lushr => px_li (pc + 1) L st (fun x y => .long (x.toUInt64 >>> (y.toInt64.toUInt64 &&& Int64.toUInt64 63)).toInt64)
  | .lshl => px_li (pc + 1) L st (fun x y => .long (x <<< (y.toInt64 &&& 63)))
  | .i2l => px_i (pc + 1) L st (fun x => .long x.toInt64)
  | .i2b => px_i (pc + 1) L st (fun x => .int x.toInt8.toInt32)
  | .dup => (match st with
    | v :: r => bif Nat.beq v.category 1 then some (pc + 1, L, v :: v :: r) else none
    | _ => none)
  | .dup2 => (match st with
    | v :: w :: r => bif (Nat.beq v.category 1 && Nat.beq w.category 1) then some (pc + 1, L, v :: w :: v :: w :: r) else none
    | _ => none)
  | .pop => (match st with
    | v :: r => bif Nat.beq v.category 1 then some (pc + 1, L, r) else none
    | _ => none)
  | .goto _ => some (tg, L, st)
  | .ifCond k _ => (match st with
    | .int x :: r => some (bif px_test k x 0 then tg else pc + 3, L, r)
    | _ => none)
  | .if_icmp k _ => (match st with
    | .int y :: .int x :: r => some (bif px_test k x y then tg else pc + 3, L, r)
    | _ => none)
  | .ifnull _ => (match st with
    | .null :: r => some (tg, L, r)
    | .ref _ :: r => some (pc + 3, L, r)
    | _ => none)
  | .ifnonnull _ => (match st with
    | .null :: r => some (pc + 3, L, r)
    | .ref _ :: r => some (tg, L, r)
    | _ => none)
  | .tableswitch d lo hi offs => (match st with
    | .int x :: r => px_tab L pc d lo hi offs x r
    | _ => none)
  | .lookupswitch d ps => (match st with
    | .int x :: r => px_look L pc d ps x r
    | _ => none)
  | _ => none
/-- what the table's row of such a step must be right in: its length, its jump -/
def px_okL (i : Instr) (len tg pc : Nat) : Bool := match i with
  | .iconst _ | .lconst _ | .aconst_null | .iload_n _ | .lload_n _ | .aload_n _ | .istore_n _ | .lstore_n _ | .astore_n _ => Nat.beq len 1
  | .bipush _ | .iload _ | .lload _ | .aload _ | .istore _ | .lstore _ | .astore _ => Nat.beq len 2
  | .sipush _ | .iinc _ _ => Nat.beq len 3
  | .iadd | .isub | .imul | .iand | .ior | .ixor | .ishl | .ishr | .iushr | .idiv | .irem | .ineg | .land | .lor | .lcmp | .lushr | .lshl | .i2l | .i2b | .dup | .dup2 | .pop => Nat.beq len 1
  | .goto off | .ifCond _ off | .if_icmp _ off | .ifnull off | .ifnonnull off => Nat.beq len 3 && decide ((pc : Int) + off = (tg : Int))
  | .tableswitch _ _ _ _ => true
  | .lookupswitch _ ps => (ps.toList.zip (ps.toList.drop 1)).all (fun (a, next) => a.1 < next.1)
  | _ => true
