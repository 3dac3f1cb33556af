/-! ===== String.length and charAt of constant texts, over the JDK's own bytes ===== -/
def px_siQ (v : Int32) : Array Value → State → Outcome → State → Prop := fun _ st o t => ∃ r : Int32, o = .returned (some (.int r)) ∧ r = v ∧ t.heap = st.heap
def px_svQ : Array Value → State → Outcome → State → Prop := fun _ st o t => o = .returned none ∧ t.heap = st.heap
def px_none : Addr → Prop := fun _ => False
/-- what is asked of one text: its class, its coder, its bytes; the two statics -/
def px_Sq (n : Nat) (bs : List Int32) (q v : Nat) (U : State) (H : Heap) : Prop :=
  va_O "java/lang/String" q px_none U H ∧ va_OF "java/lang/String" "coder" "B" (.int 0) q px_none U H ∧ va_OF "java/lang/String" "value" "[B" (.ref v) q px_none U H ∧ va_T .byte v n (fun j => .int (bs.getD j 0)) px_none U H ∧ va_Z "java/lang/String" "COMPACT_STRINGS" "Z" (.int 1) px_none U H ∧ va_Zq "jdk/internal/util/Preconditions" "SIOOBE_FORMATTER" "Ljava/util/function/BiFunction;" px_none U H
theorem px_Sq.moved {n : Nat} {bs : List Int32} {q v : Nat} {u U : State} {H : Heap} (hvm : u.vm.Alike U.vm) (h : px_Sq n bs q v u H) : px_Sq n bs q v U H :=
  ⟨va_O.moved hvm h.1, va_OF.moved hvm h.2.1, va_OF.moved hvm h.2.2.1, va_T.moved hvm h.2.2.2.1, va_Z.moved hvm h.2.2.2.2.1, va_Zq.moved hvm h.2.2.2.2.2⟩
theorem px_Sq_blind (n : Nat) (bs : List Int32) (q v : Nat) (av : List Value) : FrameBlind (va_Pc av (fun U => px_Sq n bs q v U U.heap)) := by
  intro a U g mk h
  exact ⟨h.1, px_Sq.moved (u := U) (U := U.calling g mk a) (Vm.Alike.refl U.vm) h.2⟩
section PXT0
variable {p : Program} {l : Launch} {e : Env} {R : Room} {s : State} {m : MethodId} {args : Array Value} {below : List Frame} {meth : Method} {c : Code} {H : Heap} {locs : List Loc} {cells slots : Nat} {Q : State → Prop} {pc : Nat} {ls : Array Slot} {st0 rest : List Value} {a : Array Value} {v : Int32}
theorem px_si (hr : va_Run p l e R s m args below meth c H locs cells slots 0 0 (F0 m pc ls st0) rest (px_siQ v a) px_none) (K : W p l e R s m args below meth c H locs cells slots Q (F0 m (pc + 3) ls (.int v :: rest))) : W p l e R s m args below meth c H locs cells slots Q (F0 m pc ls st0) := by
  intro T hT X
  obtain ⟨v', st₀, t, T', L, h0, X', hL, e1, e2, ⟨r, ho, hr1, hh⟩, st⟩ := hr T hT X
  cases ho
  subst hr1
  have hL0 : L = [] := by
    cases L with
    | nil => rfl
    | cons z zs => exact (hL z List.mem_cons_self).elim
  subst hL0
  rw [List.append_nil] at X'
  obtain ⟨t2, a1, b1⟩ := K T' (by rw [e1, hh, h0]) X'
  exact ⟨t2, st t2 a1, b1⟩
theorem px_sv (hr : va_Run p l e R s m args below meth c H locs cells slots 0 0 (F0 m pc ls st0) rest (px_svQ a) px_none) (K : W p l e R s m args below meth c H locs cells slots Q (F0 m (pc + 3) ls rest)) : W p l e R s m args below meth c H locs cells slots Q (F0 m pc ls st0) := by
  intro T hT X
  obtain ⟨v', st₀, t, T', L, h0, X', hL, e1, e2, ⟨ho, hh⟩, st⟩ := hr T hT X
  cases ho
  have hL0 : L = [] := by
    cases L with
    | nil => rfl
    | cons z zs => exact (hL z List.mem_cons_self).elim
  subst hL0
  rw [List.append_nil] at X'
  obtain ⟨t2, a1, b1⟩ := K T' (by rw [e1, hh, h0]) X'
  exact ⟨t2, st t2 a1, b1⟩
end PXT0
def px_ws1 (w : Cond) : List Cond := w :: kt_T
theorem kt_good : ∀ w ∈ kt_T, goodWord w = true := fun w h => (List.mem_filter.mp h).2
def y_cod : MethodName := ⟨"java/lang/String", "coder", "()B"⟩
def y_lat : MethodName := ⟨"java/lang/String", "isLatin1", "()Z"⟩
def y_pi : MethodName := ⟨"jdk/internal/util/Preconditions", "checkIndex", "(IILjava/util/function/BiFunction;)I"⟩
def y_ci : MethodName := ⟨"java/lang/String", "checkIndex", "(II)V"⟩
def y_lc : MethodName := ⟨"java/lang/StringLatin1", "charAt", "([BI)C"⟩
def px_r0 (f n : Nat) : Room := { frames := f, cells := 0, slots := 0, locals := n }
section PXT1
variable {l : Launch} {n : Nat} {bs : List Int32} {q v : Nat}
theorem c_cod : Met l y_cod (px_ws1 (.code y_cod cJ0_coder_7d493 1 (some .byte))) (px_r0 0 0) (va_Pc [.ref q] (fun U => px_Sq n bs q v U U.heap)) (px_siQ 0) 0 0 px_none := by
  refine Met.ofW (cc := cJ0_coder_7d493) (maxL := 1) (ret := some .byte) (by decide) rfl ?_
  intro p e s m args below meth c s₁ B hml hv
  obtain ⟨rfl, h1, h2, h3, h4, h5, h6⟩ := hv
  have hx := B.exec
  have hb := B.bytes
  have hr := B.returns
  have hts := atoms_spec (ws := px_ws1 (.code y_cod cJ0_coder_7d493 1 (some .byte))) B.pre
  have hown : s.vm.findClass "java/lang/String" = some m.cls := findClass_of_methodNamed B.named
  have hlocks := B.notSynchronized
  have hS : va_S px_none s.heap s.heap [] := va_S.rf
  have hl := lv_entry ([.ref q]) (n := 1) (Nat.le_of_ble_eq_true rfl)
  rw [lg_entry_eq]
  generalize (lg_sl ([.ref q]) ++ List.replicate (1 - (lg_sl ([.ref q])).length) Slot.unset).toArray = ls at hl ⊢
  refine va_gets hx hb h5 hS hown (hts _ (List.mem_cons_of_mem _ ks_cmp_f)) (fun _ z => z) (by decide +kernel : decode cJ0_coder_7d493 0 = .ok (.getstatic 38, 3)) ?_
  refine lv_if_eq hx hb (tgt := 13) (by decide +kernel : decode cJ0_coder_7d493 3 = .ok (.ifCond .eq 10, 3)) (by decide) (fun z => absurd z (by decide)) (fun _ => ?_)
  refine lv_aload_n (i := 0) hx hb (by decide +kernel : decode cJ0_coder_7d493 6 = .ok (.aload_n 0, 1)) rfl (lv_at hl 0 rfl) ?_
  refine vk_getf hx hb h2 hS hown (hts _ (List.mem_cons_of_mem _ ks_cof_f)) (fun _ z => z) (by decide +kernel : decode cJ0_coder_7d493 7 = .ok (.getfield 15, 3)) ?_
  refine lv_goto hx hb (tgt := 14) (by decide +kernel : decode cJ0_coder_7d493 10 = .ok (.goto 4, 3)) (by decide) ?_
  exact W.zret hx hb hr (by decide) (fun t ht hW => ⟨0, rfl, rfl, ht⟩) (fun q h => by cases h) (by decide +kernel : decode cJ0_coder_7d493 14 = .ok (.ireturn, 1))
theorem c_lat : Met l y_lat (px_ws1 (.code y_lat cJ0_isLatin1_aae02 1 (some .boolean))) (px_r0 0 0) (va_Pc [.ref q] (fun U => px_Sq n bs q v U U.heap)) (px_siQ 1) 0 0 px_none := by
  refine Met.ofW (cc := cJ0_isLatin1_aae02) (maxL := 1) (ret := some .boolean) (by decide) rfl ?_
  intro p e s m args below meth c s₁ B hml hv
  obtain ⟨rfl, h1, h2, h3, h4, h5, h6⟩ := hv
  have hx := B.exec
  have hb := B.bytes
  have hr := B.returns
  have hts := atoms_spec (ws := px_ws1 (.code y_lat cJ0_isLatin1_aae02 1 (some .boolean))) B.pre
  have hown : s.vm.findClass "java/lang/String" = some m.cls := findClass_of_methodNamed B.named
  have hlocks := B.notSynchronized
  have hS : va_S px_none s.heap s.heap [] := va_S.rf
  have hl := lv_entry ([.ref q]) (n := 1) (Nat.le_of_ble_eq_true rfl)
  rw [lg_entry_eq]
  generalize (lg_sl ([.ref q]) ++ List.replicate (1 - (lg_sl ([.ref q])).length) Slot.unset).toArray = ls at hl ⊢
  refine va_gets hx hb h5 hS hown (hts _ (List.mem_cons_of_mem _ ks_cmp_f)) (fun _ z => z) (by decide +kernel : decode cJ0_isLatin1_aae02 0 = .ok (.getstatic 38, 3)) ?_
  refine lv_if_eq hx hb (tgt := 17) (by decide +kernel : decode cJ0_isLatin1_aae02 3 = .ok (.ifCond .eq 14, 3)) (by decide) (fun z => absurd z (by decide)) (fun _ => ?_)
  refine lv_aload_n (i := 0) hx hb (by decide +kernel : decode cJ0_isLatin1_aae02 6 = .ok (.aload_n 0, 1)) rfl (lv_at hl 0 rfl) ?_
  refine vk_getf hx hb h2 hS hown (hts _ (List.mem_cons_of_mem _ ks_cof_f)) (fun _ z => z) (by decide +kernel : decode cJ0_isLatin1_aae02 7 = .ok (.getfield 15, 3)) ?_
  refine lv_if_ne hx hb (tgt := 17) (by decide +kernel : decode cJ0_isLatin1_aae02 10 = .ok (.ifCond .ne 7, 3)) (by decide) (fun z => absurd rfl z) (fun _ => ?_)
  refine lv_iconst (v := 1) hx hb (by decide +kernel : decode cJ0_isLatin1_aae02 13 = .ok (.iconst 1, 1)) (by decide) ?_
  refine lv_goto hx hb (tgt := 18) (by decide +kernel : decode cJ0_isLatin1_aae02 14 = .ok (.goto 4, 3)) (by decide) ?_
  exact W.zret hx hb hr (by decide) (fun t ht hW => ⟨1, rfl, rfl, ht⟩) (fun q h => by cases h) (by decide +kernel : decode cJ0_isLatin1_aae02 18 = .ok (.ireturn, 1))
/-- Preconditions.checkIndex of an index that is within -/
theorem c_pi {i k : Int32} {f : Value} (hf : f.category = 1) (h0 : ¬ i < 0) (hk : i < k) : Met l y_pi (px_ws1 (.code y_pi cJ3_checkIndex_8e157 3 (some .int))) (px_r0 0 0) (va_Pc [.int i, .int k, f] (fun _ => True)) (px_siQ i) 0 0 px_none := by
  refine Met.ofW (cc := cJ3_checkIndex_8e157) (maxL := 3) (ret := some .int) (by decide) rfl ?_
  intro p e s m args below meth c s₁ B hml hv
  obtain ⟨rfl, -⟩ := hv
  have hx := B.exec
  have hb := B.bytes
  have hr := B.returns
  have hts := atoms_spec (ws := px_ws1 (.code y_pi cJ3_checkIndex_8e157 3 (some .int))) B.pre
  have htT : ∀ w ∈ kt_T, w.before ([.int i, .int k, f] : List Value).toArray s = true := fun w hw => hts w (List.mem_cons_of_mem _ hw)
  have hown : s.vm.findClass "jdk/internal/util/Preconditions" = some m.cls := findClass_of_methodNamed B.named
  have hlocks := B.notSynchronized
  have hS : va_S px_none s.heap s.heap [] := va_S.rf
  have hl := lv_entry ([.int i, .int k, f]) (n := 3) (by rw [px_sl_len]; show 1 + (1 + (f.category + 0)) ≤ 3; omega)
  rw [lg_entry_eq]
  generalize (lg_sl ([.int i, .int k, f]) ++ List.replicate (3 - (lg_sl ([.int i, .int k, f])).length) Slot.unset).toArray = ls at hl ⊢
  refine lv_iload_n (i := 0) hx hb (by decide +kernel : decode cJ3_checkIndex_8e157 0 = .ok (.iload_n 0, 1)) rfl (lv_at hl 0 rfl) ?_
  refine lv_if_lt hx hb (tgt := 9) (by decide +kernel : decode cJ3_checkIndex_8e157 1 = .ok (.ifCond .lt 8, 3)) (by decide) (fun z => absurd z h0) (fun _ => ?_)
  refine lv_iload_n (i := 0) hx hb (by decide +kernel : decode cJ3_checkIndex_8e157 4 = .ok (.iload_n 0, 1)) rfl (lv_at hl 0 rfl) ?_
  refine lv_iload_n (i := 1) hx hb (by decide +kernel : decode cJ3_checkIndex_8e157 5 = .ok (.iload_n 1, 1)) rfl (lv_at hl 1 rfl) ?_
  refine lv_icmp_lt hx hb (tgt := 16) (by decide +kernel : decode cJ3_checkIndex_8e157 6 = .ok (.if_icmp .lt 10, 3)) (by decide) (fun _ => ?_) (fun z => absurd hk z)
  refine lv_iload_n (i := 0) hx hb (by decide +kernel : decode cJ3_checkIndex_8e157 16 = .ok (.iload_n 0, 1)) rfl (lv_at hl 0 rfl) ?_
  exact W.zret hx hb hr (vp_nar_int i) (fun t ht hW => ⟨i, rfl, rfl, ht⟩) (fun q h => by cases h) (by decide +kernel : decode cJ3_checkIndex_8e157 17 = .ok (.ireturn, 1))
theorem c_ci {i k : Int32} (h0 : ¬ i < 0) (hk : i < k) : Met l y_ci (px_ws1 (.code y_ci cJ0_checkIndex_df160 2 none)) (px_r0 1 22) (va_Pc [.int i, .int k] (fun U => va_Zq "jdk/internal/util/Preconditions" "SIOOBE_FORMATTER" "Ljava/util/function/BiFunction;" px_none U U.heap)) px_svQ 0 0 px_none := by
  refine Met.ofW (cc := cJ0_checkIndex_df160) (maxL := 2) (ret := none) (by decide) rfl ?_
  intro p e s m args below meth c s₁ B hml hv
  obtain ⟨rfl, hz⟩ := hv
  have hx := B.exec
  have hb := B.bytes
  have hr := B.returns
  have hts := atoms_spec (ws := px_ws1 (.code y_ci cJ0_checkIndex_df160 2 none)) B.pre
  have htT : ∀ w ∈ kt_T, w.before ([.int i, .int k] : List Value).toArray s = true := fun w hw => hts w (List.mem_cons_of_mem _ hw)
  have hown : s.vm.findClass "java/lang/String" = some m.cls := findClass_of_methodNamed B.named
  have hlocks := B.notSynchronized
  have hS : va_S px_none s.heap s.heap [] := va_S.rf
  have hl := lv_entry ([.int i, .int k]) (n := 2) (by exact Nat.le_of_ble_eq_true rfl)
  rw [lg_entry_eq]
  generalize (lg_sl ([.int i, .int k]) ++ List.replicate (2 - (lg_sl ([.int i, .int k])).length) Slot.unset).toArray = ls at hl ⊢
  refine lv_iload_n (i := 0) hx hb (by decide +kernel : decode cJ0_checkIndex_df160 0 = .ok (.iload_n 0, 1)) rfl (lv_at hl 0 rfl) ?_
  refine lv_iload_n (i := 1) hx hb (by decide +kernel : decode cJ0_checkIndex_df160 1 = .ok (.iload_n 1, 1)) rfl (lv_at hl 1 rfl) ?_
  rcases hz with hz | ⟨t0, hz⟩
  all_goals refine va_gets hx hb hz hS hown (htT _ ks_fmt_f) (fun _ z => z) (by decide +kernel : decode cJ0_checkIndex_df160 2 = .ok (.getstatic 1053, 3)) ?_
  · refine px_si (va_runS (As := [.int i, .int k, .null]) (rest := []) (n := 3) ⟨hx, hb, hml, hown, htT⟩ (c_pi (f := .null) rfl h0 hk) ⟨callB_of 3 htT (px_goodIn kt_good ks_pi_c) rfl rfl rfl (htT _ ks_P_n) (htT _ ks_pi_l) ⟨by decide, by decide, by decide +kernel⟩ ⟨by decide, by decide⟩, htT _ ks_pi_t⟩ ⟨fun a U g mk z => z, fun U _ _ => ⟨rfl, trivial⟩⟩ rfl rfl hl.1 rfl (lv_room (Nat.le_of_ble_eq_true rfl)) (by decide +kernel : decode cJ0_checkIndex_df160 5 = .ok (.invokestatic 1059, 3)) ⟨by decide, by decide⟩) ?_
    refine lv_pop hx hb (by decide +kernel : decode cJ0_checkIndex_df160 8 = .ok (.pop, 1)) rfl ?_
    exact W.vret hx hb hr (fun t ht hW => ⟨rfl, ht⟩) (fun q h => by cases h) (by decide +kernel : decode cJ0_checkIndex_df160 9 = .ok (.return_, 1))
  · refine px_si (va_runS (As := [.int i, .int k, .ref t0]) (rest := []) (n := 3) ⟨hx, hb, hml, hown, htT⟩ (c_pi (f := .ref t0) rfl h0 hk) ⟨callB_of 3 htT (px_goodIn kt_good ks_pi_c) rfl rfl rfl (htT _ ks_P_n) (htT _ ks_pi_l) ⟨by decide, by decide, by decide +kernel⟩ ⟨by decide, by decide⟩, htT _ ks_pi_t⟩ ⟨fun a U g mk z => z, fun U _ _ => ⟨rfl, trivial⟩⟩ rfl rfl hl.1 rfl (lv_room (Nat.le_of_ble_eq_true rfl)) (by decide +kernel : decode cJ0_checkIndex_df160 5 = .ok (.invokestatic 1059, 3)) ⟨by decide, by decide⟩) ?_
    refine lv_pop hx hb (by decide +kernel : decode cJ0_checkIndex_df160 8 = .ok (.pop, 1)) rfl ?_
    exact W.vret hx hb hr (fun t ht hW => ⟨rfl, ht⟩) (fun q h => by cases h) (by decide +kernel : decode cJ0_checkIndex_df160 9 = .ok (.return_, 1))
/-- StringLatin1.charAt of an index that is within, of a byte that is a sign's number -/
theorem c_lc {i : Int32} (hi : px_out i n = false) (hn : n < 2 ^ 31) (hbs : ((bs.getD i.toNatClampNeg 0 &&& 255).toUInt32 % 65536).toInt32 = bs.getD i.toNatClampNeg 0) : Met l y_lc (px_ws1 (.code y_lc cJ1_charAt_3b067 2 (some .char))) (px_r0 2 43) (va_Pc [.ref v, .int i] (fun U => px_Sq n bs q v U U.heap)) (px_siQ (bs.getD i.toNatClampNeg 0)) 0 0 px_none := by
  have hin := px_in_ok hi
  have h0 : ¬ i < 0 := fun z => hin (Or.inl z)
  have hk : i < Int32.ofNat n := by
    obtain ⟨j, hj, rfl⟩ := vp_in_of hin hn
    exact nI_lt hj hn
  refine Met.ofW (cc := cJ1_charAt_3b067) (maxL := 2) (ret := some .char) (by decide) rfl ?_
  intro p e s m args below meth c s₁ B hml hv
  obtain ⟨rfl, h1, h2, h3, h4, h5, h6⟩ := hv
  have hx := B.exec
  have hb := B.bytes
  have hr := B.returns
  have hts := atoms_spec (ws := px_ws1 (.code y_lc cJ1_charAt_3b067 2 (some .char))) B.pre
  have htT : ∀ w ∈ kt_T, w.before ([.ref v, .int i] : List Value).toArray s = true := fun w hw => hts w (List.mem_cons_of_mem _ hw)
  have hown : s.vm.findClass "java/lang/StringLatin1" = some m.cls := findClass_of_methodNamed B.named
  have hlocks := B.notSynchronized
  have hS : va_S px_none s.heap s.heap [] := va_S.rf
  have hl := lv_entry ([.ref v, .int i]) (n := 2) (by exact Nat.le_of_ble_eq_true rfl)
  rw [lg_entry_eq]
  generalize (lg_sl ([.ref v, .int i]) ++ List.replicate (2 - (lg_sl ([.ref v, .int i])).length) Slot.unset).toArray = ls at hl ⊢
  refine lv_iload_n (i := 1) hx hb (by decide +kernel : decode cJ1_charAt_3b067 0 = .ok (.iload_n 1, 1)) rfl (lv_at hl 1 rfl) ?_
  refine lv_aload_n (i := 0) hx hb (by decide +kernel : decode cJ1_charAt_3b067 1 = .ok (.aload_n 0, 1)) rfl (lv_at hl 0 rfl) ?_
  refine va_tlen hx hb h4 hS rfl (by decide +kernel : decode cJ1_charAt_3b067 2 = .ok (.arraylength, 1)) ?_
  refine px_sv (va_runS (As := [.int i, .int (Int32.ofNat n)]) (rest := []) (n := 2) ⟨hx, hb, hml, hown, htT⟩ (c_ci h0 hk) ⟨callB_of 2 htT (px_goodIn kt_good ks_ci_c) rfl rfl rfl (htT _ ks_S_n) (htT _ ks_ci_l) ⟨by decide, by decide, by decide +kernel⟩ ⟨by decide, by decide⟩, htT _ ks_ci_t⟩ ⟨fun a U g mk z => ⟨z.1, va_Zq.moved (u := U) (U := U.calling g mk a) (Vm.Alike.refl U.vm) z.2⟩, fun U hU hW => ⟨rfl, by dsimp only; rw [hU]; exact va_Zq.moved hW.alike h6⟩⟩ rfl rfl hl.1 rfl (lv_room (Nat.le_of_ble_eq_true rfl)) (by decide +kernel : decode cJ1_charAt_3b067 3 = .ok (.invokestatic 9, 3)) ⟨by decide, by decide⟩) ?_
  refine lv_aload_n (i := 0) hx hb (by decide +kernel : decode cJ1_charAt_3b067 6 = .ok (.aload_n 0, 1)) rfl (lv_at hl 0 rfl) ?_
  refine lv_iload_n (i := 1) hx hb (by decide +kernel : decode cJ1_charAt_3b067 7 = .ok (.iload_n 1, 1)) rfl (lv_at hl 1 rfl) ?_
  refine va_tb hx hb h4 hS hin rfl (by decide +kernel : decode cJ1_charAt_3b067 8 = .ok (.baload, 1)) ?_
  refine lv_sipush (v := 255) hx hb (by decide +kernel : decode cJ1_charAt_3b067 9 = .ok (.sipush 255, 3)) (by decide) ?_
  refine lv_iand hx hb (by decide +kernel : decode cJ1_charAt_3b067 12 = .ok (.iand, 1)) ?_
  refine lv_i2c hx hb (by decide +kernel : decode cJ1_charAt_3b067 13 = .ok (.i2c, 1)) hbs ?_
  exact W.zret hx hb hr (by rw [← hbs]; exact pk_nc _) (fun t ht hW => ⟨_, rfl, rfl, ht⟩) (fun q h => by cases h) (by decide +kernel : decode cJ1_charAt_3b067 14 = .ok (.ireturn, 1))
theorem c_len : Met l px_lenN (px_ws1 (.code px_lenN cJ0_length_8abf5 1 (some .int))) (px_r0 1 20) (va_Pc [.ref q] (fun U => px_Sq n bs q v U U.heap)) (px_siQ (Int32.ofNat n)) 0 0 px_none := by
  refine Met.ofW (cc := cJ0_length_8abf5) (maxL := 1) (ret := some .int) (by decide) rfl ?_
  intro p e s m args below meth c s₁ B hml hv
  obtain ⟨rfl, h1, h2, h3, h4, h5, h6⟩ := hv
  have hx := B.exec
  have hb := B.bytes
  have hr := B.returns
  have hts := atoms_spec (ws := px_ws1 (.code px_lenN cJ0_length_8abf5 1 (some .int))) B.pre
  have htT : ∀ w ∈ kt_T, w.before ([.ref q] : List Value).toArray s = true := fun w hw => hts w (List.mem_cons_of_mem _ hw)
  have hown : s.vm.findClass "java/lang/String" = some m.cls := findClass_of_methodNamed B.named
  have hlocks := B.notSynchronized
  have hS : va_S px_none s.heap s.heap [] := va_S.rf
  have hl := lv_entry ([.ref q]) (n := 1) (by exact Nat.le_of_ble_eq_true rfl)
  rw [lg_entry_eq]
  generalize (lg_sl ([.ref q]) ++ List.replicate (1 - (lg_sl ([.ref q])).length) Slot.unset).toArray = ls at hl ⊢
  refine lv_aload_n (i := 0) hx hb (by decide +kernel : decode cJ0_length_8abf5 0 = .ok (.aload_n 0, 1)) rfl (lv_at hl 0 rfl) ?_
  refine vk_getf hx hb h3 hS hown (htT _ ks_val_f) (fun _ z => z) (by decide +kernel : decode cJ0_length_8abf5 1 = .ok (.getfield 9, 3)) ?_
  refine va_tlen hx hb h4 hS rfl (by decide +kernel : decode cJ0_length_8abf5 4 = .ok (.arraylength, 1)) ?_
  refine lv_aload_n (i := 0) hx hb (by decide +kernel : decode cJ0_length_8abf5 5 = .ok (.aload_n 0, 1)) rfl (lv_at hl 0 rfl) ?_
  refine px_si (va_runV (C := "java/lang/String") (b := q) (As := []) (rest := [.int (Int32.ofNat n)]) (n := 0) ⟨hx, hb, hml, hown, htT⟩ (c_cod (n := n) (bs := bs) (q := q) (v := v)) ⟨callB_of 0 htT (px_goodIn kt_good ks_cod_c) rfl rfl rfl (htT _ ks_S_n) (htT _ ks_cod_l) ⟨by decide, by decide, by decide +kernel⟩ ⟨by decide, by decide⟩, htT _ ks_cod_i, htT _ ks_cod_s⟩ ⟨px_Sq_blind n bs q v _, (by obtain ⟨cell, g1, g2, g3, -⟩ := h1; exact ⟨cell, g1, g2, g3⟩), fun U hU hW => ⟨rfl, by dsimp only; rw [hU]; exact px_Sq.moved hW.alike ⟨h1, h2, h3, h4, h5, h6⟩⟩⟩ rfl rfl hl.1 rfl (lv_room (Nat.le_of_ble_eq_true rfl)) (by decide +kernel : decode cJ0_length_8abf5 6 = .ok (.invokevirtual 335, 3)) ⟨by decide, by decide⟩) ?_
  refine lv_ishr hx hb (by decide +kernel : decode cJ0_length_8abf5 9 = .ok (.ishr, 1)) ?_
  have e1 : Int32.ofNat n >>> ((0 : Int32) &&& 31) = Int32.ofNat n := by
    rw [show ((0 : Int32) &&& 31) = 0 by decide]
    simp
  rw [e1]
  exact W.zret hx hb hr (vp_nar_int _) (fun t ht hW => ⟨_, rfl, rfl, ht⟩) (fun q h => by cases h) (by decide +kernel : decode cJ0_length_8abf5 10 = .ok (.ireturn, 1))
theorem c_chr {i : Int32} (hi : px_out i n = false) (hn : n < 2 ^ 31) (hbs : ((bs.getD i.toNatClampNeg 0 &&& 255).toUInt32 % 65536).toInt32 = bs.getD i.toNatClampNeg 0) : Met l px_chrN (px_ws1 (.code px_chrN cJ0_charAt_5068e 2 (some .char))) (px_r0 3 64) (va_Pc [.ref q, .int i] (fun U => px_Sq n bs q v U U.heap)) (px_siQ (bs.getD i.toNatClampNeg 0)) 0 0 px_none := by
  refine Met.ofW (cc := cJ0_charAt_5068e) (maxL := 2) (ret := some .char) (by decide) rfl ?_
  intro p e s m args below meth c s₁ B hml hv
  obtain ⟨rfl, h1, h2, h3, h4, h5, h6⟩ := hv
  have hx := B.exec
  have hb := B.bytes
  have hr := B.returns
  have hts := atoms_spec (ws := px_ws1 (.code px_chrN cJ0_charAt_5068e 2 (some .char))) B.pre
  have htT : ∀ w ∈ kt_T, w.before ([.ref q, .int i] : List Value).toArray s = true := fun w hw => hts w (List.mem_cons_of_mem _ hw)
  have hown : s.vm.findClass "java/lang/String" = some m.cls := findClass_of_methodNamed B.named
  have hlocks := B.notSynchronized
  have hS : va_S px_none s.heap s.heap [] := va_S.rf
  have hl := lv_entry ([.ref q, .int i]) (n := 2) (by exact Nat.le_of_ble_eq_true rfl)
  rw [lg_entry_eq]
  generalize (lg_sl ([.ref q, .int i]) ++ List.replicate (2 - (lg_sl ([.ref q, .int i])).length) Slot.unset).toArray = ls at hl ⊢
  refine lv_aload_n (i := 0) hx hb (by decide +kernel : decode cJ0_charAt_5068e 0 = .ok (.aload_n 0, 1)) rfl (lv_at hl 0 rfl) ?_
  refine px_si (va_runV (C := "java/lang/String") (b := q) (As := []) (rest := []) (n := 0) ⟨hx, hb, hml, hown, htT⟩ (c_lat (n := n) (bs := bs) (q := q) (v := v)) ⟨callB_of 0 htT (px_goodIn kt_good ks_lat_c) rfl rfl rfl (htT _ ks_S_n) (htT _ ks_lat_l) ⟨by decide, by decide, by decide +kernel⟩ ⟨by decide, by decide⟩, htT _ ks_lat_i, htT _ ks_lat_s⟩ ⟨px_Sq_blind n bs q v _, (by obtain ⟨cell, g1, g2, g3, -⟩ := h1; exact ⟨cell, g1, g2, g3⟩), fun U hU hW => ⟨rfl, by dsimp only; rw [hU]; exact px_Sq.moved hW.alike ⟨h1, h2, h3, h4, h5, h6⟩⟩⟩ rfl rfl hl.1 rfl (lv_room (Nat.le_of_ble_eq_true rfl)) (by decide +kernel : decode cJ0_charAt_5068e 1 = .ok (.invokevirtual 492, 3)) ⟨by decide, by decide⟩) ?_
  refine lv_if_eq hx hb (tgt := 16) (by decide +kernel : decode cJ0_charAt_5068e 4 = .ok (.ifCond .eq 12, 3)) (by decide) (fun z => absurd z (by decide)) (fun _ => ?_)
  refine lv_aload_n (i := 0) hx hb (by decide +kernel : decode cJ0_charAt_5068e 7 = .ok (.aload_n 0, 1)) rfl (lv_at hl 0 rfl) ?_
  refine vk_getf hx hb h3 hS hown (htT _ ks_val_f) (fun _ z => z) (by decide +kernel : decode cJ0_charAt_5068e 8 = .ok (.getfield 9, 3)) ?_
  refine lv_iload_n (i := 1) hx hb (by decide +kernel : decode cJ0_charAt_5068e 11 = .ok (.iload_n 1, 1)) rfl (lv_at hl 1 rfl) ?_
  refine px_si (va_runS (As := [.ref v, .int i]) (rest := []) (n := 2) ⟨hx, hb, hml, hown, htT⟩ (c_lc (n := n) (bs := bs) (q := q) (v := v) hi hn hbs) ⟨callB_of 2 htT (px_goodIn kt_good ks_lc_c) rfl rfl rfl (htT _ ks_L_n) (htT _ ks_lc_l) ⟨by decide, by decide, by decide +kernel⟩ ⟨by decide, by decide⟩, htT _ ks_lc_t⟩ ⟨px_Sq_blind n bs q v _, fun U hU hW => ⟨rfl, by dsimp only; rw [hU]; exact px_Sq.moved hW.alike ⟨h1, h2, h3, h4, h5, h6⟩⟩⟩ rfl rfl hl.1 rfl (lv_room (Nat.le_of_ble_eq_true rfl)) (by decide +kernel : decode cJ0_charAt_5068e 12 = .ok (.invokestatic 495, 3)) ⟨by decide, by decide⟩) ?_
  exact W.zret hx hb hr (by rw [← hbs]; exact pk_nc _) (fun t ht hW => ⟨_, rfl, rfl, ht⟩) (fun q h => by cases h) (by decide +kernel : decode cJ0_charAt_5068e 15 = .ok (.ireturn, 1))
end PXT1
/-- the texts' bytes are signs' numbers, and no text is long -/
def px_asc (X : px_X) : Prop := ∀ k, k < X.1.length → X.2.1.getD k 0 < 2 ^ 31 ∧ ∀ b ∈ X.2.2.1.getD k [], ((b &&& 255).toUInt32 % 65536).toInt32 = b
theorem px_hstr {l : Launch} {X : px_X} (hasc : px_asc X) : px_HStr l X kt_T vwCl kt_ft := by
  intro p e R s m args below meth c cc nL own ini D dA aS aV A Q ad h cn sn idx pc k L r F hRf hRl hRc hRs hsm hk hd
  obtain ⟨hx, hb, hml, hown, hts, hK, hA, hini, hcl, hst⟩ := F
  have hsm' := px_small_le hsm
  obtain ⟨hn, hbytes⟩ := hasc k.toNat hk
  have nar : ∀ q, px_none q → A q := fun q z => z.elim
  have sq : ∀ {H : Heap} {locs : List Loc}, va_S A s.heap H locs → px_Sq (X.2.1.getD k.toNat 0) (X.2.2.1.getD k.toNat []) (aS k.toNat) (aV k.toNat) s H := fun hS => by
    have g := (hst.kept hS.2.1).narrow nar
    obtain ⟨g1, -, -, -, -, -, -, -, -, -, g9, g10⟩ := g
    obtain ⟨f1, f2, f3, f4⟩ := g1 k.toNat hk
    exact ⟨f1, f2, f3, f4, g9, g10⟩
  refine ⟨fun w1 K => ?_, fun i hi w1 K => ?_⟩
  · intro H ls locs hP hD hS hl
    have hs := sq hS
    refine px_si (va_runV (C := "java/lang/String") (b := aS k.toNat) (As := []) (rest := r.map (px_tr ad aS)) (n := 0) ⟨hx, hb, hml, hown, hts⟩ (c_len (n := X.2.1.getD k.toNat 0) (bs := X.2.2.1.getD k.toNat []) (q := aS k.toNat) (v := aV k.toNat)) ⟨callB_of 0 hts (px_goodIn kt_good ks_len_c) rfl rfl rfl (hts _ ks_S_n) (hts _ w1) ⟨by decide, by decide, by decide +kernel⟩ ⟨(show 1 + 1 ≤ R.frames by omega), (show 8 + (1 + 11) + 20 ≤ R.locals by omega)⟩, hts _ ks_len_i, hts _ ks_len_s⟩
      ⟨px_Sq_blind _ _ _ _ _, (by obtain ⟨cell, g1, g2, g3, -⟩ := hs.1; exact ⟨cell, g1, g2, g3⟩), fun U hU hW => ⟨rfl, by dsimp only; rw [hU]; exact px_Sq.moved hW.alike hs⟩⟩ rfl rfl hl.1 rfl (lv_room (by rw [px_sum_tr]; exact hsm')) hd ⟨hRc, hRs⟩) (K H ls locs hP hD hS hl)
  · intro H ls locs hP hD hS hl
    have hs := sq hS
    have hbs : (((X.2.2.1.getD k.toNat []).getD i.toNatClampNeg 0 &&& 255).toUInt32 % 65536).toInt32 = (X.2.2.1.getD k.toNat []).getD i.toNatClampNeg 0 := by
      rw [List.getD_eq_getElem?_getD]
      cases hz : (X.2.2.1.getD k.toNat [])[i.toNatClampNeg]? with
      | none =>
        show (((0 : Int32) &&& 255).toUInt32 % 65536).toInt32 = 0
        decide
      | some b => exact hbytes b (List.mem_of_getElem? hz)
    refine px_si (va_runV (C := "java/lang/String") (b := aS k.toNat) (As := [.int i]) (rest := r.map (px_tr ad aS)) (n := 1) ⟨hx, hb, hml, hown, hts⟩ (c_chr (n := X.2.1.getD k.toNat 0) (bs := X.2.2.1.getD k.toNat []) (q := aS k.toNat) (v := aV k.toNat) hi hn hbs) ⟨callB_of 1 hts (px_goodIn kt_good ks_chr_c) rfl rfl rfl (hts _ ks_S_n) (hts _ w1) ⟨by decide, by decide, by decide +kernel⟩ ⟨(show 3 + 1 ≤ R.frames by omega), (show 8 + (2 + 11) + 64 ≤ R.locals by omega)⟩, hts _ ks_chr_i, hts _ ks_chr_s⟩
      ⟨px_Sq_blind _ _ _ _ _, (by obtain ⟨cell, g1, g2, g3, -⟩ := hs.1; exact ⟨cell, g1, g2, g3⟩), fun U hU hW => ⟨rfl, by dsimp only; rw [hU]; exact px_Sq.moved hW.alike hs⟩⟩ rfl rfl hl.1 rfl (lv_room (by rw [px_sum_tr]; exact hsm')) hd ⟨hRc, hRs⟩) (K H ls locs hP hD hS hl)
theorem kt_asc : px_asc kt_X := by unfold px_asc; decide +kernel
