/-! ===== the steps keep references within the heap ===== -/
theorem px_ok_int (k : Nat) (x : Int32) : px_okV k (.int x) := fun _ e => by cases e
theorem px_ok_long (k : Nat) (x : Int64) : px_okV k (.long x) := fun _ e => by cases e
theorem px_ok_float (k : Nat) (x : UInt32) : px_okV k (.float x) := fun _ e => by cases e
theorem px_ok_null (k : Nat) : px_okV k .null := fun _ e => by cases e
theorem px_okS_cons {k : Nat} {v : Value} {st : List Value} (h : px_okV k v) (hs : px_okS k st) : px_okS k (v :: st) := fun w hw => by
  rcases List.mem_cons.mp hw with rfl | hw
  · exact h
  · exact hs w hw
theorem px_okS_hd {k : Nat} {v : Value} {st : List Value} (h : px_okS k (v :: st)) : px_okV k v := h v List.mem_cons_self
theorem px_okS_tl {k : Nat} {v : Value} {st : List Value} (h : px_okS k (v :: st)) : px_okS k st := fun w hw => h w (List.mem_cons_of_mem _ hw)
theorem px_okS_nil {k : Nat} : px_okS k [] := fun _ h => by cases h
theorem px_okS_app {k : Nat} {a b : List Value} (ha : px_okS k a) (hb : px_okS k b) : px_okS k (a ++ b) := fun v hv => (List.mem_append.mp hv).elim (ha v) (hb v)
theorem px_okL_rd {k i : Nat} {L : px_Ls} {v : Value} (hL : px_okLs k L) (h : px_rd L i = some v) : px_okV k v := hL (i, v) (px_rd_mem h)
theorem px_okL_st1 {k i : Nat} {L : px_Ls} {v : Value} (hL : px_okLs k L) (hv : px_okV k v) : px_okLs k (px_st1 L i v) := fun q hq => by
  rcases List.mem_cons.mp hq with rfl | hq
  · exact hv
  · exact hL q (List.mem_filter.mp hq).1
theorem px_okL_st2 {k i : Nat} {L : px_Ls} {v : Value} (hL : px_okLs k L) (hv : px_okV k v) : px_okLs k (px_st2 L i v) := fun q hq => by
  rcases List.mem_cons.mp hq with rfl | hq
  · exact hv
  · exact hL q (List.mem_filter.mp hq).1
set_option maxHeartbeats 4000000 in
theorem px_L_ok {k nL : Nat} {i : Instr} {tg pc pc' : Nat} {L L' : px_Ls} {st st' : List Value} (hs : px_L nL i tg pc L st = some (pc', L', st')) (oS : px_okS k st) (oL : px_okLs k L) : px_okS k st' ∧ px_okLs k L' := by
  cases i
  case iconst n => cases hs; exact ⟨px_okS_cons (px_ok_int _ _) oS, oL⟩
  case bipush n => cases hs; exact ⟨px_okS_cons (px_ok_int _ _) oS, oL⟩
  case sipush n => cases hs; exact ⟨px_okS_cons (px_ok_int _ _) oS, oL⟩
  case lconst n => cases hs; exact ⟨px_okS_cons (px_ok_long _ _) oS, oL⟩
  case aconst_null => cases hs; exact ⟨px_okS_cons (px_ok_null _) oS, oL⟩
  case iload_n j => obtain ⟨x, h1, rfl, rfl, rfl⟩ := px_ldi_inv hs; exact ⟨px_okS_cons (px_ok_int _ _) oS, oL⟩
  case iload j => obtain ⟨x, h1, rfl, rfl, rfl⟩ := px_ldi_inv hs; exact ⟨px_okS_cons (px_ok_int _ _) oS, oL⟩
  case lload_n j => obtain ⟨x, h1, rfl, rfl, rfl⟩ := px_ldl_inv hs; exact ⟨px_okS_cons (px_ok_long _ _) oS, oL⟩
  case lload j => obtain ⟨x, h1, rfl, rfl, rfl⟩ := px_ldl_inv hs; exact ⟨px_okS_cons (px_ok_long _ _) oS, oL⟩
  case aload_n j => obtain ⟨v, h1, hv, rfl, rfl, rfl⟩ := px_lda_inv hs; exact ⟨px_okS_cons (px_okL_rd oL h1) oS, oL⟩
  case aload j => obtain ⟨v, h1, hv, rfl, rfl, rfl⟩ := px_lda_inv hs; exact ⟨px_okS_cons (px_okL_rd oL h1) oS, oL⟩
  case istore_n j => obtain ⟨x, r, rfl, h1, rfl, rfl, rfl⟩ := px_sti_inv hs; exact ⟨px_okS_tl oS, px_okL_st1 oL (px_ok_int _ _)⟩
  case istore j => obtain ⟨x, r, rfl, h1, rfl, rfl, rfl⟩ := px_sti_inv hs; exact ⟨px_okS_tl oS, px_okL_st1 oL (px_ok_int _ _)⟩
  case lstore_n j => obtain ⟨x, r, rfl, h1, rfl, rfl, rfl⟩ := px_stl_inv hs; exact ⟨px_okS_tl oS, px_okL_st2 oL (px_ok_long _ _)⟩
  case lstore j => obtain ⟨x, r, rfl, h1, rfl, rfl, rfl⟩ := px_stl_inv hs; exact ⟨px_okS_tl oS, px_okL_st2 oL (px_ok_long _ _)⟩
  case astore_n j => obtain ⟨v, r, rfl, hv, h1, rfl, rfl, rfl⟩ := px_sta_inv hs; exact ⟨px_okS_tl oS, px_okL_st1 oL (px_okS_hd oS)⟩
  case astore j => obtain ⟨v, r, rfl, hv, h1, rfl, rfl, rfl⟩ := px_sta_inv hs; exact ⟨px_okS_tl oS, px_okL_st1 oL (px_okS_hd oS)⟩
  case iinc j d => obtain ⟨x, h0, h1, rfl, rfl, rfl⟩ := px_inc_inv hs; exact ⟨oS, px_okL_st1 oL (px_ok_int _ _)⟩
  case iadd => obtain ⟨x, y, r, rfl, rfl, rfl, rfl⟩ := px_ii_inv hs; exact ⟨px_okS_cons (px_ok_int _ _) (px_okS_tl (px_okS_tl oS)), oL⟩
  case isub => obtain ⟨x, y, r, rfl, rfl, rfl, rfl⟩ := px_ii_inv hs; exact ⟨px_okS_cons (px_ok_int _ _) (px_okS_tl (px_okS_tl oS)), oL⟩
  case imul => obtain ⟨x, y, r, rfl, rfl, rfl, rfl⟩ := px_ii_inv hs; exact ⟨px_okS_cons (px_ok_int _ _) (px_okS_tl (px_okS_tl oS)), oL⟩
  case iand => obtain ⟨x, y, r, rfl, rfl, rfl, rfl⟩ := px_ii_inv hs; exact ⟨px_okS_cons (px_ok_int _ _) (px_okS_tl (px_okS_tl oS)), oL⟩
  case ior => obtain ⟨x, y, r, rfl, rfl, rfl, rfl⟩ := px_ii_inv hs; exact ⟨px_okS_cons (px_ok_int _ _) (px_okS_tl (px_okS_tl oS)), oL⟩
  case ixor => obtain ⟨x, y, r, rfl, rfl, rfl, rfl⟩ := px_ii_inv hs; exact ⟨px_okS_cons (px_ok_int _ _) (px_okS_tl (px_okS_tl oS)), oL⟩
  case ishl => obtain ⟨x, y, r, rfl, rfl, rfl, rfl⟩ := px_ii_inv hs; exact ⟨px_okS_cons (px_ok_int _ _) (px_okS_tl (px_okS_tl oS)), oL⟩
  case ishr => obtain ⟨x, y, r, rfl, rfl, rfl, rfl⟩ := px_ii_inv hs; exact ⟨px_okS_cons (px_ok_int _ _) (px_okS_tl (px_okS_tl oS)), oL⟩
  case iushr => obtain ⟨x, y, r, rfl, rfl, rfl, rfl⟩ := px_ii_inv hs; exact ⟨px_okS_cons (px_ok_int _ _) (px_okS_tl (px_okS_tl oS)), oL⟩
  case idiv => obtain ⟨x, y, r, rfl, hy, rfl, rfl, rfl⟩ := px_div_inv hs; exact ⟨px_okS_cons (px_ok_int _ _) (px_okS_tl (px_okS_tl oS)), oL⟩
  case irem => obtain ⟨x, y, r, rfl, hy, rfl, rfl, rfl⟩ := px_div_inv hs; exact ⟨px_okS_cons (px_ok_int _ _) (px_okS_tl (px_okS_tl oS)), oL⟩
  case ineg => obtain ⟨x, r, rfl, rfl, rfl, rfl⟩ := px_i_inv hs; exact ⟨px_okS_cons (px_ok_int _ _) (px_okS_tl oS), oL⟩
  case land => obtain ⟨x, y, r, rfl, rfl, rfl, rfl⟩ := px_ll_inv hs; exact ⟨px_okS_cons (px_ok_long _ _) (px_okS_tl (px_okS_tl oS)), oL⟩
  case lor => obtain ⟨x, y, r, rfl, rfl, rfl, rfl⟩ := px_ll_inv hs; exact ⟨px_okS_cons (px_ok_long _ _) (px_okS_tl (px_okS_tl oS)), oL⟩
  case lcmp => obtain ⟨x, y, r, rfl, rfl, rfl, rfl⟩ := px_ll_inv hs; exact ⟨px_okS_cons (px_ok_int _ _) (px_okS_tl (px_okS_tl oS)), oL⟩
  case lushr => obtain ⟨x, y, r, rfl, rfl, rfl, rfl⟩ := px_li_inv hs; exact ⟨px_okS_cons (px_ok_long _ _) (px_okS_tl (px_okS_tl oS)), oL⟩
  case lshl => obtain ⟨x, y, r, rfl, rfl, rfl, rfl⟩ := px_li_inv hs; exact ⟨px_okS_cons (px_ok_long _ _) (px_okS_tl (px_okS_tl oS)), oL⟩
  case i2l => obtain ⟨x, r, rfl, rfl, rfl, rfl⟩ := px_i_inv hs; exact ⟨px_okS_cons (px_ok_long _ _) (px_okS_tl oS), oL⟩
  case i2b => obtain ⟨x, r, rfl, rfl, rfl, rfl⟩ := px_i_inv hs; exact ⟨px_okS_cons (px_ok_int _ _) (px_okS_tl oS), oL⟩
  case dup =>
    cases st with
    | nil => cases hs
    | cons v r =>
      obtain ⟨h1, h2⟩ := px_cond_some hs
      cases h2
      exact ⟨px_okS_cons (px_okS_hd oS) oS, oL⟩
  case pop =>
    cases st with
    | nil => cases hs
    | cons v r =>
      obtain ⟨h1, h2⟩ := px_cond_some hs
      cases h2
      exact ⟨px_okS_tl oS, oL⟩
  case dup2 =>
    cases st with
    | nil => cases hs
    | cons v r =>
      cases r with
      | nil => cases hs
      | cons w r =>
        obtain ⟨h1, h2⟩ := px_cond_some hs
        cases h2
        exact ⟨px_okS_cons (px_okS_hd oS) (px_okS_cons (px_okS_hd (px_okS_tl oS)) oS), oL⟩
  case goto off => cases hs; exact ⟨oS, oL⟩
  case ifCond c off =>
    cases st with
    | nil => cases hs
    | cons v r =>
      cases v <;> first | (cases hs; done) | (cases hs; exact ⟨px_okS_tl oS, oL⟩)
  case if_icmp c off =>
    cases st with
    | nil => cases hs
    | cons v r =>
      cases v <;> first | (cases hs; done) | skip
      cases r with
      | nil => cases hs
      | cons v r =>
        cases v <;> first | (cases hs; done) | (cases hs; exact ⟨px_okS_tl (px_okS_tl oS), oL⟩)
  case ifnull off =>
    cases st with
    | nil => cases hs
    | cons v r =>
      cases v <;> first | (cases hs; done) | (cases hs; exact ⟨px_okS_tl oS, oL⟩)
  case ifnonnull off =>
    cases st with
    | nil => cases hs
    | cons v r =>
      cases v <;> first | (cases hs; done) | (cases hs; exact ⟨px_okS_tl oS, oL⟩)
  case tableswitch d lo hi offs =>
    cases st with
    | nil => cases hs
    | cons v r =>
      cases v <;> first | (cases hs; done) | skip
      rename_i x
      change px_tab L pc d lo hi offs x r = some (pc', L', st') at hs
      unfold px_tab at hs
      split at hs
      · split at hs
        · cases hs; exact ⟨px_okS_tl oS, oL⟩
        · cases hs
      · split at hs
        · split at hs
          · cases hs; exact ⟨px_okS_tl oS, oL⟩
          · cases hs
        · cases hs
  case lookupswitch d ps =>
    cases st with
    | nil => cases hs
    | cons v r =>
      cases v <;> first | (cases hs; done) | skip
      rename_i x
      change px_look L pc d ps x r = some (pc', L', st') at hs
      unfold px_look at hs
      split at hs
      · cases hs; exact ⟨px_okS_tl oS, oL⟩
      · cases hs
  all_goals cases hs
theorem px_okH_set {k q : Nat} {h : px_H} {e : px_E} (oH : px_okH k h) (oE : px_okE k e) : px_okH k (h.set q e) := fun x hx => by
  rcases List.mem_or_eq_of_mem_set hx with hx | rfl
  · exact oH x hx
  · exact oE
theorem px_okE_arr {k : Nat} {x : Nat × vp_A} : px_okE k (.inl x) := fun _ _ e => by cases e
theorem px_okH_fs {k q ci : Nat} {h : px_H} {fs : List Value} (oH : px_okH k h) (hq : h[q]? = some (.inr (ci, fs))) : px_okS k fs := oH _ (List.mem_of_getElem? hq) ci fs rfl
set_option maxHeartbeats 4000000 in
theorem px_M_ok {NS : Nat} {ft : Nat → Nat → FieldType} {scr : Option (Nat × (Nat → Int32))} {i : Instr} {a b pc pc' k : Nat} {kv : Value} {st st' : List Value} {h h' : px_H} (hkv : px_okV k kv) (hs : px_M NS ft scr i a b kv pc st h = some (pc', st', h')) (oS : px_okS k st) (oH : px_okH k h) : px_okS k st' ∧ px_okH k h' ∧ h'.length = h.length := by
  cases i
  case getfield idx =>
    change px_get a b pc st h = some (pc', st', h') at hs
    unfold px_get at hs
    split at hs
    · rename_i q r
      split at hs
      · rename_i ci fs hq
        cases hci : Nat.beq ci a with
        | false => rw [hci] at hs; cases hs
        | true =>
          rw [hci] at hs
          change (match fs[b]? with | some v => some (pc + 3, v :: r, h) | none => none) = some (pc', st', h') at hs
          split at hs
          · rename_i v hv
            cases hs
            exact ⟨px_okS_cons (px_okH_fs oH hq v (List.mem_of_getElem? hv)) (px_okS_tl oS), oH, rfl⟩
          · cases hs
      · cases hs
    · cases hs
  case putfield idx =>
    change px_put a b (ft a b) pc st h = some (pc', st', h') at hs
    unfold px_put at hs
    split at hs
    · rename_i v q r
      split at hs
      · rename_i ci fs hq
        obtain ⟨h1, h2⟩ := px_cond_some hs
        cases h2
        refine ⟨px_okS_tl (px_okS_tl oS), px_okH_set oH (fun ci' fs' e => ?_), List.length_set⟩
        cases e
        intro w hw
        rcases List.mem_or_eq_of_mem_set hw with hw | rfl
        · exact px_okH_fs oH hq w hw
        · exact px_okS_hd oS
      · cases hs
    · cases hs
  case iaload =>
    change px_ald scr pc st h = some (pc', st', h') at hs
    unfold px_ald at hs
    split at hs
    · split at hs
      · obtain ⟨h1, h2⟩ := px_noneif hs
        cases h2
        exact ⟨px_okS_cons (px_ok_int _ _) (px_okS_tl (px_okS_tl oS)), oH, rfl⟩
      · cases hs
    · split at hs
      · split at hs
        · obtain ⟨h1, h2⟩ := px_noneif hs
          cases h2
          exact ⟨px_okS_cons (px_ok_int _ _) (px_okS_tl (px_okS_tl oS)), oH, rfl⟩
        · cases hs
      · cases hs
    · cases hs
  case iastore =>
    change px_ast pc st h = some (pc', st', h') at hs
    unfold px_ast at hs
    split at hs
    · split at hs
      · obtain ⟨h1, h2⟩ := px_noneif hs
        cases h2
        exact ⟨px_okS_tl (px_okS_tl (px_okS_tl oS)), px_okH_set oH px_okE_arr, List.length_set⟩
      · cases hs
    · cases hs
  case laload =>
    change px_lld pc st h = some (pc', st', h') at hs
    unfold px_lld at hs
    split at hs
    · split at hs
      · obtain ⟨h1, h2⟩ := px_noneif hs
        cases h2
        exact ⟨px_okS_cons (px_ok_long _ _) (px_okS_tl (px_okS_tl oS)), oH, rfl⟩
      · cases hs
    · cases hs
  case lastore =>
    change px_lst pc st h = some (pc', st', h') at hs
    unfold px_lst at hs
    split at hs
    · split at hs
      · obtain ⟨h1, h2⟩ := px_noneif hs
        cases h2
        exact ⟨px_okS_tl (px_okS_tl (px_okS_tl oS)), px_okH_set oH px_okE_arr, List.length_set⟩
      · cases hs
    · cases hs
  case baload =>
    change px_bld pc st h = some (pc', st', h') at hs
    unfold px_bld at hs
    split at hs
    · split at hs
      · obtain ⟨h1, h2⟩ := px_noneif hs
        cases h2
        exact ⟨px_okS_cons (px_ok_int _ _) (px_okS_tl (px_okS_tl oS)), oH, rfl⟩
      · cases hs
    · cases hs
  case bastore =>
    change px_bst pc st h = some (pc', st', h') at hs
    unfold px_bst at hs
    split at hs
    · split at hs
      · obtain ⟨h1, h2⟩ := px_noneif hs
        cases h2
        exact ⟨px_okS_tl (px_okS_tl (px_okS_tl oS)), px_okH_set oH px_okE_arr, List.length_set⟩
      · cases hs
    · cases hs
  case aaload =>
    change px_rld pc st h = some (pc', st', h') at hs
    unfold px_rld at hs
    split at hs
    · split at hs
      · obtain ⟨h1, h2⟩ := px_noneif hs
        split at h2
        · split at h2
          · cases h2
            exact ⟨px_okS_cons (px_ok_float _ _) (px_okS_tl (px_okS_tl oS)), oH, rfl⟩
          · cases h2
        · cases h2
          exact ⟨px_okS_cons (px_ok_null _) (px_okS_tl (px_okS_tl oS)), oH, rfl⟩
      · cases hs
    · cases hs
  case aastore =>
    change px_rst NS pc st h = some (pc', st', h') at hs
    unfold px_rst at hs
    split at hs
    · split at hs
      · obtain ⟨h1, h2⟩ := px_noneif hs
        cases h2
        exact ⟨px_okS_tl (px_okS_tl (px_okS_tl oS)), px_okH_set oH px_okE_arr, List.length_set⟩
      · cases hs
    · cases hs
  case arraylength =>
    change px_len scr pc st h = some (pc', st', h') at hs
    unfold px_len at hs
    split at hs
    · split at hs
      · obtain ⟨h1, h2⟩ := px_cond_some hs
        cases h2
        exact ⟨px_okS_cons (px_ok_int _ _) (px_okS_tl oS), oH, rfl⟩
      · cases hs
    · split at hs
      · split at hs
        · cases hs
          exact ⟨px_okS_cons (px_ok_int _ _) (px_okS_tl oS), oH, rfl⟩
        · cases hs
      · cases hs
    · cases hs
  case ldc idx => cases hs; exact ⟨px_okS_cons hkv oS, oH, rfl⟩
  case ldc_w idx => cases hs; exact ⟨px_okS_cons hkv oS, oH, rfl⟩
  case ldc2_w idx => cases hs; exact ⟨px_okS_cons hkv oS, oH, rfl⟩
  all_goals cases hs
theorem px_N_ok {ft : Nat → Nat → FieldType} {i : Instr} {a b k k0 n : Nat} {st r : List Value} {ec : px_E} (hs : px_N ft i a b st = some (k, r, ec, n)) (oS : px_okS k0 st) : px_okS k0 r ∧ px_okE k0 ec := by
  have arr : ∀ t n, px_okE k0 (px_arr t n) := by
    intro t n
    unfold px_arr
    split <;> exact px_okE_arr
  cases i
  case new idx =>
    obtain ⟨-, hs⟩ := px_cond_some (show (bif Nat.blt a 900 then some (3, st, Sum.inr (a, px_dfl (ft a) b), b) else none) = some (k, r, ec, n) from hs)
    cases hs
    refine ⟨oS, fun ci fs he v hv => ?_⟩
    cases he
    obtain ⟨k, -, rfl⟩ := List.mem_map.mp hv
    exact px_dv_ok _ _
  case newarray t =>
    cases st with
    | nil => cases hs
    | cons v r0 =>
      cases v <;> first | (cases hs; done) | skip
      obtain ⟨h1, h2⟩ := px_cond_some hs
      cases h2
      exact ⟨px_okS_tl oS, arr _ _⟩
  case anewarray idx =>
    cases st with
    | nil => cases hs
    | cons v r0 =>
      cases v <;> first | (cases hs; done) | skip
      obtain ⟨h1, h2⟩ := px_cond_some hs
      cases h2
      exact ⟨px_okS_tl oS, arr _ _⟩
  all_goals cases hs
