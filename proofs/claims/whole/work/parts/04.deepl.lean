theorem px_ii_inv {n n' : Nat} {L L' : px_Ls} {st st' : List Value} {f : Int32 → Int32 → Value} (h : px_ii n L st f = some (n', L', st')) : ∃ x y r, st = .int y :: .int x :: r ∧ n' = n ∧ L' = L ∧ st' = f x y :: r := by
  unfold px_ii at h
  split at h
  · cases h; exact ⟨_, _, _, rfl, rfl, rfl, rfl⟩
  · cases h
theorem px_ll_inv {n n' : Nat} {L L' : px_Ls} {st st' : List Value} {f : Int64 → Int64 → Value} (h : px_ll n L st f = some (n', L', st')) : ∃ x y r, st = .long y :: .long x :: r ∧ n' = n ∧ L' = L ∧ st' = f x y :: r := by
  unfold px_ll at h
  split at h
  · cases h; exact ⟨_, _, _, rfl, rfl, rfl, rfl⟩
  · cases h
theorem px_li_inv {n n' : Nat} {L L' : px_Ls} {st st' : List Value} {f : Int64 → Int32 → Value} (h : px_li n L st f = some (n', L', st')) : ∃ x y r, st = .int y :: .long x :: r ∧ n' = n ∧ L' = L ∧ st' = f x y :: r := by
  unfold px_li at h
  split at h
  · cases h; exact ⟨_, _, _, rfl, rfl, rfl, rfl⟩
  · cases h
theorem px_i_inv {n n' : Nat} {L L' : px_Ls} {st st' : List Value} {f : Int32 → Value} (h : px_i n L st f = some (n', L', st')) : ∃ x r, st = .int x :: r ∧ n' = n ∧ L' = L ∧ st' = f x :: r := by
  unfold px_i at h
  split at h
  · cases h; exact ⟨_, _, rfl, rfl, rfl, rfl⟩
  · cases h
theorem px_div_inv {n n' : Nat} {L L' : px_Ls} {st st' : List Value} {f : Int32 → Int32 → Value} (h : px_div n L st f = some (n', L', st')) : ∃ x y r, st = .int y :: .int x :: r ∧ ¬ y = 0 ∧ n' = n ∧ L' = L ∧ st' = f x y :: r := by
  unfold px_div at h
  split at h
  · split at h
    · cases h
    · cases h; exact ⟨_, _, _, rfl, by assumption, rfl, rfl, rfl⟩
  · cases h
theorem px_ldi_inv {n n' i : Nat} {L L' : px_Ls} {st st' : List Value} (h : px_ldi n L st i = some (n', L', st')) : ∃ x, px_rd L i = some (.int x) ∧ n' = n ∧ L' = L ∧ st' = .int x :: st := by
  unfold px_ldi at h
  split at h
  · cases h; exact ⟨_, by assumption, rfl, rfl, rfl⟩
  · cases h
theorem px_ldl_inv {n n' i : Nat} {L L' : px_Ls} {st st' : List Value} (h : px_ldl n L st i = some (n', L', st')) : ∃ x, px_rd L i = some (.long x) ∧ n' = n ∧ L' = L ∧ st' = .long x :: st := by
  unfold px_ldl at h
  split at h
  · cases h; exact ⟨_, by assumption, rfl, rfl, rfl⟩
  · cases h
theorem px_lda_inv {n n' i : Nat} {L L' : px_Ls} {st st' : List Value} (h : px_lda n L st i = some (n', L', st')) : ∃ v, px_rd L i = some v ∧ ((∃ x, v = .ref x) ∨ (∃ x, v = .float x) ∨ v = .null) ∧ n' = n ∧ L' = L ∧ st' = v :: st := by
  unfold px_lda at h
  split at h
  · cases h; exact ⟨_, by assumption, Or.inl ⟨_, rfl⟩, rfl, rfl, rfl⟩
  · cases h; exact ⟨_, by assumption, Or.inr (Or.inl ⟨_, rfl⟩), rfl, rfl, rfl⟩
  · cases h; exact ⟨_, by assumption, Or.inr (Or.inr rfl), rfl, rfl, rfl⟩
  · cases h
theorem px_cond_some {α : Type} {b : Bool} {x y : α} (h : (bif b then some x else none) = some y) : b = true ∧ x = y := by
  cases b with
  | true => exact ⟨rfl, Option.some.inj h⟩
  | false => cases h
theorem px_blt {a b : Nat} (h : Nat.blt a b = true) : a < b := by
  have := Nat.le_of_ble_eq_true h
  omega
theorem px_sti_inv {nL n n' i : Nat} {L L' : px_Ls} {st st' : List Value} (h : px_sti nL n L st i = some (n', L', st')) : ∃ x r, st = .int x :: r ∧ i < nL ∧ n' = n ∧ L' = px_st1 L i (.int x) ∧ st' = r := by
  unfold px_sti at h
  split at h
  · obtain ⟨h1, h2⟩ := px_cond_some h
    cases h2; exact ⟨_, _, rfl, px_blt h1, rfl, rfl, rfl⟩
  · cases h
theorem px_stl_inv {nL n n' i : Nat} {L L' : px_Ls} {st st' : List Value} (h : px_stl nL n L st i = some (n', L', st')) : ∃ x r, st = .long x :: r ∧ i + 1 < nL ∧ n' = n ∧ L' = px_st2 L i (.long x) ∧ st' = r := by
  unfold px_stl at h
  split at h
  · obtain ⟨h1, h2⟩ := px_cond_some h
    cases h2; exact ⟨_, _, rfl, px_blt h1, rfl, rfl, rfl⟩
  · cases h
theorem px_sta_inv {nL n n' i : Nat} {L L' : px_Ls} {st st' : List Value} (h : px_sta nL n L st i = some (n', L', st')) : ∃ v r, st = v :: r ∧ ((∃ x, v = .ref x) ∨ (∃ x, v = .float x) ∨ v = .null) ∧ i < nL ∧ n' = n ∧ L' = px_st1 L i v ∧ st' = r := by
  unfold px_sta at h
  split at h
  · obtain ⟨h1, h2⟩ := px_cond_some h
    cases h2; exact ⟨_, _, rfl, Or.inl ⟨_, rfl⟩, px_blt h1, rfl, rfl, rfl⟩
  · obtain ⟨h1, h2⟩ := px_cond_some h
    cases h2; exact ⟨_, _, rfl, Or.inr (Or.inr rfl), px_blt h1, rfl, rfl, rfl⟩
  · obtain ⟨h1, h2⟩ := px_cond_some h
    cases h2; exact ⟨_, _, rfl, Or.inr (Or.inl ⟨_, rfl⟩), px_blt h1, rfl, rfl, rfl⟩
  · cases h
theorem px_inc_inv {nL n n' i : Nat} {L L' : px_Ls} {st st' : List Value} {d : Int32} (h : px_inc nL n L st i d = some (n', L', st')) : ∃ x, px_rd L i = some (.int x) ∧ i < nL ∧ n' = n ∧ L' = px_st1 L i (.int (x + d)) ∧ st' = st := by
  unfold px_inc at h
  split at h
  · obtain ⟨h1, h2⟩ := px_cond_some h
    cases h2; exact ⟨_, by assumption, px_blt h1, rfl, rfl, rfl⟩
  · cases h
section PXL
variable {p : Program} {l : Launch} {e : Env} {R : Room} {s : State} {m : MethodId} {args : Array Value} {below : List Frame} {meth : Method} {c : Code} {D : va_G} {cl : List vw_C} {dA : Nat → ClassId} {aS : Nat → Nat} {A : Nat → Prop} {nL : Nat} {Q : State → Prop} {ad : Nat → Nat} {h : px_H} {cn sn : Nat} {cc : ByteArray}
theorem px_jump {L : px_Ls} {r : List Value} {pc tg pc' : Nat} {k : Jvm.ClassFile.Cond} {x y : Int32} (hp : pc' = bif px_test k x y then tg else pc + 3) (K : px_W p l e R s m args below meth c D cl dA aS A nL Q ad pc' L r h cn sn) :
    (px_test k x y = true → px_W p l e R s m args below meth c D cl dA aS A nL Q ad tg L r h cn sn) ∧ (px_test k x y = false → px_W p l e R s m args below meth c D cl dA aS A nL Q ad (pc + 3) L r h cn sn) :=
  ⟨fun hk => by rw [hk] at hp; have hp : pc' = tg := hp; subst hp; exact K, fun hk => by rw [hk] at hp; have hp : pc' = pc + 3 := hp; subst hp; exact K⟩
set_option maxHeartbeats 4000000 in
theorem px_L_sound (hx : p.tables.exec = Jvm.exec) (hb : c.code = cc) {i : Instr} {len tg pc pc' : Nat} {L L' : px_Ls} {st st' : List Value} (hd : decode cc pc = .ok (i, len)) (ok : px_okL i len tg pc = true) (hs : px_L nL i tg pc L st = some (pc', L', st'))
    (K : px_W p l e R s m args below meth c D cl dA aS A nL Q ad pc' L' st' h cn sn) : px_W p l e R s m args below meth c D cl dA aS A nL Q ad pc L st h cn sn := by
  intro H ls locs hP hD hS hl
  cases i
  case iconst n =>
    cases Nat.eq_of_beq_eq_true ok; cases hs
    exact lv_iconst hx hb hd rfl (K H ls locs hP hD hS hl)
  case bipush n =>
    cases Nat.eq_of_beq_eq_true ok; cases hs
    exact lv_bipush hx hb hd rfl (K H ls locs hP hD hS hl)
  case sipush n =>
    cases Nat.eq_of_beq_eq_true ok; cases hs
    exact lv_sipush hx hb hd rfl (K H ls locs hP hD hS hl)
  case lconst n =>
    cases Nat.eq_of_beq_eq_true ok; cases hs
    exact lv_lconst hx hb hd rfl (K H ls locs hP hD hS hl)
  case aconst_null =>
    cases Nat.eq_of_beq_eq_true ok; cases hs
    exact lv_null hx hb hd (K H ls locs hP hD hS hl)
  case iload_n k =>
    cases Nat.eq_of_beq_eq_true ok
    obtain ⟨x, h1, rfl, rfl, rfl⟩ := px_ldi_inv hs
    exact lv_iload_n hx hb hd rfl (px_rd_tr hl h1) (K H ls locs hP hD hS hl)
  case iload k =>
    cases Nat.eq_of_beq_eq_true ok
    obtain ⟨x, h1, rfl, rfl, rfl⟩ := px_ldi_inv hs
    exact lv_iload hx hb hd (px_rd_tr hl h1) (K H ls locs hP hD hS hl)
  case lload_n k =>
    cases Nat.eq_of_beq_eq_true ok
    obtain ⟨x, h1, rfl, rfl, rfl⟩ := px_ldl_inv hs
    exact lv_lload_n hx hb hd rfl (px_rd_tr hl h1) (K H ls locs hP hD hS hl)
  case lload k =>
    cases Nat.eq_of_beq_eq_true ok
    obtain ⟨x, h1, rfl, rfl, rfl⟩ := px_ldl_inv hs
    exact lv_lload hx hb hd (px_rd_tr hl h1) (K H ls locs hP hD hS hl)
  case aload_n k =>
    cases Nat.eq_of_beq_eq_true ok
    obtain ⟨v, h1, hv, rfl, rfl, rfl⟩ := px_lda_inv hs
    rcases hv with ⟨x, rfl⟩ | ⟨x, rfl⟩ | rfl
    · exact lv_aload_n hx hb hd rfl (px_rd_tr hl h1) (K H ls locs hP hD hS hl)
    · exact lv_aload_n hx hb hd rfl (px_rd_tr hl h1) (K H ls locs hP hD hS hl)
    · exact lv_aload_nN hx hb hd rfl (px_rd_tr hl h1) (K H ls locs hP hD hS hl)
  case aload k =>
    cases Nat.eq_of_beq_eq_true ok
    obtain ⟨v, h1, hv, rfl, rfl, rfl⟩ := px_lda_inv hs
    rcases hv with ⟨x, rfl⟩ | ⟨x, rfl⟩ | rfl
    · exact lv_aload hx hb hd (px_rd_tr hl h1) (K H ls locs hP hD hS hl)
    · exact lv_aload hx hb hd (px_rd_tr hl h1) (K H ls locs hP hD hS hl)
    · exact lv_aloadN hx hb hd (px_rd_tr hl h1) (K H ls locs hP hD hS hl)
  case istore_n k =>
    cases Nat.eq_of_beq_eq_true ok
    obtain ⟨x, r, rfl, h1, rfl, rfl, rfl⟩ := px_sti_inv hs
    exact lv_istore_n hx hb hd rfl hl h1 (px_st1_tr ad aS L _ (.int x)) (fun ls' hl' => K H ls' locs hP hD hS hl')
  case istore k =>
    cases Nat.eq_of_beq_eq_true ok
    obtain ⟨x, r, rfl, h1, rfl, rfl, rfl⟩ := px_sti_inv hs
    exact lv_istore hx hb hd hl h1 (px_st1_tr ad aS L _ (.int x)) (fun ls' hl' => K H ls' locs hP hD hS hl')
  case lstore_n k =>
    cases Nat.eq_of_beq_eq_true ok
    obtain ⟨x, r, rfl, h1, rfl, rfl, rfl⟩ := px_stl_inv hs
    exact lv_lstore_n hx hb hd rfl hl h1 (px_st2_tr ad aS L _ (.long x)) (fun ls' hl' => K H ls' locs hP hD hS hl')
  case lstore k =>
    cases Nat.eq_of_beq_eq_true ok
    obtain ⟨x, r, rfl, h1, rfl, rfl, rfl⟩ := px_stl_inv hs
    exact lv_lstore hx hb hd hl h1 (px_st2_tr ad aS L _ (.long x)) (fun ls' hl' => K H ls' locs hP hD hS hl')
  case astore_n k =>
    cases Nat.eq_of_beq_eq_true ok
    obtain ⟨v, r, rfl, hv, h1, rfl, rfl, rfl⟩ := px_sta_inv hs
    rcases hv with ⟨x, rfl⟩ | ⟨x, rfl⟩ | rfl
    · exact lv_astore_n hx hb hd rfl hl h1 (px_st1_tr ad aS L _ (.ref x)) (fun ls' hl' => K H ls' locs hP hD hS hl')
    · exact lv_astore_n hx hb hd rfl hl h1 (px_st1_tr ad aS L _ (.float x)) (fun ls' hl' => K H ls' locs hP hD hS hl')
    · exact lv_astore_nN hx hb hd rfl hl h1 (px_st1_tr ad aS L _ .null) (fun ls' hl' => K H ls' locs hP hD hS hl')
  case astore k =>
    cases Nat.eq_of_beq_eq_true ok
    obtain ⟨v, r, rfl, hv, h1, rfl, rfl, rfl⟩ := px_sta_inv hs
    rcases hv with ⟨x, rfl⟩ | ⟨x, rfl⟩ | rfl
    · exact lv_astore hx hb hd hl h1 (px_st1_tr ad aS L _ (.ref x)) (fun ls' hl' => K H ls' locs hP hD hS hl')
    · exact lv_astore hx hb hd hl h1 (px_st1_tr ad aS L _ (.float x)) (fun ls' hl' => K H ls' locs hP hD hS hl')
    · exact lv_astoreN hx hb hd hl h1 (px_st1_tr ad aS L _ .null) (fun ls' hl' => K H ls' locs hP hD hS hl')
  case iinc k d =>
    cases Nat.eq_of_beq_eq_true ok
    obtain ⟨x, h0, h1, rfl, rfl, rfl⟩ := px_inc_inv hs
    obtain ⟨j, hj⟩ := List.getElem?_of_mem (List.mem_map.mpr ⟨(k, .int x), px_rd_mem h0, rfl⟩ : (k, Value.int x) ∈ px_trL ad aS L)
    exact lv_iinc hx hb hd hl hj rfl h1 (px_st1_tr ad aS L _ (.int (x + Int32.ofInt d))) (fun ls' hl' => K H ls' locs hP hD hS hl')
  case iadd =>
    cases Nat.eq_of_beq_eq_true ok
    obtain ⟨x, y, r, rfl, rfl, rfl, rfl⟩ := px_ii_inv hs
    exact lv_iadd hx hb hd (K H ls locs hP hD hS hl)
  case isub =>
    cases Nat.eq_of_beq_eq_true ok
    obtain ⟨x, y, r, rfl, rfl, rfl, rfl⟩ := px_ii_inv hs
    exact lv_isub hx hb hd (K H ls locs hP hD hS hl)
  case imul =>
    cases Nat.eq_of_beq_eq_true ok
    obtain ⟨x, y, r, rfl, rfl, rfl, rfl⟩ := px_ii_inv hs
    exact lv_imul hx hb hd (K H ls locs hP hD hS hl)
  case iand =>
    cases Nat.eq_of_beq_eq_true ok
    obtain ⟨x, y, r, rfl, rfl, rfl, rfl⟩ := px_ii_inv hs
    exact lv_iand hx hb hd (K H ls locs hP hD hS hl)
  case ior =>
    cases Nat.eq_of_beq_eq_true ok
    obtain ⟨x, y, r, rfl, rfl, rfl, rfl⟩ := px_ii_inv hs
    exact lv_ior hx hb hd (K H ls locs hP hD hS hl)
  case ixor =>
    cases Nat.eq_of_beq_eq_true ok
    obtain ⟨x, y, r, rfl, rfl, rfl, rfl⟩ := px_ii_inv hs
    exact lv_ixor hx hb hd (K H ls locs hP hD hS hl)
  case ishl =>
    cases Nat.eq_of_beq_eq_true ok
    obtain ⟨x, y, r, rfl, rfl, rfl, rfl⟩ := px_ii_inv hs
    exact lv_ishl hx hb hd (K H ls locs hP hD hS hl)
  case ishr =>
    cases Nat.eq_of_beq_eq_true ok
    obtain ⟨x, y, r, rfl, rfl, rfl, rfl⟩ := px_ii_inv hs
    exact lv_ishr hx hb hd (K H ls locs hP hD hS hl)
  case iushr =>
    cases Nat.eq_of_beq_eq_true ok
    obtain ⟨x, y, r, rfl, rfl, rfl, rfl⟩ := px_ii_inv hs
    exact lv_iushr hx hb hd rfl (K H ls locs hP hD hS hl)
  case idiv =>
    cases Nat.eq_of_beq_eq_true ok
    obtain ⟨x, y, r, rfl, hy, rfl, rfl, rfl⟩ := px_div_inv hs
    exact lv_idiv hx hb hd hy (K H ls locs hP hD hS hl)
  case irem =>
    cases Nat.eq_of_beq_eq_true ok
    obtain ⟨x, y, r, rfl, hy, rfl, rfl, rfl⟩ := px_div_inv hs
    exact lv_irem hx hb hd hy (K H ls locs hP hD hS hl)
  case ineg =>
    cases Nat.eq_of_beq_eq_true ok
    obtain ⟨x, r, rfl, rfl, rfl, rfl⟩ := px_i_inv hs
    exact lv_ineg hx hb hd (K H ls locs hP hD hS hl)
  case land =>
    cases Nat.eq_of_beq_eq_true ok
    obtain ⟨x, y, r, rfl, rfl, rfl, rfl⟩ := px_ll_inv hs
    exact lv_land hx hb hd (K H ls locs hP hD hS hl)
  case lor =>
    cases Nat.eq_of_beq_eq_true ok
    obtain ⟨x, y, r, rfl, rfl, rfl, rfl⟩ := px_ll_inv hs
    exact lv_lor hx hb hd (K H ls locs hP hD hS hl)
  case lcmp =>
    cases Nat.eq_of_beq_eq_true ok
    obtain ⟨x, y, r, rfl, rfl, rfl, rfl⟩ := px_ll_inv hs
    exact W.lcmp hx hb hd (K H ls locs hP hD hS hl)
  case lushr =>
    cases Nat.eq_of_beq_eq_true ok
    obtain ⟨x, y, r, rfl, rfl, rfl, rfl⟩ := px_li_inv hs
    exact lv_lushr hx hb hd rfl (K H ls locs hP hD hS hl)
  case lshl =>
    cases Nat.eq_of_beq_eq_true ok
    obtain ⟨x, y, r, rfl, rfl, rfl, rfl⟩ := px_li_inv hs
    exact lv_lshl hx hb hd rfl (K H ls locs hP hD hS hl)
  case i2l =>
    cases Nat.eq_of_beq_eq_true ok
    obtain ⟨x, r, rfl, rfl, rfl, rfl⟩ := px_i_inv hs
    exact lv_i2l hx hb hd rfl (K H ls locs hP hD hS hl)
  case i2b =>
    cases Nat.eq_of_beq_eq_true ok
    obtain ⟨x, r, rfl, rfl, rfl, rfl⟩ := px_i_inv hs
    exact lv_i2b hx hb hd rfl (K H ls locs hP hD hS hl)
  case dup =>
    cases Nat.eq_of_beq_eq_true ok
    cases st with
    | nil => cases hs
    | cons v r =>
      obtain ⟨h1, h2⟩ := px_cond_some hs
      cases h2
      exact lv_dup hx hb hd (by rw [px_cat]; exact Nat.eq_of_beq_eq_true h1) (K H ls locs hP hD hS hl)
  case pop =>
    cases Nat.eq_of_beq_eq_true ok
    cases st with
    | nil => cases hs
    | cons v r =>
      obtain ⟨h1, h2⟩ := px_cond_some hs
      cases h2
      exact lv_pop hx hb hd (by rw [px_cat]; exact Nat.eq_of_beq_eq_true h1) (K H ls locs hP hD hS hl)
  case dup2 =>
    cases Nat.eq_of_beq_eq_true ok
    cases st with
    | nil => cases hs
    | cons v r =>
      cases r with
      | nil => cases hs
      | cons w r =>
        obtain ⟨h1, h2⟩ := px_cond_some hs
        cases h2
        have h3 := Bool.and_eq_true_iff.mp h1
        exact lv_dup2_11 hx hb hd (by rw [px_cat]; exact Nat.eq_of_beq_eq_true h3.1) (by rw [px_cat]; exact Nat.eq_of_beq_eq_true h3.2) (K H ls locs hP hD hS hl)
  case goto off =>
    have h3 := Bool.and_eq_true_iff.mp ok
    cases Nat.eq_of_beq_eq_true h3.1
    cases hs
    exact lv_goto hx hb hd (of_decide_eq_true h3.2) (K H ls locs hP hD hS hl)
  case ifCond k off =>
    have h3 := Bool.and_eq_true_iff.mp ok
    cases Nat.eq_of_beq_eq_true h3.1
    have ht := of_decide_eq_true h3.2
    cases st with
    | nil => cases hs
    | cons v r =>
      cases v <;> first | (cases hs; done) | skip
      rename_i x
      obtain ⟨e1, e2⟩ := Prod.mk.inj (Option.some.inj hs)
      obtain ⟨e2, e3⟩ := Prod.mk.inj e2
      subst e2; subst e3
      obtain ⟨kt, kf⟩ := px_jump e1.symm K
      cases k
      · exact lv_if_eq hx hb hd ht (fun z => kt (decide_eq_true z) H ls locs hP hD hS hl) (fun z => kf (decide_eq_false z) H ls locs hP hD hS hl)
      · exact lv_if_ne hx hb hd ht (fun z => kt (by simp [px_test, z]) H ls locs hP hD hS hl) (fun z => kf (by simp [px_test, z]) H ls locs hP hD hS hl)
      · exact lv_if_lt hx hb hd ht (fun z => kt (decide_eq_true z) H ls locs hP hD hS hl) (fun z => kf (decide_eq_false z) H ls locs hP hD hS hl)
      · exact lv_if_ge hx hb hd ht (fun z => kt (decide_eq_true z) H ls locs hP hD hS hl) (fun z => kf (decide_eq_false z) H ls locs hP hD hS hl)
      · exact lv_if_gt hx hb hd ht (fun z => kt (decide_eq_true z) H ls locs hP hD hS hl) (fun z => kf (decide_eq_false z) H ls locs hP hD hS hl)
      · exact lv_if_le hx hb hd ht (fun z => kt (decide_eq_true z) H ls locs hP hD hS hl) (fun z => kf (decide_eq_false z) H ls locs hP hD hS hl)
  case if_icmp k off =>
    have h3 := Bool.and_eq_true_iff.mp ok
    cases Nat.eq_of_beq_eq_true h3.1
    have ht := of_decide_eq_true h3.2
    cases st with
    | nil => cases hs
    | cons v r =>
      cases v <;> first | (cases hs; done) | skip
      rename_i y
      cases r with
      | nil => cases hs
      | cons v r =>
        cases v <;> first | (cases hs; done) | skip
        rename_i x
        obtain ⟨e1, e2⟩ := Prod.mk.inj (Option.some.inj hs)
        obtain ⟨e2, e3⟩ := Prod.mk.inj e2
        subst e2; subst e3
        obtain ⟨kt, kf⟩ := px_jump e1.symm K
        cases k
        · exact lv_icmp_eq hx hb hd ht (fun z => kt (decide_eq_true z) H ls locs hP hD hS hl) (fun z => kf (decide_eq_false z) H ls locs hP hD hS hl)
        · exact lv_icmp_ne hx hb hd ht (fun z => kt (by simp [px_test, z]) H ls locs hP hD hS hl) (fun z => kf (by simp [px_test, z]) H ls locs hP hD hS hl)
        · exact lv_icmp_lt hx hb hd ht (fun z => kt (decide_eq_true z) H ls locs hP hD hS hl) (fun z => kf (decide_eq_false z) H ls locs hP hD hS hl)
        · exact lv_icmp_ge hx hb hd ht (fun z => kt (decide_eq_true z) H ls locs hP hD hS hl) (fun z => kf (decide_eq_false z) H ls locs hP hD hS hl)
        · exact lv_icmp_gt hx hb hd ht (fun z => kt (decide_eq_true z) H ls locs hP hD hS hl) (fun z => kf (decide_eq_false z) H ls locs hP hD hS hl)
        · exact lv_icmp_le hx hb hd ht (fun z => kt (decide_eq_true z) H ls locs hP hD hS hl) (fun z => kf (decide_eq_false z) H ls locs hP hD hS hl)
  case ifnull off =>
    have h3 := Bool.and_eq_true_iff.mp ok
    cases Nat.eq_of_beq_eq_true h3.1
    have ht := of_decide_eq_true h3.2
    cases st with
    | nil => cases hs
    | cons v r =>
      cases v <;> first | (cases hs; done) | skip
      · cases hs
        exact lv_ifnullN hx hb hd ht (K H ls locs hP hD hS hl)
      · cases hs
        exact lv_ifnull hx hb hd (K H ls locs hP hD hS hl)
  case ifnonnull off =>
    have h3 := Bool.and_eq_true_iff.mp ok
    cases Nat.eq_of_beq_eq_true h3.1
    have ht := of_decide_eq_true h3.2
    cases st with
    | nil => cases hs
    | cons v r =>
      cases v <;> first | (cases hs; done) | skip
      · cases hs
        exact lv_ifnonnullN hx hb hd (K H ls locs hP hD hS hl)
      · cases hs
        exact lv_ifnonnull hx hb hd ht (K H ls locs hP hD hS hl)
  case tableswitch d lo hi offs =>
    cases st with
    | nil => cases hs
    | cons v r =>
      cases v <;> first | (cases hs; done) | skip
      rename_i x
      have hs : px_tab L pc d lo hi offs x r = some (pc', L', st') := hs
      unfold px_tab at hs
      split at hs
      · rename_i hout
        split at hs
        · rename_i h0
          cases hs
          exact lv_tableOut hx hb hd hout (by omega) (K H ls locs hP hD hS hl)
        · cases hs
      · rename_i hin
        split at hs
        · rename_i off hoff
          split at hs
          · rename_i h0
            cases hs
            exact lv_tableIn hx hb hd (fun z => hin (Or.inl z)) (fun z => hin (Or.inr z)) hoff (by omega) (K H ls locs hP hD hS hl)
          · cases hs
        · cases hs
  case lookupswitch d ps =>
    cases st with
    | nil => cases hs
    | cons v r =>
      cases v <;> first | (cases hs; done) | skip
      rename_i x
      have hs : px_look L pc d ps x r = some (pc', L', st') := hs
      unfold px_look at hs
      split at hs
      · rename_i h0
        cases hs
        exact lv_lookup hx hb hd ok rfl (by omega) (K H ls locs hP hD hS hl)
      · cases hs
  all_goals cases hs
end PXL
