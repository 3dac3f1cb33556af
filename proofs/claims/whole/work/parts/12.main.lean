section PXZ
variable {mt : Nat → Option px_Mt} {ft : Nat → Nat → FieldType} {X : px_X} {l : Launch} {Ts : List Cond} {cl : List vw_C}
variable {p : Program} {e : Env} {R : Room} {s : State} {m : MethodId} {args : Array Value} {below : List Frame} {meth : Method} {c : Code} {D : va_G} {dA : Nat → ClassId} {aS aV : Nat → Nat} {A : Nat → Prop} {nL : Nat} {ad ad0 : Nat → Nat} {h h' : px_H} {cn sn n0 : Nat} {cc : ByteArray} {own : String} {ini : Bool} {H : Heap} {locs : List Loc} {ls : Array Slot}
theorem px_FA {A : Nat → Prop} {s t : State} {H : Heap} {locs : List Loc} (hS : va_S A s.heap H locs) (h1 : H.size ≤ t.heap.size) (h2 : ∀ q : Nat, q < H.size → t.heap[q]? = H[q]?) : va_F A s t :=
  ⟨Nat.le_trans hS.1 h1, fun q hq hn => (h2 q (Nat.lt_of_lt_of_le hq hS.1)).trans (hS.2.1 q hq hn)⟩
theorem px_agree.trans {n k : Nat} {a b c : Nat → Nat} (h1 : px_agree n a b) (h2 : px_agree k b c) (hk : n ≤ k) : px_agree n a c := fun x hx => (h2 x (by omega)).trans (h1 x hx)
set_option maxHeartbeats 4000000 in
/-- a throw -/
theorem px_T_sound (hl : l.stackTraces = false) (F : px_Fx p s m args meth c cc nL own ini Ts D cl ft dA aS aV A X) {i : Instr} {len a d pc k : Nat} {L : px_Ls} {st : List Value} (hd : decode cc pc = .ok (i, len)) (ok : px_okT Ts X own cc i len a pc) (hs : px_T d i a st = some k) (htab : c.exceptionTable.toList = []) (hlocks : meth.locks = false) (hRf : d ≤ R.frames) (hRl : 64 * d ≤ R.locals) (hRc : cn + 1 ≤ R.cells) (hRs : sn + 6 ≤ R.slots) (hag : px_agree n0 ad0 ad) :
    px_W p l e R s m args below meth c D cl dA aS A nL (vx_MQ below (px_Qc D cl dA ad0 aS n0 A (.inr k) h) (px_XC D cl dA ad0 aS n0 A (.inr k) h) args s (cn + 1) (sn + 6) A) ad pc L st h cn sn := by
  obtain ⟨hx, hb, hml, hown, hts, hK, hA, hini, hcl, hstr, hsl, hAO, hU, hN, hnest, hnc, hc0, hc1, hdc, -, -⟩ := F
  intro H ls locs hP hD hS hls
  cases i
  case new ik =>
    obtain ⟨h1, h2⟩ := px_cond_some (show (bif (Nat.ble 900 a && (Nat.ble 12 d && px_small st)) then some (a - 900) else none) = some k from hs)
    obtain ⟨h3, h4⟩ := Bool.and_eq_true_iff.mp h1
    obtain ⟨h4, h5⟩ := Bool.and_eq_true_iff.mp h4
    subst h2
    obtain ⟨js, ic, kk, ix, wd, tx, names, rx, rfl, ha9, f1, f2, f3, ⟨x0, x1, x2, x5⟩, w1, w2, w3, w4, w5, w6, d3, d4, d6, d9⟩ := ok (px_ble h3)
    have hd12 := px_ble h4
    have hsm := px_small_le h5
    have hcast : (Cond.castable (px_exn (a - 900)) (px_exn (a - 900))).before args s = true := by
      have h9 := px_ble h3
      rcases (show a = 900 ∨ a = 901 by omega) with rfl | rfl
      · exact va_Nw.use rfl hc0
      · exact va_Nw.use rfl hc1
    have hat : ∀ w ∈ px_atX own ic (px_exn (a - 900)) ix rx names, w.before args s = true := vx_hat (fun w hw => hts w (w4 w hw)) w5 (vx_c hcast (fun w hw => by
      obtain ⟨n, hn, rfl⟩ := List.mem_map.mp hw
      exact va_Nw.use rfl (hdc n hn)))
    have hxc : ∀ t : State, s.vm.Alike t.vm → H.size ≤ t.heap.size → (∀ q : Nat, q < H.size → t.heap[q]? = H[q]?) → px_XC D cl dA ad0 aS n0 A (.inr (a - 900)) h (px_exn (a - 900)) s t := fun t _ g1 g2 =>
      ⟨a - 900, ad, rfl, rfl, hag, hP.kept (fun k q hk => g2 q.1 ((hP k q hk).lt)), hD, px_FA hS g1 g2⟩
    have hout : ∀ (z : Nat), ∀ x ∈ c.exceptionTable.toList, covers x z = false := fun z x hx => by rw [htab] at hx; cases hx
    exact px_throwX hx hb hl x0 x1 x2 x5 hown f1 f2 (hts _ w1) (hts _ w2) (hsl kk _ _ _ w3) hat w6 hU hN hS (hls.1.trans hml.symm) hd d3 d4 d6 d9 (hout _) (by omega) (by rw [px_sum_tr]; omega) hRc hRs hlocks hxc hS.2.2 (Nat.le_refl _) (Nat.le_refl _)
  all_goals cases hs
/-- a return -/
theorem px_E_sound (F : px_Fx p s m args meth c cc nL own ini Ts D cl ft dA aS aV A X) {i : Instr} {len pc : Nat} {ret : Option FieldType} {v : Option Value} {L : px_Ls} {st : List Value} (hd : decode cc pc = .ok (i, len)) (ok : px_okRt i len = true) (hr : meth.sig.returnType = ret) (hs : px_end ret i st = some v) (hlocks : meth.locks = false) (hag : px_agree n0 ad0 ad) :
    px_W p l e R s m args below meth c D cl dA aS A nL (vx_MQ below (px_Qc D cl dA ad0 aS n0 A (.inl v) h) (px_XC D cl dA ad0 aS n0 A (.inl v) h) args s cn sn A) ad pc L st h cn sn := by
  obtain ⟨hx, hb, -⟩ := F
  intro H ls locs hP hD hS hls
  cases i
  case return_ =>
    cases Nat.eq_of_beq_eq_true ok
    change px_vret ret st = some v at hs
    unfold px_vret at hs
    split at hs
    · split at hs
      · cases hs
        exact vx_ret (W.vret hx hb hr (fun t ht hW => ⟨none, ad, rfl, hag, rfl, by rw [ht]; exact hP, hD, hS.F ht⟩) hS.2.2 hd hlocks)
      · cases hs
    · cases hs
  case ireturn =>
    cases Nat.eq_of_beq_eq_true ok
    change px_iret ret st = some v at hs
    unfold px_iret at hs
    split at hs
    · rename_i x
      split at hs
      · cases hs
        exact vx_ret (W.zret hx hb hr (vp_nar_int x) (fun t ht hW => ⟨some (.int x), ad, rfl, hag, rfl, by rw [ht]; exact hP, hD, hS.F ht⟩) hS.2.2 hd hlocks)
      · obtain ⟨h1, h2⟩ := px_cond_some hs
        cases h2
        have hn : narrow .boolean (.int x) = .int x := by
          rcases Bool.or_eq_true_iff.mp h1 with h3 | h3
          · rw [of_decide_eq_true h3]; decide
          · rw [of_decide_eq_true h3]; decide
        exact vx_ret (W.zret hx hb hr hn (fun t ht hW => ⟨some (.int x), ad, rfl, hag, rfl, by rw [ht]; exact hP, hD, hS.F ht⟩) hS.2.2 hd hlocks)
      · cases hs
    · cases hs
  case lreturn =>
    cases Nat.eq_of_beq_eq_true ok
    change px_lret ret st = some v at hs
    unfold px_lret at hs
    split at hs
    · rename_i x
      split at hs
      · cases hs
        exact vx_ret (W.lret hx hb hr (fun t ht hW => ⟨some (.long x), ad, rfl, hag, rfl, by rw [ht]; exact hP, hD, hS.F ht⟩) hS.2.2 hd hlocks)
      · cases hs
    · cases hs
  all_goals cases hs
theorem px_goodIn (hgood : ∀ w ∈ Ts, goodWord w = true) {w0 : Cond} (hw : w0 ∈ Ts) : GoodIn Ts (w0 :: Ts) := fun w h => by
  rcases List.mem_cons.mp h with rfl | h
  · exact ⟨hw, good_of_word (hgood _ hw)⟩
  · exact ⟨h, good_of_word (hgood _ h)⟩
set_option maxHeartbeats 4000000 in
/-- a call: the machine runs the callee's contract -/
theorem px_I_sound (hgood : ∀ w ∈ Ts, goodWord w = true) (F : px_Fx p s m args meth c cc nL own ini Ts D cl ft dA aS aV A X) {i : Instr} {len a b k d pc : Nat} {st : List Value} {q : Nat × px_Mt × List Value × List Value} (hd : decode cc pc = .ok (i, len)) (ok : px_okI mt Ts cl X own i len a b k) (hs : px_I mt d i a b k st h = some q) (hM : px_okMt mt Ts cl X q.2.1) {z : px_Res} {mc ms : Nat} (hz : px_isI i = true → ∃ v, z = .inl v) (ct : px_Ct l X cl q.2.1.1 (px_word q.2.1 :: Ts) (px_rm q.1 mc ms) q.2.2.1 h z h' mc ms)
    (hRf : d ≤ R.frames) (hRl : 64 * d ≤ R.locals) (hRc : cn + mc ≤ R.cells) (hRs : sn + ms ≤ R.slots) (hP : va_P D cl (px_ws dA ad aS h) H) (hD : va_D A (px_ws dA ad aS h)) (hS : va_S A s.heap H locs) (hls : ls.size = nL) :
    ∃ av, vx_Run p l e R s m args below meth c H locs cn sn mc ms (F0 m pc ls (st.map (px_tr ad aS))) (q.2.2.2.map (px_tr ad aS)) (px_Qc D cl dA ad aS h.length (va_A (px_ws dA ad aS h) H.size) z h' av) (px_XC D cl dA ad aS h.length (va_A (px_ws dA ad aS h) H.size) z h') (va_A (px_ws dA ad aS h) H.size) := by
  have F' := F
  obtain ⟨hx, hb, hml, hown, hts, hK, hA, hini, hcl, hst⟩ := F
  obtain ⟨hmt, hdd, hsm, hsum, hc⟩ := px_I_inv hs
  obtain ⟨-, hmh, hmax, hinitw, hword, -, -⟩ := hM
  have hG := px_goodIn hgood hword
  have hct := ct D dA ad aS aV H.size
  have hroom : (px_rm q.1 mc ms).frames + 1 ≤ R.frames ∧ 8 + (q.2.1.2.2.1 + 11) + (px_rm q.1 mc ms).locals ≤ R.locals := by
    show q.1 + 1 ≤ R.frames ∧ 8 + (q.2.1.2.2.1 + 11) + 64 * q.1 ≤ R.locals
    omega
  have hW8 : 2 * (F0 m pc ls (st.map (px_tr ad aS))).monitorRoom + ((q.2.2.2.map (px_tr ad aS)).map fun v => v.category).sum ≤ 8 := lv_room (by rw [px_sum_tr]; exact px_small_le hsm)
  have hpre := px_pre F' hP hD hS (q.2.2.1.map (px_tr ad aS))
  have hbl := px_blind X D cl dA ad aS aV h H.size (q.2.2.1.map (px_tr ad aS))
  rcases hc with ⟨idx, x, as, ci, fs, rfl, hp, hci, rfl, he⟩ | ⟨idx, x, as, rfl, hp, he⟩ | ⟨idx, rfl, hp⟩
  · obtain ⟨rfl, hh, w1, w2, w3, ⟨T, N, hcx⟩, hb9⟩ := ok _ hmt
    have hw : px_word q.2.1 = .code q.2.1.1 q.2.1.2.1 q.2.1.2.2.1 q.2.1.2.2.2.1 := by unfold px_word; rw [hh]
    obtain ⟨e1, e2⟩ := px_pop_spec _ _ _ _ _ hp
    have hstk : st.map (px_tr ad aS) = (as.map (px_tr ad aS)).reverse ++ .ref (ad x) :: q.2.2.2.map (px_tr ad aS) := by
      have : as.reverse ++ (.ref x :: q.2.2.2) = st := e1
      rw [← this, List.map_append, List.map_reverse]; rfl
    rw [he] at hct hpre hbl
    refine ⟨_, vx_runV (C := q.2.1.1.cls) (b := ad x) (As := as.map (px_tr ad aS)) (n := b) ⟨hx, hb, hml, hown, hts⟩ hct ⟨callB_of b hts hG (by rw [hw]) rfl rfl (hts _ hinitw) (hts _ w1) ⟨hmh.1, hmh.2, hb9⟩ hroom, hts _ w2, hts _ w3⟩ ⟨hbl, va_recv hK hP hcx (px_ws_at hci), hpre⟩ rfl (by rw [List.length_map, e2]; rfl) hls hstk hW8 hd ⟨hRc, hRs⟩⟩
  · obtain ⟨rfl, hh, hin, hret, w2, hb9, hlink⟩ := ok _ hmt
    have hw : px_word q.2.1 = .code q.2.1.1 q.2.1.2.1 q.2.1.2.2.1 none := by unfold px_word; rw [hh, hret]
    obtain ⟨e1, e2⟩ := px_pop_spec _ _ _ _ _ hp
    have hstk : st.map (px_tr ad aS) = (as.map (px_tr ad aS)).reverse ++ .ref (ad x) :: q.2.2.2.map (px_tr ad aS) := by
      have : as.reverse ++ (.ref x :: q.2.2.2) = st := e1
      rw [← this, List.map_append, List.map_reverse]; rfl
    rw [he] at hct hpre hbl
    obtain ⟨v, rfl⟩ := hz rfl
    have hmet := px_met hct px_noX
    rcases hlink with w1 | ⟨host, w1⟩
    · exact ⟨_, px_runof (va_runI (b := ad x) (As := as.map (px_tr ad aS)) (n := b) ⟨hx, hb, hml, hown, hts⟩ hmet ⟨callB_of b hts hG (by rw [hw]) rfl rfl (hts _ hinitw) (hts _ w1) ⟨hmh.1, hmh.2, hb9⟩ hroom, hin, hts _ w2⟩ ⟨hbl, hpre⟩ rfl (by rw [List.length_map, e2]; rfl) hls hstk hW8 hd ⟨hRc, hRs⟩)⟩
    · exact ⟨_, px_runof (va_runIN (b := ad x) (As := as.map (px_tr ad aS)) (n := b) ⟨hx, hb, hml, hown, hts⟩ hmet ⟨va_cnB b hts hG (by rw [hw]) rfl rfl (hst.2.2.2.2.2.1 _ w1) (hts _ hinitw) ⟨hmh.1, hmh.2, hb9⟩ hroom, hin, hts _ w2⟩ ⟨hbl, hpre⟩ rfl (by rw [List.length_map, e2]; rfl) hls hstk hW8 hd ⟨hRc, hRs⟩)⟩
  · obtain ⟨rfl, w1, w2, hb9⟩ := ok _ hmt
    obtain ⟨e1, e2⟩ := px_pop_spec _ _ _ _ _ hp
    have hstk : st.map (px_tr ad aS) = (q.2.2.1.map (px_tr ad aS)).reverse ++ q.2.2.2.map (px_tr ad aS) := by
      have : q.2.2.1.reverse ++ q.2.2.2 = st := e1
      rw [← this, List.map_append, List.map_reverse]
    have hpar : ∀ sig, parseMethodDescriptor q.2.1.1.desc = some sig → b = sig.parameters.length := fun sig h => by
      have h2 := hb9
      rw [h] at h2
      exact (Option.some.inj h2).symm
    cases hh : q.2.1.2.2.2.2.1 with
    | nil =>
      have hw : px_word q.2.1 = .code q.2.1.1 q.2.1.2.1 q.2.1.2.2.1 q.2.1.2.2.2.1 := by unfold px_word; rw [hh]
      exact ⟨_, vx_runS (As := q.2.2.1.map (px_tr ad aS)) (n := b) ⟨hx, hb, hml, hown, hts⟩ hct ⟨callB_of b hts hG (by rw [hw]) rfl rfl (hts _ hinitw) (hts _ w1) ⟨hmh.1, hmh.2, hb9⟩ hroom, hts _ w2⟩ ⟨hbl, hpre⟩ rfl (by rw [List.length_map, e2]; rfl) hls hstk hW8 hd ⟨hRc, hRs⟩⟩
    | cons y ys =>
      have hw : px_word q.2.1 = .codeWith q.2.1.1 q.2.1.2.1 q.2.1.2.2.1 q.2.1.2.2.2.1 (y :: ys) := by unfold px_word; rw [hh]
      have hwm : Cond.codeWith q.2.1.1 q.2.1.2.1 q.2.1.2.2.1 q.2.1.2.2.2.1 (y :: ys) ∈ px_word q.2.1 :: Ts := by rw [hw]; exact List.mem_cons_self
      exact ⟨_, vx_runSX (hh := y :: ys) (As := q.2.2.1.map (px_tr ad aS)) (n := b) ⟨hx, hb, hml, hown, hts⟩ hct ⟨⟨rfl, rfl, hroom.1, hroom.2, pay_in hts hG, hwm⟩, hts _ (hG _ hwm).1, hts _ hinitw, hmh, hpar, hts _ w1, hts _ w2⟩ ⟨hbl, hpre⟩ rfl (by rw [List.length_map, e2]; rfl) hls hstk hW8 hd ⟨hRc, hRs⟩⟩
end PXZ
