section PXY
variable {mt : Nat → Option px_Mt} {ft : Nat → Nat → FieldType} {X : px_X} {l : Launch} {Ts : List Cond} {cl : List vw_C}
variable {p : Program} {e : Env} {R : Room} {s : State} {m : MethodId} {args : Array Value} {below : List Frame} {meth : Method} {c : Code} {D : va_G} {dA : Nat → ClassId} {aS aV : Nat → Nat} {A : Nat → Prop} {Q : State → Prop} {ad : Nat → Nat} {h : px_H} {cn sn : Nat} {ini : Bool} {H : Heap} {locs : List Loc} {ls : Array Slot}
theorem px_cov (q : Nat × Nat × Nat × Nat) (pc : Nat) : covers ⟨q.1, q.2.1, q.2.2.1, q.2.2.2⟩ pc = (Nat.ble q.1 pc && Nat.blt pc q.2.1) := by
  have h1 : decide (q.1 ≤ pc) = Nat.ble q.1 pc := by
    cases hb : Nat.ble q.1 pc with
    | true => exact decide_eq_true (Nat.le_of_ble_eq_true hb)
    | false => exact decide_eq_false (fun z => by rw [Nat.ble_eq_true_of_le z] at hb; cases hb)
  have h2 : decide (pc < q.2.1) = Nat.blt pc q.2.1 := by
    cases hb : Nat.blt pc q.2.1 with
    | true => exact decide_eq_true (px_blt hb)
    | false => exact decide_eq_false (fun z => by
        have : Nat.blt pc q.2.1 = true := Nat.ble_eq_true_of_le z
        rw [this] at hb; cases hb)
  show (decide (q.1 ≤ pc) && decide (pc < q.2.1)) = _
  rw [h1, h2]
def px_fnd (Ts : List Cond) (own : String) (hs : List (Nat × Nat × Nat × Nat)) (pc k hp : Nat) : Prop :=
  ∃ pre x suf, hs = pre ++ x :: suf ∧ x.2.2.1 = hp ∧ covers ⟨x.1, x.2.1, x.2.2.1, x.2.2.2⟩ pc = true ∧ x.2.2.2 ≠ 0 ∧ Cond.classLink own x.2.2.2 (px_exn k) ∈ Ts ∧ ∀ z ∈ pre, covers ⟨z.1, z.2.1, z.2.2.1, z.2.2.2⟩ pc = false ∨ (z.2.2.2 ≠ 0 ∧ Cond.classLink own z.2.2.2 (px_exn 1) ∈ Ts ∧ k = 0)
theorem px_find_sound {own : String} : ∀ (hs : List (Nat × Nat × Nat × Nat)) (ks : List Nat) (pc k hp : Nat), px_okHd Ts own hs ks → px_find hs ks pc k = some hp → px_fnd Ts own hs pc k hp
  | [], _, _, _, _, _, h => by cases h
  | _ :: _, [], _, _, _, _, h => by cases h
  | q :: hs, kd :: ks, pc, k, hp, ok, h => by
    obtain ⟨o1, o2, o3, o4⟩ := ok
    have ihh : px_find hs ks pc k = some hp → (covers ⟨q.1, q.2.1, q.2.2.1, q.2.2.2⟩ pc = false ∨ (q.2.2.2 ≠ 0 ∧ Cond.classLink own q.2.2.2 (px_exn 1) ∈ Ts ∧ k = 0)) → px_fnd Ts own (q :: hs) pc k hp := fun hf hq => by
      obtain ⟨pre, x, suf, e1, e2, e3, e4, e5, e6⟩ := px_find_sound hs ks pc k hp o4 hf
      exact ⟨q :: pre, x, suf, by rw [e1]; rfl, e2, e3, e4, e5, fun z hz => by
        rcases List.mem_cons.mp hz with rfl | hz
        · exact hq
        · exact e6 z hz⟩
    unfold px_find at h
    cases hc : (Nat.ble q.1 pc && Nat.blt pc q.2.1) with
    | false =>
      rw [hc] at h
      exact ihh h (Or.inl (by rw [px_cov]; exact hc))
    | true =>
      rw [hc] at h
      cases hk : Nat.beq kd k with
      | true =>
        rw [hk] at h
        have e1 := Nat.eq_of_beq_eq_true hk
        subst e1
        exact ⟨[], q, hs, rfl, Option.some.inj h, by rw [px_cov]; exact hc, o1, o3, fun z hz => by cases hz⟩
      | false =>
        rw [hk] at h
        cases hk2 : (Nat.beq kd 1 && Nat.beq k 0) with
        | false => rw [hk2] at h; cases h
        | true =>
          rw [hk2] at h
          obtain ⟨e1, e2⟩ := Bool.and_eq_true_iff.mp hk2
          have e3 := Nat.eq_of_beq_eq_true e1
          subst e3
          exact ihh h (Or.inr ⟨o1, o3, Nat.eq_of_beq_eq_true e2⟩)
theorem px_drop_tr (ad aS : Nat → Nat) (L : px_Ls) (j : Nat) : (px_trL ad aS L).filter (fun q => !(q.1 == j) && !(q.1 + 1 == j && q.2.category == 2)) = px_trL ad aS (px_drop L j) := congrArg List.tail (px_st1_tr ad aS L j .null)
set_option maxHeartbeats 4000000 in
/-- an exception that is caught here -/
theorem px_H_sound {M : px_Mt} (hM : px_okB mt Ts cl X M) (F : px_Fx p s m args meth c M.2.1 M.2.2.1 M.1.cls ini Ts D cl ft dA aS aV A X) (htab : c.exceptionTable.toList = tableOf M.2.2.2.2.1) {pc k : Nat} {L : px_Ls} {w : Nat × px_Ls} {rest : List Value} (hw : px_land M pc k L = some w) {q : Addr} {ce : Cell} (hce : H[q]? = some ce) (hcv : ce.vm = .none) (hcc : s.vm.findClass (px_exn k) = some ce.cls)
    (hP : va_P D cl (px_ws dA ad aS h) H) (hD : va_D A (px_ws dA ad aS h)) (hS : va_S A s.heap H locs) (hl : lv_has ls M.2.2.1 (px_trL ad aS L))
    (K : px_W p l e R s m args below meth c D cl dA aS A M.2.2.1 Q ad w.1 w.2 [] h cn sn) : vx_W p l e R s m args below meth c H locs cn sn Q (F0 m pc ls rest) q := by
  obtain ⟨hx, hb, hml, hown, hts, hK, hA, hini, hcl, hstr, hsl, hAO, hU, hN, hnest, hnc, hc0, hc1, hdc, -, -⟩ := F
  obtain ⟨hhd, hen⟩ := hM
  unfold px_land at hw
  split at hw
  · cases hw
  · rename_i hp hfind
    split at hw
    · cases hw
    · rename_i en he
      split at hw
      · cases hw
      · rename_i j n hj
        obtain ⟨h1, h2⟩ := px_cond_some hw
        subst h2
        obtain ⟨pre, x, suf, e1, e2, e3, e4, e5, e6⟩ := px_find_sound _ _ _ _ _ hhd hfind
        have hcast : (Cond.castable (px_exn k) (px_exn k)).before args s = true := by
          cases k with
          | zero => exact va_Nw.use rfl hc0
          | succ k => exact va_Nw.use rfl hc1
        refine vx_catch hown (tableOf pre) ⟨x.1, x.2.1, x.2.2.1, x.2.2.2⟩ (tableOf suf) (by rw [htab, e1]; simp [tableOf]) ?_ e3 e4 (hts _ e5) hcast hce hcv hcc ?_
        · intro z hz
          obtain ⟨z0, hz0, rfl⟩ := List.mem_map.mp hz
          rcases e6 z0 hz0 with h | ⟨g1, g2, g3⟩
          · exact Or.inl h
          · subst g3
            exact Or.inr ⟨g1, _, hts _ g2, hnc⟩
        · obtain ⟨hdec, -, -, -, -, -, -, -, -, hlen⟩ := hen hp en he
          replace hlen := hlen j n hj
          show W p l e R s m args below meth c H locs cn sn Q (F0 m x.2.2.1 ls [.ref q])
          rw [e2]
          have fin : ∀ ls' : Array Slot, lv_has ls' M.2.2.1 ((j, Value.ref q) :: px_trL ad aS (px_drop L j)) → W p l e R s m args below meth c H locs cn sn Q (F0 m (hp + n) ls' []) := fun ls' hl' =>
            K H ls' locs hP hD hS ⟨hl'.1, hl'.2.1, fun z hz => hl'.2.2 z (List.mem_cons_of_mem _ hz)⟩
          have hflt : (j, Value.ref q) :: (px_trL ad aS L).filter (fun q => !(q.1 == j) && !(q.1 + 1 == j && q.2.category == 2)) = (j, Value.ref q) :: px_trL ad aS (px_drop L j) := by rw [px_drop_tr]
          obtain ⟨i, len, rs⟩ := en
          dsimp only at hdec hlen
          unfold px_aj at hj
          split at hj
          · rename_i j' hi
            cases hj
            dsimp only at hi
            subst hi
            subst hlen
            exact lv_astore_n hx hb hdec rfl hl (px_blt h1) hflt fin
          · rename_i j' hi
            cases hj
            dsimp only at hi
            subst hi
            subst hlen
            exact lv_astore hx hb hdec hl (px_blt h1) hflt fin
          · cases hj
end PXY
section PXV
variable {mt : Nat → Option px_Mt} {ft : Nat → Nat → FieldType} {X : px_X} {l : Launch} {Ts : List Cond} {cl : List vw_C}
theorem px_okB.tk {M : px_Mt} (h : px_okB mt Ts cl X M) : px_TK M := fun pc en he k => (h.2 pc en he).2.2.2.2.2.2.2.1 k
set_option maxHeartbeats 8000000 in
theorem px_sound (hl : l.stackTraces = false) (hgood : ∀ w ∈ Ts, goodWord w = true) (hcl : px_Cls Ts cl ft) (hft : ∀ a k x, defaultValue (ft a k) ≠ .float x) (hstr : px_HStr l X Ts cl ft) (hmt : ∀ a M, mt a = some M → px_okMt mt Ts cl X M) : ∀ n, px_Snd mt ft X l Ts cl n := by
  intro n
  induction n with
  | zero => intro d M scr pc L st h cn sn r h' C S _ H; cases H
  | succ n ih =>
    intro d M scr pc L st h cn sn r h' C S hM H oS oL oH p e R s m args below meth c D dA aS aV A ad ad0 n0 F FS htab hret hlocks hRf hRl hRc hRs hag hn0
    have mono := fun n d M scr pc L st h cn sn r h' C S (hM : px_okB mt Ts cl X M) => px_run_mono (mt := mt) (ft := ft) (X := X) (fun a M hM => (hmt a M hM).b.tk) n d M scr pc L st h cn sn r h' C S hM.tk
    obtain ⟨en, hen, hc⟩ := px_run_inv H
    obtain ⟨k1, k2, k3, k4, k5, k6, k7, k8, k9, k10⟩ := hM.2 pc en hen
    rcases hc with ⟨q, hq, hr⟩ | ⟨q, hq, hr⟩ | ⟨q, hq, hr⟩ | ⟨k, hk, hh, hr⟩ | ⟨q, hq, hr, hnT⟩ | ⟨v, hv, hr⟩ | ⟨q, hq, z, h1, mc, ms, hz, hc⟩
    · obtain ⟨o1, o2⟩ := px_L_ok hq oS oL
      exact px_L_sound F.1 F.2.1 k1 k2 hq (ih d M scr q.1 q.2.1 q.2.2 h cn sn r h' C S hM hr o1 o2 oH p e R s m args below meth c D dA aS aV A ad ad0 n0 F FS htab hret hlocks hRf hRl hRc hRs hag hn0)
    · obtain ⟨o1, o2, e1⟩ := px_M_ok (k8 _) hq oS oH
      rw [← e1] at o1 o2 oL hn0
      exact px_M_sound F FS k1 k3 hq (ih d M scr q.1 L q.2.1 q.2.2 cn sn r h' C S hM hr o1 oL o2 p e R s m args below meth c D dA aS aV A ad ad0 n0 F FS htab hret hlocks hRf hRl hRc hRs hag hn0)
    · obtain ⟨o1, o2, e1⟩ := px_P_ok hq oS oH
      rw [← e1] at o1 o2 oL hn0
      obtain ⟨g1, g2, -⟩ := mono _ _ _ _ _ _ _ _ _ _ _ _ _ _ hM hr o1 oL o2
      exact px_P_sound hstr F k1 k4 hq hRf hRl (by omega) (by omega) (ih d M scr (pc + 3) L q.1 q.2 cn sn r h' C S hM hr o1 oL o2 p e R s m args below meth c D dA aS aV A ad ad0 n0 F FS htab hret hlocks hRf hRl hRc hRs hag hn0)
    · cases hr
      rw [hh] at htab
      exact px_T_sound hl F k1 k5 hk htab hlocks hRf hRl hRc hRs hag
    · obtain ⟨kk, r0, ec, m0⟩ := q
      dsimp only at hr
      obtain ⟨o1, o2⟩ := px_N_ok hq oS
      have hlen : (h ++ [ec]).length = h.length + 1 := by simp
      have o3 : px_okS (h ++ [ec]).length (.ref h.length :: r0) := px_okS_cons (fun a ha => by cases ha; rw [hlen]; exact Nat.lt_succ_self _) (o1.mono (by rw [hlen]; exact Nat.le_succ _))
      have o4 : px_okH (h ++ [ec]).length (h ++ [ec]) := fun x hx => by
        rcases List.mem_append.mp hx with hx | hx
        · exact (oH x hx).mono (by omega)
        · rw [List.mem_singleton.mp hx]; exact o2.mono (by omega)
      have o5 := oL.mono (k := (h ++ [ec]).length) (by omega)
      obtain ⟨g1, g2, -⟩ := mono _ _ _ _ _ _ _ _ _ _ _ _ _ _ hM hr o3 o5 o4
      exact px_N_sound F hft oS oL oH k1 k6 hq ⟨by omega, by omega⟩ (fun q => ih d M scr (pc + kk) L (.ref h.length :: r0) (h ++ [ec]) (cn + 1) (sn + m0) r h' C S hM hr o3 o5 o4 p e R s m args below meth c D dA aS aV A (va_up ad h.length q) ad0 n0 F FS htab hret hlocks hRf hRl hRc hRs (hag.trans (px_up_agree h.length q ad) hn0) (by omega))
    · cases hr
      exact px_E_sound F k1 k9 hret hv hlocks hag
    · have hM1 := hmt _ _ (px_I_inv hq).1
      obtain ⟨oa, or⟩ := px_I_ok hq oS
      obtain ⟨g1, g2, g3, g4, g5⟩ := mono _ _ _ _ _ _ _ _ _ _ _ _ _ _ hM1.b hz px_okS_nil (px_args_ok _ 0 oa) oH
      have ct := px_ct hcl ih hM1 hz oa oH (px_I_inv hq).2.2.2.1
      rcases hc with ⟨v, rfl, hr⟩ | ⟨x, rfl, hni, hc⟩
      · have o1 : px_okS h1.length (v.toList ++ q.2.2.2) := px_okS_app (fun w hw => by
          cases v with
          | none => cases hw
          | some u => rw [List.mem_singleton.mp hw]; exact g5 u rfl) (or.mono g3)
        obtain ⟨f1, f2, -⟩ := mono _ _ _ _ _ _ _ _ _ _ _ _ _ _ hM hr o1 (oL.mono g3) g4
        intro H9 ls locs hP hD hS hls
        obtain ⟨av, hrun⟩ := px_I_sound (cn := cn) (sn := sn) (R := R) (e := e) (below := below) hgood F k1 k7 hq hM1 (fun _ => ⟨v, rfl⟩) ct hRf hRl (by omega) (by omega) hP hD hS hls.1
        exact px_back F.2.2.2.2.2.2.1 or oL hrun hD hS hls (fun ad' hag' => ih d M scr (pc + 3) L (v.toList ++ q.2.2.2) h1 (cn + mc) (sn + ms) r h' C S hM hr o1 (oL.mono g3) g4 p e R s m args below meth c D dA aS aV A ad' ad0 n0 F FS htab hret hlocks hRf hRl hRc hRs (hag.trans hag' hn0) (by omega))
      · have hnoI : px_isI en.1 = true → ∃ v, (Sum.inr x : px_Res) = .inl v := fun hz => by rw [hni] at hz; cases hz
        rcases hc with ⟨hh, hr⟩ | ⟨w, hw, hne, hr⟩
        · cases hr
          rw [hh] at htab
          intro H9 ls locs hP hD hS hls
          obtain ⟨av, hrun⟩ := px_I_sound (cn := cn) (sn := sn) (R := R) (e := e) (below := below) hgood F k1 k7 hq hM1 hnoI ct hRf hRl hRc hRs hP hD hS hls.1
          refine px_backX F.2.2.2.2.2.2.1 hrun hD hS (fun ad' q9 ce H1 locs1 hag' g1 g2 g3 hce hcv hcc => ?_)
          exact vx_out (E := px_exn x) (fun y hy => by rw [htab] at hy; cases hy) hlocks hce hcv hcc (fun t ht _ => ⟨x, ad', rfl, rfl, hag.trans hag' hn0, by rw [ht]; exact g1, g2, g3.F ht⟩) g3.2.2 (Nat.le_refl _) (Nat.le_refl _)
        · have o1 : px_okLs h1.length w.2 := by
            have hw' := hw
            unfold px_land at hw'
            split at hw'
            · cases hw'
            · split at hw'
              · cases hw'
              · split at hw'
                · cases hw'
                · obtain ⟨-, h2⟩ := px_cond_some hw'
                  subst h2
                  exact fun q hq => (oL.mono g3) q (List.mem_filter.mp hq).1
          obtain ⟨f1, f2, -⟩ := mono _ _ _ _ _ _ _ _ _ _ _ _ _ _ hM hr px_okS_nil o1 g4
          intro H9 ls locs hP hD hS hls
          obtain ⟨av, hrun⟩ := px_I_sound (cn := cn) (sn := sn) (R := R) (e := e) (below := below) hgood F k1 k7 hq hM1 hnoI ct hRf hRl (by omega) (by omega) hP hD hS hls.1
          refine px_backX F.2.2.2.2.2.2.1 hrun hD hS (fun ad' q9 ce H1 locs1 hag' g1 g2 g3' hce hcv hcc => ?_)
          exact px_H_sound hM F htab hw hce hcv hcc g1 g2 g3' (by rw [px_L_agree hag' oL]; exact hls) (ih d M scr w.1 w.2 [] h1 (cn + mc) (sn + ms) r h' C S hM hr px_okS_nil o1 g4 p e R s m args below meth c D dA aS aV A ad' ad0 n0 F FS htab hret hlocks hRf hRl hRc hRs (hag.trans hag' hn0) (by omega))
end PXV
