/-! ===== references that point into the heap; new cells ===== -/
def px_okV (n : Nat) (v : Value) : Prop := ∀ a, v = .ref a → a < n
def px_okS (n : Nat) (st : List Value) : Prop := ∀ v ∈ st, px_okV n v
def px_okLs (n : Nat) (L : px_Ls) : Prop := ∀ q ∈ L, px_okV n q.2
def px_okE (n : Nat) (e : px_E) : Prop := ∀ (ci : Nat) (fs : List Value), e = .inr (ci, fs) → px_okS n fs
def px_okH (n : Nat) (h : px_H) : Prop := ∀ e ∈ h, px_okE n e
def px_agree (n : Nat) (ad ad' : Nat → Nat) : Prop := ∀ a, a < n → ad' a = ad a
theorem px_tr_agree {n : Nat} {ad ad' aS : Nat → Nat} {v : Value} (hg : px_agree n ad ad') (hv : px_okV n v) : px_tr ad' aS v = px_tr ad aS v := by
  cases v with
  | ref a => exact congrArg Value.ref (hg a (hv a rfl))
  | _ => rfl
theorem px_st_agree {n : Nat} {ad ad' aS : Nat → Nat} {st : List Value} (hg : px_agree n ad ad') (hv : px_okS n st) : st.map (px_tr ad' aS) = st.map (px_tr ad aS) :=
  List.map_congr_left fun v h => px_tr_agree hg (hv v h)
theorem px_L_agree {n : Nat} {ad ad' aS : Nat → Nat} {L : px_Ls} (hg : px_agree n ad ad') (hv : px_okLs n L) : px_trL ad' aS L = px_trL ad aS L :=
  List.map_congr_left fun q h => by rw [px_tr_agree hg (hv q h)]
theorem px_E_agree {n : Nat} {dA : Nat → ClassId} {ad ad' aS : Nat → Nat} {e : px_E} (hg : px_agree n ad ad') (hv : px_okE n e) : px_trE dA ad' aS e = px_trE dA ad aS e := by
  rcases e with ⟨t, a⟩ | ⟨ci, fs⟩
  · rfl
  · show Sum.inr (ci, fs.map (px_tr ad' aS)) = Sum.inr (ci, fs.map (px_tr ad aS))
    rw [px_st_agree hg (hv ci fs rfl)]
theorem px_ws_agree {dA : Nat → ClassId} {ad ad' aS : Nat → Nat} {h : px_H} (hg : px_agree h.length ad ad') (hv : px_okH h.length h) : px_ws dA ad' aS h = px_ws dA ad aS h := by
  apply List.ext_getElem?
  intro k
  rw [px_ws_get, px_ws_get]
  cases hk : h[k]? with
  | none => rfl
  | some e =>
    have h1 : k < h.length := (List.getElem?_eq_some_iff.mp hk).1
    show some (ad' k, px_trE dA ad' aS e) = some (ad k, px_trE dA ad aS e)
    rw [hg k h1, px_E_agree hg (hv e (List.mem_of_getElem? hk))]
theorem px_okV.mono {n k : Nat} {v : Value} (h : px_okV n v) (hk : n ≤ k) : px_okV k v := fun a e => Nat.lt_of_lt_of_le (h a e) hk
theorem px_okS.mono {n k : Nat} {st : List Value} (h : px_okS n st) (hk : n ≤ k) : px_okS k st := fun v hv => (h v hv).mono hk
theorem px_okLs.mono {n k : Nat} {L : px_Ls} (h : px_okLs n L) (hk : n ≤ k) : px_okLs k L := fun v hv => (h v hv).mono hk
theorem px_okE.mono {n k : Nat} {e : px_E} (h : px_okE n e) (hk : n ≤ k) : px_okE k e := fun ci fs he => (h ci fs he).mono hk
theorem px_okH.mono {n k : Nat} {h : px_H} (H : px_okH n h) (hk : n ≤ k) : px_okH k h := fun v hv => (H v hv).mono hk
/-- new cells: how long the instruction is, the rest of the stack, the cell, its slots -/
def px_dfl (f : Nat → FieldType) (N : Nat) : List Value := (List.range N).map (fun k => defaultValue (f k))
def px_arr (t n : Nat) : px_E := match t with
  | 0 => .inl (0, n, .inl (fun _ => 0))
  | 1 => .inl (1, n, .inr (.inl (fun _ => 0)))
  | 2 => .inl (2, n, .inl (fun _ => 0))
  | _ => .inl (3, n, .inr (.inr (.inr (.inr (fun _ => none)))))
def px_N (ft : Nat → Nat → FieldType) (i : Instr) (a b : Nat) (st : List Value) : Option (Nat × List Value × px_E × Nat) := match i with
  | .new _ => bif Nat.blt a 900 then some (3, st, .inr (a, px_dfl (ft a) b), b) else none
  | .newarray _ => (match st with
    | .int n :: r => bif (!decide (n < 0) && Nat.ble n.toNatClampNeg 1000000) then some (2, r, px_arr a n.toNatClampNeg, n.toNatClampNeg) else none
    | _ => none)
  | .anewarray _ => (match st with
    | .int n :: r => bif (!decide (n < 0) && Nat.ble n.toNatClampNeg 1000000) then some (3, r, px_arr 3 n.toNatClampNeg, n.toNatClampNeg) else none
    | _ => none)
  | _ => none
def px_okN (Ts : List Cond) (cl : List vw_C) (own : String) (i : Instr) (len a b : Nat) : Prop := match i with
  | .new idx => a < 900 → len = 3 ∧ ∃ (C : String) (T : u_T), cl[a]? = some (C, T, b) ∧ Cond.classLink own idx C ∈ Ts
  | .newarray t => len = 2 ∧ ((a = 0 ∧ t = .int ∧ Cond.arrayClass .int ∈ Ts) ∨ (a = 1 ∧ t = .long ∧ Cond.arrayClass .long ∈ Ts) ∨ (a = 2 ∧ t = .byte ∧ Cond.arrayClass .byte ∈ Ts))
  | .anewarray idx => len = 3 ∧ Cond.classLink own idx "java/lang/String" ∈ Ts
  | _ => True
theorem px_dv_ok (n : Nat) (t : FieldType) : px_okV n (defaultValue t) := by
  intro a h
  cases t <;> cases h
theorem px_dv_tr (ad aS : Nat → Nat) (t : FieldType) (h : ∀ x, defaultValue t ≠ .float x) : px_tr ad aS (defaultValue t) = defaultValue t := by
  cases t <;> first | rfl | exact absurd rfl (h _)
section PXN
variable {p : Program} {l : Launch} {e : Env} {R : Room} {s : State} {m : MethodId} {args : Array Value} {below : List Frame} {meth : Method} {c : Code} {D : va_G} {cl : List vw_C} {dA : Nat → ClassId} {aS aV : Nat → Nat} {A : Nat → Prop} {nL : Nat} {Q : State → Prop} {ad : Nat → Nat} {h h' : px_H} {cn sn : Nat} {cc : ByteArray} {own : String} {ini : Bool} {Ts : List Cond} {ft : Nat → Nat → FieldType} {X : px_X} {scr : Option (Nat × (Nat → Int32))}
theorem px_up_agree (n q : Nat) (ad : Nat → Nat) : px_agree n ad (va_up ad n q) := fun a ha => by
  unfold va_up
  rw [if_neg (by omega)]
theorem px_grow {L : px_Ls} {r : List Value} {ec : px_E} {pc' cn' sn' q : Nat} (oS : px_okS h.length r) (oL : px_okLs h.length L) (oH : px_okH h.length h) (oE : px_okE h.length ec)
    (K : px_W p l e R s m args below meth c D cl dA aS A nL Q (va_up ad h.length q) pc' L (.ref h.length :: r) (h ++ [ec]) cn' sn') {H1 : Heap} {ls : Array Slot} {locs : List Loc} (g1 : va_P D cl (px_ws dA ad aS h ++ [(q, px_trE dA ad aS ec)]) H1) (g2 : va_D A (px_ws dA ad aS h ++ [(q, px_trE dA ad aS ec)])) (g3 : va_S A s.heap H1 locs) (hl : lv_has ls nL (px_trL ad aS L)) :
    W p l e R s m args below meth c H1 locs cn' sn' Q (F0 m pc' ls (.ref q :: r.map (px_tr ad aS))) := by
  have ag := px_up_agree h.length q ad
  have eq : va_up ad h.length q h.length = q := by unfold va_up; rw [if_pos rfl]
  have e1 : px_ws dA (va_up ad h.length q) aS (h ++ [ec]) = px_ws dA ad aS h ++ [(q, px_trE dA ad aS ec)] := by
    rw [px_ws_app, px_ws_agree ag oH, px_E_agree ag oE, eq]
  have e2 : px_trL (va_up ad h.length q) aS L = px_trL ad aS L := px_L_agree ag oL
  have k1 := K H1 ls locs (by rw [e1]; exact g1) (by rw [e1]; exact g2) g3 (by rw [e2]; exact hl)
  rw [List.map_cons, px_st_agree ag oS, show px_tr (va_up ad h.length q) aS (.ref h.length) = .ref q from congrArg Value.ref eq] at k1
  exact k1
set_option maxHeartbeats 4000000 in
theorem px_N_sound (F : px_Fx p s m args meth c cc nL own ini Ts D cl ft dA aS aV A X) (hft : ∀ a k x, defaultValue (ft a k) ≠ .float x) {i : Instr} {len a b pc k n : Nat} {L : px_Ls} {st r : List Value} {ec : px_E} (oS : px_okS h.length st) (oL : px_okLs h.length L) (oH : px_okH h.length h) (hd : decode cc pc = .ok (i, len)) (ok : px_okN Ts cl own i len a b) (hs : px_N ft i a b st = some (k, r, ec, n)) (hR : cn + 1 ≤ R.cells ∧ sn + n ≤ R.slots)
    (K : ∀ q, px_W p l e R s m args below meth c D cl dA aS A nL Q (va_up ad h.length q) (pc + k) L (.ref h.length :: r) (h ++ [ec]) (cn + 1) (sn + n)) : px_W p l e R s m args below meth c D cl dA aS A nL Q ad pc L st h cn sn := by
  obtain ⟨hx, hb, hml, hown, hts, hK, hA, hini, hcl, hstr, hsl, hAO, -, -, -, -⟩ := F
  intro H ls locs hP hD hS hl
  cases i
  case new idx =>
    obtain ⟨hb9, hs⟩ := px_cond_some (show (bif Nat.blt a 900 then some (3, st, Sum.inr (a, px_dfl (ft a) b), b) else none) = some (k, r, ec, n) from hs)
    obtain ⟨rfl, C, T, hc, hlink⟩ := ok (px_blt hb9)
    cases hs
    obtain ⟨q1, q2, q3, q4, q5⟩ := hcl _ _ _ _ hc
    have oE : px_okE h.length (.inr (a, px_dfl (ft a) b)) := by
      intro ci fs he v hv
      cases he
      obtain ⟨k, -, rfl⟩ := List.mem_map.mp hv
      exact px_dv_ok _ _
    have etr : px_trE dA ad aS (.inr (a, px_dfl (ft a) b)) = .inr (a, px_dfl (ft a) b) := by
      show Sum.inr (a, (px_dfl (ft a) b).map (px_tr ad aS)) = Sum.inr (a, px_dfl (ft a) b)
      congr 2
      unfold px_dfl
      rw [List.map_map]
      apply List.map_congr_left
      intro k _
      exact px_dv_tr ad aS _ (hft a k)
    refine va_new hx hb hts q1 (ft a) q2 hown (hts _ hlink) (hts _ q4) (hts _ q5) hK hP hD hS hA hc (fs := px_dfl (ft a) b) (fun j hj => ?_) hR.1 hR.2 hd (fun q H1 g1 g2 g3 => ?_)
    · unfold vp_V px_dfl
      simp [hj]
    · exact px_grow oS oL oH oE (K q) (by rw [etr]; exact g1) (by rw [etr]; exact g2) g3 hl
  case newarray t =>
    obtain ⟨rfl, hty⟩ := ok
    cases st with
    | nil => cases hs
    | cons v r0 =>
      cases v <;> first | (cases hs; done) | skip
      rename_i n0
      obtain ⟨h1, h2⟩ := px_cond_some hs
      cases h2
      obtain ⟨h3, h4⟩ := Bool.and_eq_true_iff.mp h1
      have hn : ¬ n0 < 0 := fun z => by rw [decide_eq_true z] at h3; cases h3
      have hle : n0.toNatClampNeg ≤ 1000000 := Nat.le_of_ble_eq_true h4
      have oS' : px_okS h.length r := fun v hv => oS v (List.mem_cons_of_mem _ hv)
      rcases hty with ⟨rfl, rfl, hw⟩ | ⟨rfl, rfl, hw⟩ | ⟨rfl, rfl, hw⟩
      · refine va_newa (atype := .int) (ty := .int) (a0 := (n0.toNatClampNeg, .inl (fun _ => 0))) (N' := n0.toNatClampNeg) hx hb (hts _ hw) rfl hK hP hD hS hA (fun cA => rfl) hn rfl (by show n0.toNatClampNeg * 4 ≤ 536870912; omega) hR.1 hR.2 hd (fun q cA H1 gK g1 g2 g3 => ?_)
        have e1 : cA = dA 0 := Option.some.inj ((show s.vm.findClass _ = some cA from (gK.2 4 (cA, .int) rfl).2).symm.trans (show s.vm.findClass _ = some (dA 0) from (hK.2 0 (dA 0, .int) rfl).2))
        subst e1
        exact px_grow oS' oL oH (fun ci fs he => by cases he) (K q) g1 g2 g3 hl
      · refine va_newa (atype := .long) (ty := .long) (a0 := (n0.toNatClampNeg, .inr (.inl (fun _ => 0)))) (N' := n0.toNatClampNeg) hx hb (hts _ hw) rfl hK hP hD hS hA (fun cA => rfl) hn rfl (by show n0.toNatClampNeg * 8 ≤ 536870912; omega) hR.1 hR.2 hd (fun q cA H1 gK g1 g2 g3 => ?_)
        have e1 : cA = dA 1 := Option.some.inj ((show s.vm.findClass _ = some cA from (gK.2 4 (cA, .long) rfl).2).symm.trans (show s.vm.findClass _ = some (dA 1) from (hK.2 1 (dA 1, .long) rfl).2))
        subst e1
        exact px_grow oS' oL oH (fun ci fs he => by cases he) (K q) g1 g2 g3 hl
      · refine va_newa (atype := .byte) (ty := .byte) (a0 := (n0.toNatClampNeg, .inl (fun _ => 0))) (N' := n0.toNatClampNeg) hx hb (hts _ hw) rfl hK hP hD hS hA (fun cA => rfl) hn rfl (by show n0.toNatClampNeg * 1 ≤ 536870912; omega) hR.1 hR.2 hd (fun q cA H1 gK g1 g2 g3 => ?_)
        have e1 : cA = dA 2 := Option.some.inj ((show s.vm.findClass _ = some cA from (gK.2 4 (cA, .byte) rfl).2).symm.trans (show s.vm.findClass _ = some (dA 2) from (hK.2 2 (dA 2, .byte) rfl).2))
        subst e1
        exact px_grow oS' oL oH (fun ci fs he => by cases he) (K q) g1 g2 g3 hl
  case anewarray idx =>
    obtain ⟨rfl, hlink⟩ := ok
    cases st with
    | nil => cases hs
    | cons v r0 =>
      cases v <;> first | (cases hs; done) | skip
      rename_i n0
      obtain ⟨h1, h2⟩ := px_cond_some hs
      cases h2
      obtain ⟨h3, h4⟩ := Bool.and_eq_true_iff.mp h1
      have hn : ¬ n0 < 0 := fun z => by rw [decide_eq_true z] at h3; cases h3
      have hle : n0.toNatClampNeg ≤ 1000000 := Nat.le_of_ble_eq_true h4
      have oS' : px_okS h.length r := fun v hv => oS v (List.mem_cons_of_mem _ hv)
      refine va_newq (N' := n0.toNatClampNeg) hx hb hown (hts _ hlink) hAO hK hP hD hS hA hn rfl (by omega) hR.1 hR.2 hd (fun q cA H1 gK g1 g2 g3 => ?_)
      have e1 : cA = dA 3 := by
        obtain ⟨k1, c1, a1, a2, a3, a4⟩ := (show va_RA s cA (.object "java/lang/String") from (gK.2 4 (cA, .object "java/lang/String") rfl).2)
        obtain ⟨k2, c2, b1, b2, b3, b4⟩ := (show va_RA s (dA 3) (.object "java/lang/String") from (hK.2 3 (dA 3, .object "java/lang/String") rfl).2)
        exact Option.some.inj (a4.symm.trans b4)
      subst e1
      exact px_grow oS' oL oH (fun ci fs he => by cases he) (K q) g1 g2 g3 hl
  all_goals cases hs
end PXN
