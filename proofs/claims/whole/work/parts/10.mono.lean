/-! ===== a run, step by step; what it keeps ===== -/
section PXI
variable {mt : Nat → Option px_Mt} {ft : Nat → Nat → FieldType} {X : px_X}
theorem px_run_inv {n d : Nat} {M : px_Mt} {scr : Option (Nat × (Nat → Int32))} {pc : Nat} {L : px_Ls} {st : List Value} {h : px_H} {cn sn : Nat} {R : px_Res × px_H × Nat × Nat} (H : px_run mt ft X (n + 1) d M scr pc L st h cn sn = some R) : ∃ en, M.2.2.2.2.2.2 pc = some en ∧
    ((∃ q, px_L M.2.2.1 en.1 en.2.2.1 pc L st = some q ∧ px_run mt ft X n d M scr q.1 q.2.1 q.2.2 h cn sn = some R) ∨
     (∃ q, px_M X.1.length ft scr en.1 en.2.2.1 en.2.2.2.1 en.2.2.2.2.2 pc st h = some q ∧ px_run mt ft X n d M scr q.1 L q.2.1 q.2.2 cn sn = some R) ∨
     (∃ q, px_P X d en.1 en.2.2.1 st h = some q ∧ px_run mt ft X n d M scr (pc + 3) L q.1 q.2 cn sn = some R) ∨
     (∃ k, px_T d en.1 en.2.2.1 st = some k ∧ M.2.2.2.2.1 = [] ∧ R = (.inr k, h, cn + 1, sn + 6)) ∨
     (∃ q, px_N ft en.1 en.2.2.1 en.2.2.2.1 st = some q ∧ px_run mt ft X n d M scr (pc + q.1) L (.ref h.length :: q.2.1) (h ++ [q.2.2.1]) (cn + 1) (sn + q.2.2.2) = some R ∧ px_T d en.1 en.2.2.1 st = none) ∨
     (∃ v, px_end M.2.2.2.1 en.1 st = some v ∧ R = (.inl v, h, cn, sn)) ∨
     (∃ q, px_I mt d en.1 en.2.2.1 en.2.2.2.1 en.2.2.2.2.1 st h = some q ∧ ∃ z h' c k, px_run mt ft X n q.1 q.2.1 none 0 (lv_args 0 q.2.2.1) [] h 0 0 = some (z, h', c, k) ∧
       ((∃ v, z = .inl v ∧ px_run mt ft X n d M scr (pc + 3) L (v.toList ++ q.2.2.2) h' (cn + c) (sn + k) = some R) ∨
        (∃ x, z = .inr x ∧ px_isI en.1 = false ∧ ((M.2.2.2.2.1 = [] ∧ R = (.inr x, h', cn + c, sn + k)) ∨ (∃ w, px_land M pc x L = some w ∧ M.2.2.2.2.1 ≠ [] ∧ px_run mt ft X n d M scr w.1 w.2 [] h' (cn + c) (sn + k) = some R)))))) := by
  unfold px_run at H
  split at H
  · cases H
  · rename_i en hen
    refine ⟨en, hen, ?_⟩
    split at H
    · rename_i q hq
      exact Or.inl ⟨q, hq, H⟩
    · right
      split at H
      · rename_i q hq
        exact Or.inl ⟨q, hq, H⟩
      · right
        split at H
        · rename_i q hq
          exact Or.inl ⟨q, hq, H⟩
        · right
          split at H
          · rename_i k hk
            left
            split at H
            · rename_i hh
              exact ⟨k, hk, hh, (Option.some.inj H).symm⟩
            · cases H
          · rename_i hT
            right
            split at H
            · rename_i q hq
              exact Or.inl ⟨q, hq, H, hT⟩
            · right
              split at H
              · rename_i v hv
                exact Or.inl ⟨v, hv, (Option.some.inj H).symm⟩
              · right
                split at H
                · cases H
                · rename_i q hq
                  refine ⟨q, hq, ?_⟩
                  split at H
                  · cases H
                  · rename_i v h' c k hr
                    exact ⟨_, h', c, k, hr, Or.inl ⟨v, rfl, H⟩⟩
                  · rename_i x h' c k hr
                    obtain ⟨hi, H⟩ := px_noneif H
                    refine ⟨_, h', c, k, hr, Or.inr ⟨x, rfl, hi, ?_⟩⟩
                    split at H
                    · rename_i hh
                      exact Or.inl ⟨hh, (Option.some.inj H).symm⟩
                    · rename_i hne
                      split at H
                      · cases H
                      · rename_i w hw
                        exact Or.inr ⟨w, hw, hne, H⟩
theorem px_P_ok {d : Nat} {i : Instr} {a k : Nat} {st st' : List Value} {h h' : px_H} (hs : px_P X d i a st h = some (st', h')) (oS : px_okS k st) (oH : px_okH k h) : px_okS k st' ∧ px_okH k h' ∧ h'.length = h.length := by
  cases i
  case invokespecial idx =>
    change (bif Nat.beq a 1000 then px_init d st h else none) = some (st', h') at hs
    cases h1 : Nat.beq a 1000 <;> rw [h1] at hs
    · cases hs
    · change px_init d st h = some (st', h') at hs
      unfold px_init at hs
      split at hs
      · obtain ⟨h2, h3⟩ := px_cond_some hs
        cases h3
        exact ⟨px_okS_tl oS, oH, rfl⟩
      · cases hs
  case invokestatic idx =>
    have m2 : ∀ f, px_m2 f d st h = some (st', h') → px_okS k st' ∧ px_okH k h' ∧ h'.length = h.length := by
      intro f hs
      unfold px_m2 at hs
      split at hs
      · obtain ⟨h2, h3⟩ := px_cond_some hs
        cases h3
        exact ⟨px_okS_cons (px_ok_int _ _) (px_okS_tl (px_okS_tl oS)), oH, rfl⟩
      · cases hs
    change (bif Nat.beq a 1001 then px_m2 px_max d st h else bif Nat.beq a 1002 then px_m2 px_min d st h else bif Nat.beq a 1003 then px_m1 px_abs d st h else bif Nat.beq a 1004 then px_cp d st h else none) = some (st', h') at hs
    cases h1 : Nat.beq a 1001 <;> rw [h1] at hs
    · cases h1 : Nat.beq a 1002 <;> rw [h1] at hs
      · cases h1 : Nat.beq a 1003 <;> rw [h1] at hs
        · cases h1 : Nat.beq a 1004 <;> rw [h1] at hs
          · cases hs
          · change px_cp d st h = some (st', h') at hs
            unfold px_cp at hs
            split at hs
            · split at hs
              · split at hs
                · obtain ⟨h2, h3⟩ := px_cond_some hs
                  cases h3
                  exact ⟨px_okS_tl (px_okS_tl (px_okS_tl (px_okS_tl (px_okS_tl oS)))), px_okH_set oH px_okE_arr, List.length_set⟩
                · cases hs
              · cases hs
            · cases hs
        · change px_m1 px_abs d st h = some (st', h') at hs
          unfold px_m1 at hs
          split at hs
          · obtain ⟨h2, h3⟩ := px_cond_some hs
            cases h3
            exact ⟨px_okS_cons (px_ok_int _ _) (px_okS_tl oS), oH, rfl⟩
          · cases hs
      · exact m2 _ hs
    · exact m2 _ hs
  case invokevirtual idx =>
    change (bif Nat.beq a 1005 then px_sl X d st h else bif Nat.beq a 1006 then px_sc X d st h else none) = some (st', h') at hs
    cases h1 : Nat.beq a 1005 <;> rw [h1] at hs
    · cases h1 : Nat.beq a 1006 <;> rw [h1] at hs
      · cases hs
      · change px_sc X d st h = some (st', h') at hs
        unfold px_sc at hs
        split at hs
        · obtain ⟨h2, h3⟩ := px_cond_some hs
          cases h3
          exact ⟨px_okS_cons (px_ok_int _ _) (px_okS_tl (px_okS_tl oS)), oH, rfl⟩
        · cases hs
    · change px_sl X d st h = some (st', h') at hs
      unfold px_sl at hs
      split at hs
      · obtain ⟨h2, h3⟩ := px_cond_some hs
        cases h3
        exact ⟨px_okS_cons (px_ok_int _ _) (px_okS_tl oS), oH, rfl⟩
      · cases hs
  all_goals cases hs
theorem px_pop_spec : ∀ (k : Nat) (st acc as r : List Value), px_pop k st acc = some (as, r) → as.reverse ++ r = acc.reverse ++ st ∧ as.length = k + acc.length
  | 0, st, acc, as, r, h => by cases h; exact ⟨rfl, by omega⟩
  | k + 1, [], acc, as, r, h => by cases h
  | k + 1, v :: st, acc, as, r, h => by
    obtain ⟨h1, h2⟩ := px_pop_spec k st (v :: acc) as r h
    refine ⟨?_, ?_⟩
    · rw [h1]; simp
    · rw [h2, List.length_cons]; omega
theorem px_pop_ok {k n : Nat} {st as r : List Value} (h : px_pop k st [] = some (as, r)) (oS : px_okS n st) : px_okS n as ∧ px_okS n r := by
  obtain ⟨h1, -⟩ := px_pop_spec k st [] as r h
  have h2 : as.reverse ++ r = st := h1
  refine ⟨fun v hv => oS v ?_, fun v hv => oS v ?_⟩
  · rw [← h2]; exact List.mem_append_left _ (List.mem_reverse.mpr hv)
  · rw [← h2]; exact List.mem_append_right _ hv
theorem px_go_inv {M : px_Mt} {d : Nat} {as r : List Value} {q : Nat × px_Mt × List Value × List Value} (h : px_go M d as r = some q) : d = q.1 + 1 ∧ q.2.1 = M ∧ q.2.2.1 = as ∧ q.2.2.2 = r ∧ px_small r = true ∧ px_sum as ≤ M.2.2.1 := by
  unfold px_go at h
  split at h
  · cases h
  · obtain ⟨h1, h2⟩ := px_cond_some h
    obtain ⟨h3, h4⟩ := Bool.and_eq_true_iff.mp h1
    subst h2
    exact ⟨rfl, rfl, rfl, rfl, h3, px_ble h4⟩
/-- a call, seen apart -/
theorem px_I_inv {d : Nat} {i : Instr} {a b k : Nat} {st : List Value} {h : px_H} {q : Nat × px_Mt × List Value × List Value} (H : px_I mt d i a b k st h = some q) : mt a = some q.2.1 ∧ d = q.1 + 1 ∧ px_small q.2.2.2 = true ∧ px_sum q.2.2.1 ≤ q.2.1.2.2.1 ∧
    ((∃ idx x as ci fs, i = .invokevirtual idx ∧ px_pop b st [] = some (as, .ref x :: q.2.2.2) ∧ h[x]? = some (.inr (ci, fs)) ∧ ci = k ∧ q.2.2.1 = .ref x :: as) ∨
     (∃ idx x as, i = .invokespecial idx ∧ px_pop b st [] = some (as, .ref x :: q.2.2.2) ∧ q.2.2.1 = .ref x :: as) ∨
     (∃ idx, i = .invokestatic idx ∧ px_pop b st [] = some (q.2.2.1, q.2.2.2))) := by
  unfold px_I at H
  split at H
  · cases H
  · rename_i M hM
    split at H
    · split at H
      · rename_i idx as x r hp
        split at H
        · rename_i ci fs hx
          cases hc : Nat.beq ci k with
          | false => rw [hc] at H; cases H
          | true =>
            rw [hc] at H
            obtain ⟨e1, e2, e3, e4, e5, e6⟩ := px_go_inv H
            refine ⟨by rw [e2]; exact hM, e1, by rw [e4]; exact e5, by rw [e3, e2]; exact e6, Or.inl ⟨_, x, as, ci, fs, rfl, by rw [e4]; exact hp, hx, Nat.eq_of_beq_eq_true hc, e3⟩⟩
        · cases H
      · cases H
    · split at H
      · rename_i idx as x r hp
        obtain ⟨e1, e2, e3, e4, e5, e6⟩ := px_go_inv H
        exact ⟨by rw [e2]; exact hM, e1, by rw [e4]; exact e5, by rw [e3, e2]; exact e6, Or.inr (Or.inl ⟨_, x, as, rfl, by rw [e4]; exact hp, e3⟩)⟩
      · cases H
    · split at H
      · rename_i idx as r hp
        obtain ⟨e1, e2, e3, e4, e5, e6⟩ := px_go_inv H
        exact ⟨by rw [e2]; exact hM, e1, by rw [e4]; exact e5, by rw [e3, e2]; exact e6, Or.inr (Or.inr ⟨_, rfl, by rw [e3, e4]; exact hp⟩)⟩
      · cases H
    · cases H
theorem px_I_ok {d : Nat} {i : Instr} {a b k n : Nat} {st : List Value} {h : px_H} {q : Nat × px_Mt × List Value × List Value} (H : px_I mt d i a b k st h = some q) (oS : px_okS n st) : px_okS n q.2.2.1 ∧ px_okS n q.2.2.2 := by
  obtain ⟨-, -, -, -, hc⟩ := px_I_inv H
  rcases hc with ⟨idx, x, as, ci, fs, -, hp, -, -, e⟩ | ⟨idx, x, as, -, hp, e⟩ | ⟨idx, -, hp⟩
  · obtain ⟨o1, o2⟩ := px_pop_ok hp oS
    rw [e]
    exact ⟨px_okS_cons (px_okS_hd o2) o1, px_okS_tl o2⟩
  · obtain ⟨o1, o2⟩ := px_pop_ok hp oS
    rw [e]
    exact ⟨px_okS_cons (px_okS_hd o2) o1, px_okS_tl o2⟩
  · exact px_pop_ok hp oS
theorem px_args_ok {n : Nat} : ∀ (as : List Value) (i : Nat), px_okS n as → px_okLs n (lv_args i as)
  | [], _, _ => fun _ h => by cases h
  | v :: as, i, o => fun q hq => by
    rcases List.mem_cons.mp hq with rfl | hq
    · exact px_okS_hd o
    · exact px_args_ok as _ (px_okS_tl o) q hq
theorem px_end_ok {ret : Option FieldType} {i : Instr} {st : List Value} {v : Option Value} {n : Nat} (h : px_end ret i st = some v) : ∀ w, v = some w → px_okV n w := by
  intro w hw
  subst hw
  cases i
  case return_ =>
    change px_vret ret st = some (some w) at h
    unfold px_vret at h
    split at h
    · split at h <;> cases h
    · cases h
  case ireturn =>
    change px_iret ret st = some (some w) at h
    unfold px_iret at h
    split at h
    · split at h
      · cases h; exact px_ok_int _ _
      · obtain ⟨-, h2⟩ := px_cond_some h
        cases h2; exact px_ok_int _ _
      · cases h
    · cases h
  case lreturn =>
    change px_lret ret st = some (some w) at h
    unfold px_lret at h
    split at h
    · split at h
      · cases h; exact px_ok_long _ _
      · cases h
    · cases h
  all_goals cases h
def px_TK (M : px_Mt) : Prop := ∀ pc en, M.2.2.2.2.2.2 pc = some en → ∀ k, px_okV k en.2.2.2.2.2
set_option maxHeartbeats 4000000 in
theorem px_run_mono (hmt : ∀ a M, mt a = some M → px_TK M) : ∀ (n d : Nat) (M : px_Mt) (scr : Option (Nat × (Nat → Int32))) (pc : Nat) (L : px_Ls) (st : List Value) (h : px_H) (cn sn : Nat) (r : px_Res) (h' : px_H) (C S : Nat), px_TK M → px_run mt ft X n d M scr pc L st h cn sn = some (r, h', C, S) → px_okS h.length st → px_okLs h.length L → px_okH h.length h →
    cn ≤ C ∧ sn ≤ S ∧ h.length ≤ h'.length ∧ px_okH h'.length h' ∧ ∀ v, r = .inl (some v) → px_okV h'.length v := by
  intro n
  induction n with
  | zero => intro d M scr pc L st h cn sn r h' C S _ H; cases H
  | succ n ih =>
    intro d M scr pc L st h cn sn r h' C S hM H oS oL oH
    obtain ⟨en, hen, hc⟩ := px_run_inv H
    rcases hc with ⟨q, hq, hr⟩ | ⟨q, hq, hr⟩ | ⟨q, hq, hr⟩ | ⟨k, hk, -, hr⟩ | ⟨q, hq, hr, -⟩ | ⟨v, hv, hr⟩ | ⟨q, hq, z, h1, c, k, hz, hc⟩
    · obtain ⟨o1, o2⟩ := px_L_ok hq oS oL
      exact ih _ _ _ _ _ _ _ _ _ _ _ _ _ hM hr o1 o2 oH
    · obtain ⟨o1, o2, e⟩ := px_M_ok (hM pc en hen _) hq oS oH
      rw [← e] at o1 o2 oL
      obtain ⟨g1, g2, g3, g4⟩ := ih _ _ _ _ _ _ _ _ _ _ _ _ _ hM hr o1 oL o2
      exact ⟨g1, g2, by rw [← e]; exact g3, g4⟩
    · obtain ⟨o1, o2, e⟩ := px_P_ok hq oS oH
      rw [← e] at o1 o2 oL
      obtain ⟨g1, g2, g3, g4⟩ := ih _ _ _ _ _ _ _ _ _ _ _ _ _ hM hr o1 oL o2
      exact ⟨g1, g2, by rw [← e]; exact g3, g4⟩
    · cases hr
      exact ⟨by omega, by omega, Nat.le_refl _, oH, fun v hv => by cases hv⟩
    · obtain ⟨k, r0, ec, m0⟩ := q
      dsimp only at hr
      obtain ⟨o1, o2⟩ := px_N_ok hq oS
      have hl : (h ++ [ec]).length = h.length + 1 := by simp
      have o3 : px_okS (h ++ [ec]).length (.ref h.length :: r0) := px_okS_cons (fun a ha => by cases ha; rw [hl]; exact Nat.lt_succ_self _) (o1.mono (by rw [hl]; exact Nat.le_succ _))
      have o4 : px_okH (h ++ [ec]).length (h ++ [ec]) := fun x hx => by
        rcases List.mem_append.mp hx with hx | hx
        · exact (oH x hx).mono (by omega)
        · rw [List.mem_singleton.mp hx]; exact o2.mono (by omega)
      obtain ⟨g1, g2, g3, g4⟩ := ih _ _ _ _ _ _ _ _ _ _ _ _ _ hM hr o3 (oL.mono (by omega)) o4
      exact ⟨by omega, by omega, by omega, g4⟩
    · cases hr
      exact ⟨Nat.le_refl _, Nat.le_refl _, Nat.le_refl _, oH, fun w hw => px_end_ok hv w (Sum.inl.inj hw)⟩
    · obtain ⟨oa, or⟩ := px_I_ok hq oS
      have hM1 := hmt _ _ (px_I_inv hq).1
      obtain ⟨g1, g2, g3, g4, g5⟩ := ih _ _ _ _ _ _ _ _ _ _ _ _ _ hM1 hz px_okS_nil (px_args_ok _ 0 oa) oH
      rcases hc with ⟨v, rfl, hr⟩ | ⟨x, rfl, -, hc⟩
      · have o1 : px_okS h1.length (v.toList ++ q.2.2.2) := px_okS_app (fun w hw => by
          cases v with
          | none => cases hw
          | some u => rw [List.mem_singleton.mp hw]; exact g5 u rfl) (or.mono g3)
        obtain ⟨f1, f2, f3, f4⟩ := ih _ _ _ _ _ _ _ _ _ _ _ _ _ hM hr o1 (oL.mono g3) g4
        exact ⟨by omega, by omega, by omega, f4⟩
      · rcases hc with ⟨-, hr⟩ | ⟨w, hw, -, hr⟩
        · cases hr
          exact ⟨by omega, by omega, g3, g4, fun v hv => by cases hv⟩
        · have o1 : px_okLs h1.length w.2 := by
            unfold px_land at hw
            split at hw
            · cases hw
            · split at hw
              · cases hw
              · split at hw
                · cases hw
                · obtain ⟨-, h2⟩ := px_cond_some hw
                  subst h2
                  exact fun q hq => (oL.mono g3) q (List.mem_filter.mp hq).1
          obtain ⟨f1, f2, f3, f4⟩ := ih _ _ _ _ _ _ _ _ _ _ _ _ _ hM hr px_okS_nil o1 g4
          exact ⟨by omega, by omega, by omega, f4⟩
end PXI
