/-! ===== Kitchen: leaves ===== -/
theorem dv_5 : ((5 : Int32) = 0) = False := by decide
theorem dv_10 : ((10 : Int32) = 0) = False := by decide
theorem dv_3 : ((3 : Int32) = 0) = False := by decide
theorem in_m1 : Int32.ofInt (-1) = -1 := by decide
/-- two ends that differ in their answers alone -/
theorem r_ite {P : Prop} {q : Decidable P} {x y : Int32} {h : px_H} {c k : Nat} : (@ite _ P q (some (.inl (some (.int x)), h, c, k)) (some (.inl (some (.int y)), h, c, k)) : Option (px_Res × px_H × Nat × Nat)) = some (.inl (some (.int (@ite _ P q x y))), h, c, k) := by
  split <;> rfl
def k_clamp (n : Int32) : Int32 := if n < 0 then 0 else if 60 < n then 60 else n
/-- the note of a kettle by kind, spout, size, fill, heat, chalk -/
def k_note (kd sp sz f he c : Int32) : Int32 :=
  if kd = 1 then k_clamp (sp + (sz - f) / 5 + (he - 100) / 10 - c / 3 + -1) else k_clamp (sp + (sz - f) / 5 + (he - 100) / 10 - c / 3)
set_option maxHeartbeats 2000000 in
theorem k_noteOf {d : Nat} {t : List px_E} {g : hG} {k f he c : Int32} {cn sn : Nat} (hk : px_out k 8 = false) :
    bc d M_X4_noteOf none 0 [some (.ref 16), some (.int k), some (.int f), some (.int he), some (.int c), none] [] (hp t g) cn sn = some (.inl (some (.int (k_note (g.1 17 k.toNatClampNeg) (g.1 18 k.toNatClampNeg) (g.1 19 k.toNatClampNeg) f he c))), hp t g, cn, sn) := by
  simp only [st_X4_noteOf_0, st_X4_noteOf_1, st_X4_noteOf_4, st_X4_noteOf_5, st_X4_noteOf_6, st_X4_noteOf_7, st_X4_noteOf_10, st_X4_noteOf_11, st_X4_noteOf_12, st_X4_noteOf_13, st_X4_noteOf_14, st_X4_noteOf_15, st_X4_noteOf_16, st_X4_noteOf_17, st_X4_noteOf_18, st_X4_noteOf_20, st_X4_noteOf_21, st_X4_noteOf_23, st_X4_noteOf_24, st_X4_noteOf_25, st_X4_noteOf_27, st_X4_noteOf_28, st_X4_noteOf_29, st_X4_noteOf_30, st_X4_noteOf_32, st_X4_noteOf_33, st_X4_noteOf_36, st_X4_noteOf_37, st_X4_noteOf_38, st_X4_noteOf_39, st_X4_noteOf_42, st_X4_noteOf_45, st_X4_noteOf_47, st_X4_noteOf_50, st_X4_noteOf_51, st_X4_noteOf_52, st_X4_noteOf_54, st_X4_noteOf_56, st_X4_noteOf_59, st_X4_noteOf_61, st_X4_noteOf_64, st_X4_noteOf_66, bM_some, hg_16_0, hg_16_1, hg_16_2, ha_17, ha_18, ha_19, hk, cond_false, lc_c2, Nat.reduceAdd, ne_eq, dv_5, dv_10, dv_3, not_false_eq_true, in_m1, r_ite, k_note, k_clamp]
