/-! ===== printed by wip/whole/q7.py: the start; the law's loop; the claim ===== -/
def g0 : hG := (fun c j => if c = 1 ∧ j = 3 then -1 else if c = 41 ∧ j = 4 then -1 else if c = 49 ∧ j = 24 then -1 else 0, fun _ _ => 0, fun _ _ => .null)
theorem g0_at {c j : Nat} (h : ¬ (c = 1 ∧ j = 3) ∧ ¬ (c = 41 ∧ j = 4) ∧ ¬ (c = 49 ∧ j = 24)) : g0.1 c j = 0 := by
  unfold g0
  dsimp only
  rw [if_neg h.1, if_neg h.2.1, if_neg h.2.2]
theorem ze_50 : zy_78 = hc50 g0 := by
  unfold zy_78 hc50
  congr 7
  funext j
  match j with
  | 0 => rfl
  | 1 => rfl
  | 2 => rfl
  | 3 => rfl
  | j + 4 =>
    unfold va_up
    rw [if_neg (show ¬ j + 4 = (3 : Int32).toNatClampNeg by rw [show (3 : Int32).toNatClampNeg = 3 by decide]; omega), if_neg (show ¬ j + 4 = (2 : Int32).toNatClampNeg by rw [show (2 : Int32).toNatClampNeg = 2 by decide]; omega), if_neg (show ¬ j + 4 = (1 : Int32).toNatClampNeg by rw [show (1 : Int32).toNatClampNeg = 1 by decide]; omega), if_neg (show ¬ j + 4 = (0 : Int32).toNatClampNeg by rw [show (0 : Int32).toNatClampNeg = 0 by decide]; omega)]
    rfl
theorem ze_51 : zy_87 = hc51 g0 := by
  unfold zy_87 hc51
  congr 7
  funext j
  match j with
  | 0 => rfl
  | 1 => rfl
  | 2 => rfl
  | 3 => rfl
  | 4 => rfl
  | 5 => rfl
  | 6 => rfl
  | j + 7 =>
    unfold va_up
    rw [if_neg (show ¬ j + 7 = (6 : Int32).toNatClampNeg by rw [show (6 : Int32).toNatClampNeg = 6 by decide]; omega), if_neg (show ¬ j + 7 = (5 : Int32).toNatClampNeg by rw [show (5 : Int32).toNatClampNeg = 5 by decide]; omega), if_neg (show ¬ j + 7 = (4 : Int32).toNatClampNeg by rw [show (4 : Int32).toNatClampNeg = 4 by decide]; omega), if_neg (show ¬ j + 7 = (3 : Int32).toNatClampNeg by rw [show (3 : Int32).toNatClampNeg = 3 by decide]; omega), if_neg (show ¬ j + 7 = (2 : Int32).toNatClampNeg by rw [show (2 : Int32).toNatClampNeg = 2 by decide]; omega), if_neg (show ¬ j + 7 = (1 : Int32).toNatClampNeg by rw [show (1 : Int32).toNatClampNeg = 1 by decide]; omega), if_neg (show ¬ j + 7 = (0 : Int32).toNatClampNeg by rw [show (0 : Int32).toNatClampNeg = 0 by decide]; omega)]
    rfl
set_option maxRecDepth 20000 in
theorem zz_end : zz_189 = hp [] g0 := by
  unfold zz_189
  rw [ze_50, ze_51]
  rfl
theorem Rel_0 : Rel [] g0 := by
  have k0 : ∀ c j, ¬ c = 1 → ¬ c = 41 → ¬ c = 49 → g0.1 c j = 0 := fun c j a1 a2 a3 => g0_at ⟨fun z => a1 z.1, fun z => a2 z.1, fun z => a3 z.1⟩
  refine ⟨0, 0, 0, 0, 0, 0, 0, fun _ _ => 0, none, ⟨?_, ?_, ?_, ?_, ?_, ?_, ?_, ⟨⟨by omega, 0, by omega, ?_, ?_, fun i hi => by omega⟩, fun i hi => by omega⟩, ⟨by omega, ?_, fun i hi => by omega⟩, ⟨?_, by omega⟩, fun dd hd => by omega, Or.inl ?_⟩, ⟨⟨⟨?_, ?_, ?_, ?_⟩, fun j hj => by omega, fun j hj => by omega, fun j hj => by omega, fun d i hd => by omega, fun i hi => by omega⟩, ?_, ⟨?_, fun i hi => by omega⟩, ?_, fun i hi => by omega, ?_, ?_, fun i hi => by omega, ?_⟩, ⟨?_, Or.inl (Or.inl ⟨rfl, rfl, rfl⟩)⟩, ?_⟩
  · exact ⟨rfl, by omega, rfl, by omega, rfl, by omega, rfl, by omega, fun i hi => by omega⟩
  · exact ⟨fun j hj => by omega, fun j hj => by omega, fun j hj => by omega, Or.inl rfl⟩
  · refine ⟨fun j hj => by omega, ?_⟩
    rw [k0 29 53 (by omega) (by omega) (by omega), ti_0]; omega
  · exact fun i _ => k0 29 i (by omega) (by omega) (by omega)
  · exact fun i _ => k0 30 i (by omega) (by omega) (by omega)
  · exact fun i _ => k0 38 i (by omega) (by omega) (by omega)
  · exact fun i _ => k0 42 i (by omega) (by omega) (by omega)
  · rfl
  · rfl
  · rfl
  · rfl
  · rfl
  · rfl
  · rfl
  · rfl
  · rfl
  · intro i hi
    rw [k0 29 i (by omega) (by omega) (by omega)]
    unfold mrow
    split
    · exact k0 _ _ (by omega) (by omega) (by omega)
    · split
      · exact k0 _ _ (by omega) (by omega) (by omega)
      · split
        · rfl
        · rfl
  · rfl
  · rfl
  · intro i hi
    rw [k0 62 i (by omega) (by omega) (by omega), k0 31 i (by omega) (by omega) (by omega)]
  · rfl
  · rfl
  · rfl
  · rfl
