/-! ===== the Ear: choirs that are unlike, kept ===== -/
/-- a tail that holds the Ear's long[] at p -/
def earT (T : (Nat → Int64) → List px_E) (p : Nat) : Prop :=
  (∀ (F : Nat → Int64) (g : hG) (pc : Nat) (i : Int32) (r : List Value), px_lld pc (.int i :: .ref p :: r) (hp (T F) g) = bif px_out i 4392 then none else some (pc + 1, .long (F i.toNatClampNeg) :: r, hp (T F) g)) ∧
  (∀ (F : Nat → Int64) (g : hG) (pc : Nat) (i : Int32) (x : Int64) (r : List Value), px_lst pc (.long x :: .int i :: .ref p :: r) (hp (T F) g) = bif px_out i 4392 then none else some (pc + 1, r, hp (T (vp_updL F i.toNatClampNeg x)) g))
theorem earT_89 {B : List px_E} : earT (fun F => .inl (1, 4392, .inr (.inl F)) :: B) 89 := ⟨fun _ _ _ _ _ => rfl, fun _ _ _ _ _ _ => rfl⟩
theorem earT_97 {R A M H S : Rw} {f m n : Int32} {B : List px_E} : earT (fun F => imgL 89 R A f m M H n S (.inl (1, 4392, .inr (.inl F)) :: B)) 97 := ⟨fun _ _ _ _ _ => rfl, fun _ _ _ _ _ _ => rfl⟩
/-- unlike all of m from place e on -/
def newB (F : Nat → Int64) (b : Nat) (x : Int64) : Nat → Nat → Bool → Bool
  | 0, _, c => c
  | m + 1, e, c => if c then newB F b x m (e + 1) (!decide (F (b + e) = x)) else false
def coS (C : Nat → Int64) (i : Nat) (q : (Nat → Int64) × Rw) : (Nat → Int64) × Rw :=
  if newB q.1 (i * 72) (C i) (q.2 i).toNatClampNeg 0 true = true then (vp_updL q.1 (i * 72 + (q.2 i).toNatClampNeg) (C i), upd q.2 i (Int32.ofNat ((q.2 i).toNatClampNeg + 1))) else q
def coF (C : Nat → Int64) : Nat → Nat → (Nat → Int64) × Rw → (Nat → Int64) × Rw
  | 0, _, q => q
  | m + 1, i, q => coF C m (i + 1) (coS C i q)
section EAR3
variable {d : Nat} {T : (Nat → Int64) → List px_E} {g : hG} {p i c cn sn : Nat} {F : Nat → Int64} {u : Rw}
theorem nn_t72 {j : Nat} : Int32.ofNat j * 72 = Int32.ofNat (j * 72) := (Int32.ofNat_mul j 72).symm
theorem nn_l72 {a : Nat} (ha : a < 2147483648) : (Int32.ofNat a < 72) = (a < 72) := nn_lt (b := 72) ha (by decide)
set_option maxHeartbeats 4000000 in
theorem cl_1 (hT : earT T p) (h3 : g.2.2 37 3 = .ref p) (hi : i ≤ 60) (hc : c < 72) (hu : g.1 40 i = Int32.ofNat c) : ∀ m e : Nat, e + m = c → ∀ b : Bool, ∃ a4 : Option Value,
    bc d M_X1_collect none 49 [some (.ref 37), some (.int (Int32.ofNat i)), some (.int (Int32.ofNat (i * 72))), some (.int (b01 b)), some (.int (Int32.ofNat e))] [] (hp (T F) g) cn sn =
    bc d M_X1_collect none 95 [some (.ref 37), some (.int (Int32.ofNat i)), some (.int (Int32.ofNat (i * 72))), some (.int (b01 (newB F (i * 72) (g.2.1 39 i) m e b))), a4] [] (hp (T F) g) cn sn := by
  intro m
  induction m with
  | zero =>
    intro e he b
    refine ⟨some (.int (Int32.ofNat e)), ?_⟩
    rw [st_X1_collect_49]
    cases b <;>
    simp (disch := omega) only [st_X1_collect_50, st_X1_collect_53, st_X1_collect_55, st_X1_collect_56, st_X1_collect_59, st_X1_collect_60, st_X1_collect_61, b01, cond_true, cond_false, nn_one0, if_true, if_false, bM_some, hg_37_2, ha_40, hu, nn_out, nn_clamp, nn_lt, show ¬ e < c by omega, newB, Nat.reduceAdd]
  | succ m ih =>
    intro e he b
    unfold newB
    cases b with
    | false =>
      refine ⟨some (.int (Int32.ofNat e)), ?_⟩
      rw [st_X1_collect_49]
      simp (disch := omega) only [st_X1_collect_50, b01, cond_false, if_true, if_false, Bool.false_eq_true, Nat.reduceAdd]
    | true =>
      obtain ⟨a4, e'⟩ := ih (e + 1) (by omega) (!decide (F (i * 72 + e) = g.2.1 39 i))
      refine ⟨a4, ?_⟩
      rw [if_pos rfl, ← e', st_X1_collect_49]
      by_cases h : F (i * 72 + e) = g.2.1 39 i
      · rw [decide_eq_true h]
        simp (disch := omega) only [st_X1_collect_50, st_X1_collect_53, st_X1_collect_55, st_X1_collect_56, st_X1_collect_59, st_X1_collect_60, st_X1_collect_61, st_X1_collect_64, st_X1_collect_65, st_X1_collect_68, st_X1_collect_69, st_X1_collect_71, st_X1_collect_72, st_X1_collect_73, st_X1_collect_74, st_X1_collect_77, st_X1_collect_78, st_X1_collect_79, st_X1_collect_80, st_X1_collect_87, st_X1_collect_88, st_X1_collect_89, st_X1_collect_92, b01, cond_true, cond_false, nn_one0, if_true, if_false, bM_some, hg_37_1, hg_37_2, hg_37_3, h3, ha_39, ha_40, hT.1, hu, nn_add, nn_out, nn_clamp, nn_lt, show e < c by omega, lcmpi, eq_true h, Bool.not_true, lc_r, lc_i, nn_r1, Nat.reduceAdd]
      · rw [decide_eq_false h]
        simp (disch := omega) only [st_X1_collect_50, st_X1_collect_53, st_X1_collect_55, st_X1_collect_56, st_X1_collect_59, st_X1_collect_60, st_X1_collect_61, st_X1_collect_64, st_X1_collect_65, st_X1_collect_68, st_X1_collect_69, st_X1_collect_71, st_X1_collect_72, st_X1_collect_73, st_X1_collect_74, st_X1_collect_77, st_X1_collect_78, st_X1_collect_79, st_X1_collect_80, st_X1_collect_83, st_X1_collect_84, st_X1_collect_88, st_X1_collect_89, st_X1_collect_92, b01, cond_true, cond_false, nn_one0, if_true, if_false, bM_some, hg_37_1, hg_37_2, hg_37_3, h3, ha_39, ha_40, hT.1, hu, nn_add, nn_out, nn_clamp, nn_lt, show e < c by omega, lcmpi, h, Bool.not_false, lc_r, lc_i, nn_r1, Nat.reduceAdd]
theorem hR40_at {g : hG} {u : Rw} : (hR g 40 u).1 40 = u := rfl
theorem hR40_w {g : hG} {u : Rw} {i : Nat} {x : Int32} : hI (hR g 40 u) 40 i x = hR g 40 (upd u i x) := by rw [hI_R, hR_same, hR_hR]
set_option maxHeartbeats 4000000 in
theorem cl_2 (hT : earT T p) (h3 : g.2.2 37 3 = .ref p) : ∀ m i : Nat, i + m = 61 → ∀ (F : Nat → Int64) (u : Rw) (a2 a3 a4 : Option Value), (∀ x, i ≤ x → x ≤ 60 → ∃ c, u x = Int32.ofNat c ∧ c < 72) →
    bc d M_X1_collect none 18 [some (.ref 37), some (.int (Int32.ofNat i)), a2, a3, a4] [] (hp (T F) (hR g 40 u)) cn sn =
    some (.inl none, hp (T (coF (g.2.1 39) m i (F, u)).1) (hR g 40 (coF (g.2.1 39) m i (F, u)).2), cn, sn) := by
  intro m
  induction m with
  | zero =>
    intro i hi F u a2 a3 a4 hu
    rw [st_X1_collect_18]
    simp (disch := omega) only [st_X1_collect_19, st_X1_collect_21, st_X1_collect_134, nn_g60, show 60 < i by omega, if_true, coF, Nat.reduceAdd]
  | succ m ih =>
    intro i hi F u a2 a3 a4 hu
    obtain ⟨c, hc, hc72⟩ := hu i (Nat.le_refl i) (by omega)
    obtain ⟨b4, e⟩ := cl_1 (d := d) (T := T) (g := hR g 40 u) (F := F) (cn := cn) (sn := sn) (i := i) (c := c) hT h3 (by omega) hc72 hc c 0 (by omega) true
    rw [show Int32.ofNat 0 = (0 : Int32) from rfl, show b01 true = 1 from rfl, show (hR g 40 u).2.1 39 = g.2.1 39 from rfl] at e
    unfold coF coS
    dsimp only
    simp only [hc, nn_clamp (show c < 2147483648 by omega)]
    rw [st_X1_collect_18]
    simp (disch := omega) only [st_X1_collect_19, st_X1_collect_21, st_X1_collect_24, st_X1_collect_25, st_X1_collect_27, st_X1_collect_28, st_X1_collect_29, st_X1_collect_30, st_X1_collect_33, st_X1_collect_34, st_X1_collect_35, st_X1_collect_37, st_X1_collect_40, st_X1_collect_41, st_X1_collect_45, st_X1_collect_46, st_X1_collect_47, nn_g60, show ¬ 60 < i by omega, if_false, bM_some, hg_37_2, ha_40, hR40_at, hc, nn_t72, nn_l72, hc72, if_true, nn_out, nn_clamp, cond_false, lc_r, lc_i, lc_n, Nat.reduceAdd]
    refine Eq.trans e ?_
    cases hb : newB F (i * 72) (g.2.1 39 i) c 0 true with
    | false =>
      have e' := ih (i + 1) (by omega) F u (some (.int (Int32.ofNat (i * 72)))) (some (.int 0)) b4 (fun x h1 h2 => hu x (by omega) h2)
      rw [if_neg (by simp)]
      simp (disch := omega) only [st_X1_collect_95, st_X1_collect_96, st_X1_collect_128, st_X1_collect_131, b01, cond_false, if_true, lc_r, lc_i, nn_r1, Nat.reduceAdd, e']
    | true =>
      have e' := ih (i + 1) (by omega) (vp_updL F (i * 72 + c) (g.2.1 39 i)) (upd u i (Int32.ofNat (c + 1))) (some (.int (Int32.ofNat (i * 72)))) (some (.int 1)) b4 (fun x h1 h2 => by rw [upd_oth (by omega)]; exact hu x (by omega) h2)
      rw [if_pos rfl]
      simp (disch := omega) only [st_X1_collect_95, st_X1_collect_96, st_X1_collect_99, st_X1_collect_100, st_X1_collect_103, st_X1_collect_104, st_X1_collect_105, st_X1_collect_108, st_X1_collect_109, st_X1_collect_110, st_X1_collect_111, st_X1_collect_112, st_X1_collect_115, st_X1_collect_116, st_X1_collect_117, st_X1_collect_118, st_X1_collect_119, st_X1_collect_122, st_X1_collect_123, st_X1_collect_124, st_X1_collect_125, st_X1_collect_126, st_X1_collect_127, st_X1_collect_128, st_X1_collect_131, b01, cond_true, cond_false, nn_one0, if_false, bM_some, hg_37_1, hg_37_2, hg_37_3, show (hR g 40 u).2 = g.2 from rfl, h3, ha_39, ha_40, hw_40, hT.2, hR40_at, hR40_w, hc, nn_add, nn_out, nn_clamp, lc_r, lc_i, nn_r1, Nat.reduceAdd, e']
theorem c_collect (hT : earT T p) (h3 : g.2.2 37 3 = .ref p) (hu : ∀ x, 1 ≤ x → x ≤ 60 → ∃ c, g.1 40 x = Int32.ofNat c ∧ c < 72) :
    bc d M_X1_collect none 0 [some (.ref 37), none, none, none, none] [] (hp (T F) g) cn sn =
    some (.inl none, hp (T (coF (g.2.1 39) 60 1 (F, g.1 40)).1) (hR g 40 (coF (g.2.1 39) 60 1 (F, g.1 40)).2), cn, sn) := by
  have e := cl_2 (d := d) (T := T) (g := g) (cn := cn) (sn := sn) hT h3 60 1 (by omega) F (g.1 40) none none none hu
  rw [hR_self, show Int32.ofNat 1 = (1 : Int32) from rfl] at e
  refine Eq.trans ?_ e
  simp only [st_X1_collect_0, st_X1_collect_1, st_X1_collect_16, st_X1_collect_17, st_X1_collect_4r, bM_some, hg_37_3, h3, lc_r, Nat.reduceAdd]
/-- the first time: a new long[] behind the others -/
theorem c_collect0 {t : List px_E} (hT : earT T p) (hp0 : p = t.length + 89) (hz : g.2.2 37 3 = .null) (ht : t ++ [.inl (1, 4392, .inr (.inl (fun _ => 0)))] = T (fun _ => 0)) (hu : ∀ x, 1 ≤ x → x ≤ 60 → ∃ c, g.1 40 x = Int32.ofNat c ∧ c < 72) :
    bc d M_X1_collect none 0 [some (.ref 37), none, none, none, none] [] (hp t g) cn sn =
    some (.inl none, hp (T (coF (g.2.1 39) 60 1 ((fun _ => 0), g.1 40)).1) (hR (hV g 37 3 (.ref p)) 40 (coF (g.2.1 39) 60 1 ((fun _ => 0), g.1 40)).2), cn + 1, sn + 4392) := by
  have e := cl_2 (d := d) (T := T) (g := hV g 37 3 (.ref p)) (cn := cn + 1) (sn := sn + 4392) hT rfl 60 1 (by omega) (fun _ => 0) (g.1 40) none none none hu
  rw [show g.1 40 = (hV g 37 3 (.ref p)).1 40 from rfl, hR_self, show Int32.ofNat 1 = (1 : Int32) from rfl, ← ht] at e
  refine Eq.trans ?_ (Eq.trans e rfl)
  have hpt : ∀ (pc : Nat) (r : List Value) (q : px_E), px_put 1 3 (kt_ft 1 3) pc (.ref p :: .ref 37 :: r) (hp (t ++ [q]) g) = some (pc + 3, r, hp (t ++ [q]) (hV g 37 3 (.ref p))) := fun _ _ _ => rfl
  simp only [st_X1_collect_0, st_X1_collect_1, st_X1_collect_7, st_X1_collect_8, st_X1_collect_13, st_X1_collect_16, st_X1_collect_17, st_X1_collect_4, st_X1_collect_11 (x := 4392) (by decide), hp_len, hp_app, ← hp0, show px_arr 1 (4392 : Int32).toNatClampNeg = .inl (1, 4392, .inr (.inl (fun _ => 0))) from rfl, show (4392 : Int32).toNatClampNeg = 4392 by decide, bM_some, hg_37_3, hz, hpt, lc_r, Nat.reduceAdd]
  rfl
end EAR3
