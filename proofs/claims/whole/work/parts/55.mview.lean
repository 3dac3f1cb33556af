/-! ===== the reference's states as a view: base g, row w (cells 64 to 70 and the minute), asked a, stack k ===== -/
def mA (g : hG) (w : Rw) : Nat → Nat → Int32 := fun c i =>
  if 64 ≤ c ∧ c ≤ 69 ∧ i < 8 then w (8 * (c - 64) + i) else if c = 70 ∧ i < 5 then w (48 + i) else if c = 49 ∧ i = 33 then w 53 else g.1 c i
def gM (g : hG) (w a k : Rw) : hG := (fun c i => if c = 72 then a i else if c = 73 then k i else mA g w c i, g.2)
def mrow (g : hG) : Rw := fun i => if i < 48 then g.1 (64 + i / 8) (i % 8) else if i < 53 then g.1 70 (i - 48) else if i = 53 then g.1 49 33 else 0
section MVIEW
variable {g : hG} {w a k w' a' k' : Rw} {i j c : Nat} {x : Int32}
theorem gM_eta : gM g (mrow g) (g.1 72) (g.1 73) = g := by
  apply hG_ext
  · intro c i
    unfold gM mA mrow
    dsimp only
    (repeat' split) <;> first | rfl | (exfalso; omega) | (subst_vars; rfl) | skip
    · rename_i h1 h2 h3 h4
      rw [show 64 + (8 * (c - 64) + i) / 8 = c by omega, show (8 * (c - 64) + i) % 8 = i by omega]
    · rename_i h1 h2 h3 h4 h5 h6
      rw [show 48 + i - 48 = i by omega, h4.1]
    · simp_all
  · intro c j; rfl
  · rfl
theorem gM_gM : gM (gM g w a k) w' a' k' = gM g w' a' k' := by
  apply hG_ext
  · intro c i
    unfold gM mA
    dsimp only
    (repeat' split) <;> first | rfl | (exfalso; omega)
  · intro c j; rfl
  · rfl
theorem gM_ext (h : ∀ i, i < 54 → w i = w' i) : gM g w a k = gM g w' a k := by
  apply hG_ext
  · intro c i
    unfold gM mA
    dsimp only
    (repeat' split) <;> first | rfl | (exact h _ (by omega))
  · intro c j; rfl
  · rfl

theorem gM_64 (h : i < 8) : (gM g w a k).1 64 i = w (0 + i) := by
  show (if 64 = 72 then a i else if 64 = 73 then k i else mA g w 64 i) = _
  unfold mA
  rw [if_neg (by decide), if_neg (by decide), if_pos ⟨by decide, by decide, h⟩]
theorem gMw_64 (h : i < 8) : hI (gM g w a k) 64 i x = gM g (upd w (0 + i) x) a k := by
  apply hG_ext
  · intro c j
    rw [hI_at]
    unfold gM mA
    dsimp only
    simp only [upd_at]
    (repeat' split) <;> first | rfl | (exfalso; omega)
  · intro c j; rfl
  · rfl

theorem gM_65 (h : i < 8) : (gM g w a k).1 65 i = w (8 + i) := by
  show (if 65 = 72 then a i else if 65 = 73 then k i else mA g w 65 i) = _
  unfold mA
  rw [if_neg (by decide), if_neg (by decide), if_pos ⟨by decide, by decide, h⟩]
theorem gMw_65 (h : i < 8) : hI (gM g w a k) 65 i x = gM g (upd w (8 + i) x) a k := by
  apply hG_ext
  · intro c j
    rw [hI_at]
    unfold gM mA
    dsimp only
    simp only [upd_at]
    (repeat' split) <;> first | rfl | (exfalso; omega)
  · intro c j; rfl
  · rfl

theorem gM_66 (h : i < 8) : (gM g w a k).1 66 i = w (16 + i) := by
  show (if 66 = 72 then a i else if 66 = 73 then k i else mA g w 66 i) = _
  unfold mA
  rw [if_neg (by decide), if_neg (by decide), if_pos ⟨by decide, by decide, h⟩]
theorem gMw_66 (h : i < 8) : hI (gM g w a k) 66 i x = gM g (upd w (16 + i) x) a k := by
  apply hG_ext
  · intro c j
    rw [hI_at]
    unfold gM mA
    dsimp only
    simp only [upd_at]
    (repeat' split) <;> first | rfl | (exfalso; omega)
  · intro c j; rfl
  · rfl

theorem gM_67 (h : i < 8) : (gM g w a k).1 67 i = w (24 + i) := by
  show (if 67 = 72 then a i else if 67 = 73 then k i else mA g w 67 i) = _
  unfold mA
  rw [if_neg (by decide), if_neg (by decide), if_pos ⟨by decide, by decide, h⟩]
theorem gMw_67 (h : i < 8) : hI (gM g w a k) 67 i x = gM g (upd w (24 + i) x) a k := by
  apply hG_ext
  · intro c j
    rw [hI_at]
    unfold gM mA
    dsimp only
    simp only [upd_at]
    (repeat' split) <;> first | rfl | (exfalso; omega)
  · intro c j; rfl
  · rfl

theorem gM_68 (h : i < 8) : (gM g w a k).1 68 i = w (32 + i) := by
  show (if 68 = 72 then a i else if 68 = 73 then k i else mA g w 68 i) = _
  unfold mA
  rw [if_neg (by decide), if_neg (by decide), if_pos ⟨by decide, by decide, h⟩]
theorem gMw_68 (h : i < 8) : hI (gM g w a k) 68 i x = gM g (upd w (32 + i) x) a k := by
  apply hG_ext
  · intro c j
    rw [hI_at]
    unfold gM mA
    dsimp only
    simp only [upd_at]
    (repeat' split) <;> first | rfl | (exfalso; omega)
  · intro c j; rfl
  · rfl

theorem gM_69 (h : i < 8) : (gM g w a k).1 69 i = w (40 + i) := by
  show (if 69 = 72 then a i else if 69 = 73 then k i else mA g w 69 i) = _
  unfold mA
  rw [if_neg (by decide), if_neg (by decide), if_pos ⟨by decide, by decide, h⟩]
theorem gMw_69 (h : i < 8) : hI (gM g w a k) 69 i x = gM g (upd w (40 + i) x) a k := by
  apply hG_ext
  · intro c j
    rw [hI_at]
    unfold gM mA
    dsimp only
    simp only [upd_at]
    (repeat' split) <;> first | rfl | (exfalso; omega)
  · intro c j; rfl
  · rfl

theorem gM_70 (h : i < 5) : (gM g w a k).1 70 i = w (48 + i) := by
  show (if 70 = 72 then a i else if 70 = 73 then k i else mA g w 70 i) = _
  unfold mA
  rw [if_neg (by decide), if_neg (by decide), if_neg (by omega), if_pos ⟨rfl, h⟩]
theorem gMw_70 (h : i < 5) : hI (gM g w a k) 70 i x = gM g (upd w (48 + i) x) a k := by
  apply hG_ext
  · intro c j
    rw [hI_at]
    unfold gM mA
    dsimp only
    simp only [upd_at]
    (repeat' split) <;> first | rfl | (exfalso; omega)
  · intro c j; rfl
  · rfl
theorem gM_33 : (gM g w a k).1 49 33 = w 53 := rfl
theorem gMw_33 : hI (gM g w a k) 49 33 x = gM g (upd w 53 x) a k := by
  apply hG_ext
  · intro c j
    rw [hI_at]
    unfold gM mA
    dsimp only
    simp only [upd_at]
    (repeat' split) <;> first | rfl | (exfalso; omega) | simp_all
  · intro c j; rfl
  · rfl
theorem gM_72 : (gM g w a k).1 72 = a := rfl
theorem gM_73 : (gM g w a k).1 73 = k := rfl
theorem gMw_72 : hI (gM g w a k) 72 i x = gM g w (upd a i x) k := by
  apply hG_ext
  · intro c j
    rw [hI_at]
    unfold gM mA
    dsimp only
    simp only [upd_at]
    (repeat' split) <;> first | rfl | (exfalso; omega)
  · intro c j; rfl
  · rfl
theorem gMw_73 : hI (gM g w a k) 73 i x = gM g w a (upd k i x) := by
  apply hG_ext
  · intro c j
    rw [hI_at]
    unfold gM mA
    dsimp only
    simp only [upd_at]
    (repeat' split) <;> first | rfl | (exfalso; omega)
  · intro c j; rfl
  · rfl
theorem gM_o (h : c < 49 ∨ (49 < c ∧ c < 64) ∨ c = 71 ∨ 73 < c) : (gM g w a k).1 c = g.1 c := by
  funext i
  show (if c = 72 then a i else if c = 73 then k i else mA g w c i) = _
  unfold mA
  rw [if_neg (by omega), if_neg (by omega), if_neg (by omega), if_neg (by omega), if_neg (by omega)]
theorem gM_49 (h : ¬ i = 33) : (gM g w a k).1 49 i = g.1 49 i := by
  show (if 49 = 72 then a i else if 49 = 73 then k i else mA g w 49 i) = _
  unfold mA
  rw [if_neg (by omega), if_neg (by omega), if_neg (by omega), if_neg (by omega), if_neg (by omega)]
theorem gM_2 : (gM g w a k).2 = g.2 := rfl
end MVIEW
/-- a code of the class's rule as the reference has it -/
def encM (c : Int32) : Int32 :=
  if c < 10000 then c else if c < 10007 then 9999 - c else if c = 10007 then -28 else if c = 10008 then -27 else if c = 10009 then -26 else if c = 10010 then -24 else if c = 10011 then -25 else if c = 10012 then -20 else if c = 10013 then -21 else if c = 10014 then -22 else -23
/-- the reference holds the kitchen K -/
def MK (K : Kt) (N S D L : Nat) (g : hG) : Prop :=
  (g.1 52 0 = K 9 0 ∧ g.1 52 1 = K 9 1 ∧ g.1 52 2 = K 9 2 ∧ g.1 52 3 = K 9 3) ∧ (∀ j, j < N → g.1 53 j = K 0 j ∧ g.1 54 j = K 1 j ∧ g.1 55 j = K 2 j) ∧ (∀ j, j < S → g.1 58 j = K 5 j) ∧ (∀ j, j < D → g.1 59 j = K 6 j) ∧ (∀ d i, d < D → i < (K 6 d).toNatClampNeg → g.1 60 (3 * d + i) = K 7 (d * 3 + i)) ∧ (∀ i, i < L → g.1 61 i = encM (K 8 i))
