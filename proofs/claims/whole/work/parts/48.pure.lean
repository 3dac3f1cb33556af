/-! ===== a minute, as plain functions on rows: 0 stove, 8 heat, 16 fill, 24 chalk, 32 sung, 40 note, 48 ready, 53 the minute ===== -/
theorem kC_0 {g : hG} {j : Nat} : kC g 0 j = g.1 17 j := rfl
theorem kC_1 {g : hG} {j : Nat} : kC g 1 j = g.1 18 j := rfl
theorem kC_2 {g : hG} {j : Nat} : kC g 2 j = g.1 19 j := rfl
theorem kC_3 {g : hG} {j : Nat} : kC g 3 j = g.1 20 j := rfl
theorem kC_4 {g : hG} {j : Nat} : kC g 4 j = g.1 21 j := rfl
theorem kC_5 {g : hG} {j : Nat} : kC g 5 j = g.1 22 j := rfl
theorem kC_6 {g : hG} {j : Nat} : kC g 6 j = g.1 23 j := rfl
theorem kC_7 {g : hG} {j : Nat} : kC g 7 j = g.1 24 j := rfl
theorem kC_8 {g : hG} {j : Nat} : kC g 8 j = g.1 26 j := rfl
theorem kC_90 {g : hG} : kC g 9 0 = g.1 16 10 := rfl
theorem kC_91 {g : hG} : kC g 9 1 = g.1 16 11 := rfl
theorem kC_92 {g : hG} : kC g 9 2 = g.1 16 12 := rfl
theorem kC_93 {g : hG} : kC g 9 3 = g.1 25 2 := rfl
def loopR (f : Nat → Rw → Rw) : Nat → Nat → Rw → Rw
  | 0, _, w => w
  | m + 1, j, w => loopR f m (j + 1) (f j w)
def clampN (n : Int32) : Int32 := if n < 0 then 0 else if 60 < n then 60 else n
/-- the note of kettle j by fill, heat, chalk -/
def noteR (K : Kt) (j : Nat) (f he c : Int32) : Int32 :=
  if K 0 j = 1 then clampN (K 1 j + (K 2 j - f) / 5 + (he - 100) / 10 - c / 3 + -1) else clampN (K 1 j + (K 2 j - f) / 5 + (he - 100) / 10 - c / 3)
def couldR (K : Kt) (j : Nat) (w : Rw) : Int32 := if w (16 + j) < 1 then 0 else if 9 * K 2 j < 10 * w (16 + j) then 0 else if w (24 + j) = 9 then 0 else 1
def gainR (m p : Int32) : Int32 := if 0 < m then px_max 1 (10 * p / m) else 1
/-- a minute's heat of kettle j on a stove of power p (0: on none) -/
def warmR (K : Kt) (p : Int32) (j : Nat) (w : Rw) : Rw :=
  if p = 0 then upd w (8 + j) (px_max 0 (w (8 + j) - (if K 0 j = 3 then 1 else 2)))
  else upd w (8 + j) (px_min 150 (w (8 + j) + gainR (w (16 + j) + (if K 0 j = 2 then 10 else 5)) p))
def powerR (K : Kt) (o : Int32) : Int32 := if o < 0 then 0 else if o < K 9 1 then K 5 o.toNatClampNeg else 0
def voiceR (K : Kt) (j : Nat) (w : Rw) : Rw :=
  if w (8 + j) < 100 then upd w (40 + j) (-1)
  else if couldR K j w = 0 then upd w (40 + j) (-1)
  else upd (upd w (40 + j) (noteR K j (w (16 + j)) (w (8 + j)) (w (24 + j)))) (32 + j) (w (32 + j) + 1)
def boilR (j : Nat) (w : Rw) : Rw :=
  if w (40 + j) = -1 then w
  else if w (16 + j) - 1 = 0 then upd (upd w (16 + j) (w (16 + j) - 1)) (24 + j) (px_min 9 (w (24 + j) + 1))
  else upd w (16 + j) (w (16 + j) - 1)
/-- who sings: row, how many, the notes as bits -/
def singF (K : Kt) : Nat → Nat → Rw × Int32 × Int64 → Rw × Int32 × Int64
  | 0, _, q => q
  | m + 1, j, q => singF K m (j + 1) (voiceR K j q.1, (if voiceR K j q.1 (40 + j) = -1 then q.2.1 else q.2.1 + 1), (if voiceR K j q.1 (40 + j) = -1 then q.2.2 else q.2.2 ||| ((1 : Int64) <<< ((voiceR K j q.1 (40 + j)).toInt64 &&& 63))))
/-- the notes with all steps of dish d above them, as bits -/
def rootsN (K : Kt) (n : Int64) (d : Nat) : Nat → Nat → Int64 → Int64
  | 0, _, a => a
  | m + 1, i, a => rootsN K n d m (i + 1) (a &&& (n.toUInt64 >>> ((K 7 (d * 3 + i)).toInt64.toUInt64 &&& Int64.toUInt64 63)).toInt64)
def serveR (K : Kt) (n : Int64) (d : Nat) (w : Rw) : Rw :=
  if w (48 + d) = -1 then (if rootsN K n d (K 6 d).toNatClampNeg 0 n = 0 then w else upd w (48 + d) (w 53)) else w
/-- the rule over the array stack, as the class does it: how many stand there, the stack -/
def joinR (op a b : Int32) : Int32 :=
  if op = 10008 then (if a = 0 then (if b = 0 then 0 else 1) else 1)
  else if op = 10009 then (if a = 0 then 0 else if b = 0 then 0 else 1)
  else if op = 10010 then (if a < b then 1 else 0)
  else if op = 10011 then (if a = b then 1 else 0)
  else if op = 10012 then a + b
  else if op = 10013 then a - b
  else if op = 10014 then a * b
  else if b = 0 then 0 else a / b
def givA (code vals : Rw) : Nat → Nat → Nat → Rw → Nat × Rw
  | 0, _, p, k => (p, k)
  | m + 1, i, p, k =>
    if code i < 10007 then
      (if p < 40 then givA code vals m (i + 1) (p + 1) (upd k p (if code i < 10000 then code i else vals (code i - 10000).toNatClampNeg)) else givA code vals m (i + 1) p k)
    else if code i = 10007 then
      (if 0 < p then givA code vals m (i + 1) p (upd k (p - 1) (if k (p - 1) = 0 then 1 else 0)) else givA code vals m (i + 1) p k)
    else if 1 < p then givA code vals m (i + 1) (p - 1) (upd k (p - 2) (joinR (code i) (k (p - 2)) (k (p - 1))))
    else givA code vals m (i + 1) p k
/-- the first place from j on, of m, where a row has s -/
def findR (row : Rw) (s : Int32) : Nat → Nat → Int32
  | 0, _ => -1
  | m + 1, j => if row j = s then Int32.ofNat j else findR row s m (j + 1)
theorem lcmp0 {x y : Int64} : (lg_cmp x y = 0) = (x = y) := by
  apply propext
  unfold lg_cmp
  constructor
  · intro h
    split at h
    · exact absurd h (by decide)
    · split at h
      · assumption
      · exact absurd h (by decide)
  · intro h
    rw [if_neg (by rw [h]; exact fun z => Int64.lt_irrefl z), if_pos h]
theorem lcmpi {α : Type} {x y : Int64} {A B : α} : (if lg_cmp x y = 0 then A else B) = if x = y then A else B := by
  by_cases h : x = y
  · rw [if_pos h, if_pos (lcmp0.mpr h)]
  · rw [if_neg h, if_neg (fun z => h (lcmp0.mp z))]
def thirdN (n : Int64) (a : Int32) : Int32 := if a = -1 then 0 else if (n.toUInt64 >>> ((a + 3).toInt64.toUInt64 &&& Int64.toUInt64 63)).toInt64 &&& 3 = 0 then 0 else 1
/-- what the cook sees of kettle j, laid into a row -/
def lookR (w : Rw) (s : Int32) (n : Int64) (j : Nat) (v : Rw) : Rw := upd (upd (upd (upd (upd (upd (upd v 0 (px_max 0 (w (40 + j)))) 1 (w (32 + j))) 2 (thirdN n (w (40 + j)))) 3 (w (8 + j))) 4 (w (16 + j))) 5 (w (24 + j))) 6 s
def givV (q : Nat × Rw) : Int32 := if 0 < q.1 then q.2 0 else 0
/-- the cook's round: row, values, stack -/
def cookF (K : Kt) (L : Nat) (s : Int32) (n : Int64) : Nat → Nat → Rw × Rw × Rw → Rw × Rw × Rw
  | 0, _, q => q
  | m + 1, j, q =>
    if q.1 j = -1 then cookF K L s n m (j + 1) q
    else cookF K L s n m (j + 1) ((if 0 < givV (givA (K 8) (lookR q.1 s n j q.2.1) L 0 0 q.2.2) then upd q.1 j (-1) else q.1), lookR q.1 s n j q.2.1, (givA (K 8) (lookR q.1 s n j q.2.1) L 0 0 q.2.2).2)
def cookC (K : Kt) (N L : Nat) (s : Int32) (n : Int64) (q : Rw × Rw × Rw) : Rw × Rw × Rw := if L = 0 then q else cookF K L s n N 0 q
def warmL (K : Kt) (N : Nat) (w : Rw) : Rw := loopR (fun j w => warmR K (powerR K (w j)) j w) N 0 w
def boilL (N : Nat) (w : Rw) : Rw := if w 53 - w 53 / 3 * 3 = 0 then loopR boilR N 0 w else w
/-- a minute as the class does it: row, singers, notes, values, stack -/
def minC (K : Kt) (N D L : Nat) (w v k : Rw) : Rw × Int32 × Int64 × Rw × Rw :=
  let q := singF K N 0 (warmL K N w, 0, 0)
  let w4 := boilL N (loopR (serveR K q.2.2) D 0 q.1)
  let c := cookC K N L q.2.1 q.2.2 (w4, v, k)
  (upd c.1 53 (c.1 53 + 1), q.2.1, q.2.2, c.2.1, c.2.2)
/-- the kitchen's counts -/
def KN (K : Kt) (N S D L : Nat) : Prop := K 9 0 = Int32.ofNat N ∧ N ≤ 8 ∧ K 9 1 = Int32.ofNat S ∧ S ≤ 4 ∧ K 9 2 = Int32.ofNat D ∧ D ≤ 5 ∧ K 9 3 = Int32.ofNat L ∧ L ≤ 600 ∧ ∀ i, i < D → ∃ M : Nat, K 6 i = Int32.ofNat M ∧ M ≤ 3
