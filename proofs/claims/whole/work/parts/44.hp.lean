/-! ===== printed by wip/whole/hp.py: the heap behind the constructors ===== -/
abbrev hG : Type := (Nat → Nat → Int32) × (Nat → Nat → Int64) × (Nat → Nat → Value)
/-- a whole row, one int, one long, one reference is laid -/
def hR (g : hG) (c : Nat) (f : Nat → Int32) : hG := (fun k => bif Nat.beq k c then f else g.1 k, g.2)
def hI (g : hG) (c j : Nat) (x : Int32) : hG := (fun k => bif Nat.beq k c then upd (g.1 c) j x else g.1 k, g.2)
def hJ (g : hG) (c j : Nat) (x : Int64) : hG := (g.1, fun k => bif Nat.beq k c then vp_updL (g.2.1 c) j x else g.2.1 k, g.2.2)
def hV (g : hG) (c j : Nat) (v : Value) : hG := (g.1, g.2.1, fun k i => bif (Nat.beq k c && Nat.beq i j) then v else g.2.2 k i)
def hc0 (g : hG) : px_E := .inr (9, [.ref 1, .ref 16, .ref 29, .ref 30, .ref 31, .ref 32, .ref 34, .ref 37, .ref 41, .ref 45, g.2.2 0 10, .int (g.1 0 11)])
def hc1 (g : hG) : px_E := .inr (6, [.ref 2, .ref 3, .int (g.1 1 2), .int (g.1 1 3), .int (g.1 1 4), .int (g.1 1 5), .int (g.1 1 6), .int (g.1 1 7), .int (g.1 1 8), .int (g.1 1 9), .int (g.1 1 10)])
def hc2 (g : hG) : px_E := .inl (2, 600, .inl (g.1 2))
def hc3 (g : hG) : px_E := .inr (4, [.ref 4, .ref 5, .ref 6, .ref 7, .ref 8, .ref 9, .ref 10, .ref 11, .ref 12, .ref 15, .int (g.1 3 10), .int (g.1 3 11), .int (g.1 3 12), .long (g.2.1 3 13), .int (g.1 3 14)])
def hc4 (g : hG) : px_E := .inl (0, 8, .inl (g.1 4))
def hc5 (g : hG) : px_E := .inl (0, 8, .inl (g.1 5))
def hc6 (g : hG) : px_E := .inl (0, 8, .inl (g.1 6))
def hc7 (g : hG) : px_E := .inl (0, 8, .inl (g.1 7))
def hc8 (g : hG) : px_E := .inl (0, 8, .inl (g.1 8))
def hc9 (g : hG) : px_E := .inl (0, 4, .inl (g.1 9))
def hc10 (g : hG) : px_E := .inl (0, 5, .inl (g.1 10))
def hc11 (g : hG) : px_E := .inl (0, 15, .inl (g.1 11))
def hc12 (g : hG) : px_E := .inr (7, [.ref 13, .ref 14, .int (g.1 12 2)])
def hc13 (g : hG) : px_E := .inl (0, 600, .inl (g.1 13))
def hc14 (g : hG) : px_E := .inl (0, 40, .inl (g.1 14))
def hc15 (g : hG) : px_E := .inl (0, 7, .inl (g.1 15))
def hc16 (g : hG) : px_E := .inr (4, [.ref 17, .ref 18, .ref 19, .ref 20, .ref 21, .ref 22, .ref 23, .ref 24, .ref 25, .ref 28, .int (g.1 16 10), .int (g.1 16 11), .int (g.1 16 12), .long (g.2.1 16 13), .int (g.1 16 14)])
def hc17 (g : hG) : px_E := .inl (0, 8, .inl (g.1 17))
def hc18 (g : hG) : px_E := .inl (0, 8, .inl (g.1 18))
def hc19 (g : hG) : px_E := .inl (0, 8, .inl (g.1 19))
def hc20 (g : hG) : px_E := .inl (0, 8, .inl (g.1 20))
def hc21 (g : hG) : px_E := .inl (0, 8, .inl (g.1 21))
def hc22 (g : hG) : px_E := .inl (0, 4, .inl (g.1 22))
def hc23 (g : hG) : px_E := .inl (0, 5, .inl (g.1 23))
def hc24 (g : hG) : px_E := .inl (0, 15, .inl (g.1 24))
def hc25 (g : hG) : px_E := .inr (7, [.ref 26, .ref 27, .int (g.1 25 2)])
def hc26 (g : hG) : px_E := .inl (0, 600, .inl (g.1 26))
def hc27 (g : hG) : px_E := .inl (0, 40, .inl (g.1 27))
def hc28 (g : hG) : px_E := .inl (0, 7, .inl (g.1 28))
def hc29 (g : hG) : px_E := .inl (0, 54, .inl (g.1 29))
def hc30 (g : hG) : px_E := .inl (0, 54, .inl (g.1 30))
def hc31 (g : hG) : px_E := .inl (0, 3, .inl (g.1 31))
def hc32 (g : hG) : px_E := .inr (0, [.ref 33, .int (g.1 32 1), .int (g.1 32 2)])
def hc33 (g : hG) : px_E := .inl (0, 2160, .inl (g.1 33))
def hc34 (g : hG) : px_E := .inr (2, [.ref 35, .ref 36, .int (g.1 34 2)])
def hc35 (g : hG) : px_E := .inl (0, 8, .inl (g.1 35))
def hc36 (g : hG) : px_E := .inl (0, 8, .inl (g.1 36))
def hc37 (g : hG) : px_E := .inr (1, [.ref 38, .ref 39, .ref 40, g.2.2 37 3, .int (g.1 37 4), .int (g.1 37 5), .int (g.1 37 6), .int (g.1 37 7), .int (g.1 37 8)])
def hc38 (g : hG) : px_E := .inl (0, 54, .inl (g.1 38))
def hc39 (g : hG) : px_E := .inl (1, 61, .inr (.inl (g.2.1 39)))
def hc40 (g : hG) : px_E := .inl (0, 61, .inl (g.1 40))
def hc41 (g : hG) : px_E := .inr (5, [.ref 42, .ref 43, .ref 44, .int (g.1 41 3), .int (g.1 41 4)])
def hc42 (g : hG) : px_E := .inl (0, 54, .inl (g.1 42))
def hc43 (g : hG) : px_E := .inl (0, 4, .inl (g.1 43))
def hc44 (g : hG) : px_E := .inl (0, 4, .inl (g.1 44))
def hc45 (g : hG) : px_E := .inr (8, [.ref 46, .ref 47, .ref 48])
def hc46 (g : hG) : px_E := .inl (0, 4, .inl (g.1 46))
def hc47 (g : hG) : px_E := .inl (0, 4, .inl (g.1 47))
def hc48 (g : hG) : px_E := .inl (0, 16, .inl (g.1 48))
def hc49 (g : hG) : px_E := .inr (10, [.ref 50, .ref 51, .int (g.1 49 2), .ref 52, .ref 53, .ref 54, .ref 55, .ref 56, .ref 57, .ref 58, .ref 59, .ref 60, .ref 61, .ref 62, .ref 63, .int (g.1 49 15), .int (g.1 49 16), .int (g.1 49 17), .int (g.1 49 18), .int (g.1 49 19), .int (g.1 49 20), .int (g.1 49 21), .int (g.1 49 22), .int (g.1 49 23), .int (g.1 49 24), .ref 64, .ref 65, .ref 66, .ref 67, .ref 68, .ref 69, .ref 70, .ref 71, .int (g.1 49 33), .int (g.1 49 34), .int (g.1 49 35), .ref 72, .ref 73, .ref 74, .ref 75, .ref 76, .ref 77, .int (g.1 49 42), .ref 78, .ref 79, .ref 80, .ref 81, .int (g.1 49 47), .ref 82, .int (g.1 49 49), .int (g.1 49 50), .int (g.1 49 51), .int (g.1 49 52), .ref 83, .ref 84, .ref 85, .ref 86, .ref 87])
def hc50 (g : hG) : px_E := .inl (3, 4, .inr (.inr (.inr (.inr (fun j => [some 36, some 37, some 38, some 39].getD j none)))))
def hc51 (g : hG) : px_E := .inl (3, 7, .inr (.inr (.inr (.inr (fun j => [some 40, some 41, some 42, some 43, some 44, some 45, some 46].getD j none)))))
def hc52 (g : hG) : px_E := .inl (0, 8, .inl (g.1 52))
def hc53 (g : hG) : px_E := .inl (0, 16, .inl (g.1 53))
def hc54 (g : hG) : px_E := .inl (0, 16, .inl (g.1 54))
def hc55 (g : hG) : px_E := .inl (0, 16, .inl (g.1 55))
def hc56 (g : hG) : px_E := .inl (0, 16, .inl (g.1 56))
def hc57 (g : hG) : px_E := .inl (0, 16, .inl (g.1 57))
def hc58 (g : hG) : px_E := .inl (0, 8, .inl (g.1 58))
def hc59 (g : hG) : px_E := .inl (0, 10, .inl (g.1 59))
def hc60 (g : hG) : px_E := .inl (0, 30, .inl (g.1 60))
def hc61 (g : hG) : px_E := .inl (0, 1200, .inl (g.1 61))
def hc62 (g : hG) : px_E := .inl (0, 3, .inl (g.1 62))
def hc63 (g : hG) : px_E := .inl (0, 600, .inl (g.1 63))
def hc64 (g : hG) : px_E := .inl (0, 8, .inl (g.1 64))
def hc65 (g : hG) : px_E := .inl (0, 8, .inl (g.1 65))
def hc66 (g : hG) : px_E := .inl (0, 8, .inl (g.1 66))
def hc67 (g : hG) : px_E := .inl (0, 8, .inl (g.1 67))
def hc68 (g : hG) : px_E := .inl (0, 8, .inl (g.1 68))
def hc69 (g : hG) : px_E := .inl (0, 8, .inl (g.1 69))
def hc70 (g : hG) : px_E := .inl (0, 5, .inl (g.1 70))
def hc71 (g : hG) : px_E := .inl (0, 2160, .inl (g.1 71))
def hc72 (g : hG) : px_E := .inl (0, 7, .inl (g.1 72))
def hc73 (g : hG) : px_E := .inl (0, 64, .inl (g.1 73))
def hc74 (g : hG) : px_E := .inl (0, 54, .inl (g.1 74))
def hc75 (g : hG) : px_E := .inl (0, 4, .inl (g.1 75))
def hc76 (g : hG) : px_E := .inl (0, 4, .inl (g.1 76))
def hc77 (g : hG) : px_E := .inl (0, 54, .inl (g.1 77))
def hc78 (g : hG) : px_E := .inl (0, 8, .inl (g.1 78))
def hc79 (g : hG) : px_E := .inl (0, 8, .inl (g.1 79))
def hc80 (g : hG) : px_E := .inl (0, 54, .inl (g.1 80))
def hc81 (g : hG) : px_E := .inl (0, 80, .inl (g.1 81))
def hc82 (g : hG) : px_E := .inl (1, 4800, .inr (.inl (g.2.1 82)))
def hc83 (g : hG) : px_E := .inl (0, 54, .inl (g.1 83))
def hc84 (g : hG) : px_E := .inl (0, 2160, .inl (g.1 84))
def hc85 (g : hG) : px_E := .inl (0, 8, .inl (g.1 85))
def hc86 (g : hG) : px_E := .inl (0, 8, .inl (g.1 86))
def hc87 (g : hG) : px_E := .inl (0, 3, .inl (g.1 87))
def hc88 (g : hG) : px_E := .inl (1, 1, .inr (.inl (g.2.1 88)))
def hp (t : List px_E) (g : hG) : px_H := hc0 g :: hc1 g :: hc2 g :: hc3 g :: hc4 g :: hc5 g :: hc6 g :: hc7 g :: hc8 g :: hc9 g :: hc10 g :: hc11 g :: hc12 g :: hc13 g :: hc14 g :: hc15 g :: hc16 g :: hc17 g :: hc18 g :: hc19 g :: hc20 g :: hc21 g :: hc22 g :: hc23 g :: hc24 g :: hc25 g :: hc26 g :: hc27 g :: hc28 g :: hc29 g :: hc30 g :: hc31 g :: hc32 g :: hc33 g :: hc34 g :: hc35 g :: hc36 g :: hc37 g :: hc38 g :: hc39 g :: hc40 g :: hc41 g :: hc42 g :: hc43 g :: hc44 g :: hc45 g :: hc46 g :: hc47 g :: hc48 g :: hc49 g :: hc50 g :: hc51 g :: hc52 g :: hc53 g :: hc54 g :: hc55 g :: hc56 g :: hc57 g :: hc58 g :: hc59 g :: hc60 g :: hc61 g :: hc62 g :: hc63 g :: hc64 g :: hc65 g :: hc66 g :: hc67 g :: hc68 g :: hc69 g :: hc70 g :: hc71 g :: hc72 g :: hc73 g :: hc74 g :: hc75 g :: hc76 g :: hc77 g :: hc78 g :: hc79 g :: hc80 g :: hc81 g :: hc82 g :: hc83 g :: hc84 g :: hc85 g :: hc86 g :: hc87 g :: hc88 g :: t
section HP
variable {t : List px_E} {g : hG} {pc : Nat} {r : List Value} {s : Option (Nat × (Nat → Int32))} {x i : Int32} {u : Int64}
theorem hq_0 : hcl (hp t g) 0 = some 9 := rfl
theorem hg_0_0 : px_get 9 0 pc (.ref 0 :: r) (hp t g) = some (pc + 3, .ref 1 :: r, hp t g) := rfl
theorem hg_0_1 : px_get 9 1 pc (.ref 0 :: r) (hp t g) = some (pc + 3, .ref 16 :: r, hp t g) := rfl
theorem hg_0_2 : px_get 9 2 pc (.ref 0 :: r) (hp t g) = some (pc + 3, .ref 29 :: r, hp t g) := rfl
theorem hg_0_3 : px_get 9 3 pc (.ref 0 :: r) (hp t g) = some (pc + 3, .ref 30 :: r, hp t g) := rfl
theorem hg_0_4 : px_get 9 4 pc (.ref 0 :: r) (hp t g) = some (pc + 3, .ref 31 :: r, hp t g) := rfl
theorem hg_0_5 : px_get 9 5 pc (.ref 0 :: r) (hp t g) = some (pc + 3, .ref 32 :: r, hp t g) := rfl
theorem hg_0_6 : px_get 9 6 pc (.ref 0 :: r) (hp t g) = some (pc + 3, .ref 34 :: r, hp t g) := rfl
theorem hg_0_7 : px_get 9 7 pc (.ref 0 :: r) (hp t g) = some (pc + 3, .ref 37 :: r, hp t g) := rfl
theorem hg_0_8 : px_get 9 8 pc (.ref 0 :: r) (hp t g) = some (pc + 3, .ref 41 :: r, hp t g) := rfl
theorem hg_0_9 : px_get 9 9 pc (.ref 0 :: r) (hp t g) = some (pc + 3, .ref 45 :: r, hp t g) := rfl
theorem hg_0_10 : px_get 9 10 pc (.ref 0 :: r) (hp t g) = some (pc + 3, g.2.2 0 10 :: r, hp t g) := rfl
theorem hg_0_11 : px_get 9 11 pc (.ref 0 :: r) (hp t g) = some (pc + 3, .int (g.1 0 11) :: r, hp t g) := rfl
theorem hs_0_11_0 : px_put 9 11 (kt_ft 9 11) pc (.int 0 :: .ref 0 :: r) (hp t g) = some (pc + 3, r, hp t (hI g 0 11 0)) := rfl
theorem hs_0_11_1 : px_put 9 11 (kt_ft 9 11) pc (.int 1 :: .ref 0 :: r) (hp t g) = some (pc + 3, r, hp t (hI g 0 11 1)) := rfl
theorem hq_1 : hcl (hp t g) 1 = some 6 := rfl
theorem hg_1_0 : px_get 6 0 pc (.ref 1 :: r) (hp t g) = some (pc + 3, .ref 2 :: r, hp t g) := rfl
theorem hg_1_1 : px_get 6 1 pc (.ref 1 :: r) (hp t g) = some (pc + 3, .ref 3 :: r, hp t g) := rfl
theorem hg_1_2 : px_get 6 2 pc (.ref 1 :: r) (hp t g) = some (pc + 3, .int (g.1 1 2) :: r, hp t g) := rfl
theorem hs_1_2 : px_put 6 2 (kt_ft 6 2) pc (.int x :: .ref 1 :: r) (hp t g) = some (pc + 3, r, hp t (hI g 1 2 x)) := rfl
theorem hg_1_3 : px_get 6 3 pc (.ref 1 :: r) (hp t g) = some (pc + 3, .int (g.1 1 3) :: r, hp t g) := rfl
theorem hs_1_3 : px_put 6 3 (kt_ft 6 3) pc (.int x :: .ref 1 :: r) (hp t g) = some (pc + 3, r, hp t (hI g 1 3 x)) := rfl
theorem hg_1_4 : px_get 6 4 pc (.ref 1 :: r) (hp t g) = some (pc + 3, .int (g.1 1 4) :: r, hp t g) := rfl
theorem hs_1_4 : px_put 6 4 (kt_ft 6 4) pc (.int x :: .ref 1 :: r) (hp t g) = some (pc + 3, r, hp t (hI g 1 4 x)) := rfl
theorem hg_1_5 : px_get 6 5 pc (.ref 1 :: r) (hp t g) = some (pc + 3, .int (g.1 1 5) :: r, hp t g) := rfl
theorem hs_1_5 : px_put 6 5 (kt_ft 6 5) pc (.int x :: .ref 1 :: r) (hp t g) = some (pc + 3, r, hp t (hI g 1 5 x)) := rfl
theorem hg_1_6 : px_get 6 6 pc (.ref 1 :: r) (hp t g) = some (pc + 3, .int (g.1 1 6) :: r, hp t g) := rfl
theorem hs_1_6 : px_put 6 6 (kt_ft 6 6) pc (.int x :: .ref 1 :: r) (hp t g) = some (pc + 3, r, hp t (hI g 1 6 x)) := rfl
theorem hg_1_7 : px_get 6 7 pc (.ref 1 :: r) (hp t g) = some (pc + 3, .int (g.1 1 7) :: r, hp t g) := rfl
theorem hs_1_7 : px_put 6 7 (kt_ft 6 7) pc (.int x :: .ref 1 :: r) (hp t g) = some (pc + 3, r, hp t (hI g 1 7 x)) := rfl
theorem hg_1_8 : px_get 6 8 pc (.ref 1 :: r) (hp t g) = some (pc + 3, .int (g.1 1 8) :: r, hp t g) := rfl
theorem hs_1_8 : px_put 6 8 (kt_ft 6 8) pc (.int x :: .ref 1 :: r) (hp t g) = some (pc + 3, r, hp t (hI g 1 8 x)) := rfl
theorem hg_1_9 : px_get 6 9 pc (.ref 1 :: r) (hp t g) = some (pc + 3, .int (g.1 1 9) :: r, hp t g) := rfl
theorem hs_1_9_0 : px_put 6 9 (kt_ft 6 9) pc (.int 0 :: .ref 1 :: r) (hp t g) = some (pc + 3, r, hp t (hI g 1 9 0)) := rfl
theorem hs_1_9_1 : px_put 6 9 (kt_ft 6 9) pc (.int 1 :: .ref 1 :: r) (hp t g) = some (pc + 3, r, hp t (hI g 1 9 1)) := rfl
theorem hg_1_10 : px_get 6 10 pc (.ref 1 :: r) (hp t g) = some (pc + 3, .int (g.1 1 10) :: r, hp t g) := rfl
theorem hs_1_10 : px_put 6 10 (kt_ft 6 10) pc (.int x :: .ref 1 :: r) (hp t g) = some (pc + 3, r, hp t (hI g 1 10 x)) := rfl
theorem hn_2 : px_len s pc (.ref 2 :: r) (hp t g) = some (pc + 1, .int 600 :: r, hp t g) := rfl
theorem ha_2 : px_bld pc (.int i :: .ref 2 :: r) (hp t g) = bif px_out i 600 then none else some (pc + 1, .int (g.1 2 i.toNatClampNeg) :: r, hp t g) := rfl
theorem hw_2 : px_bst pc (.int x :: .int i :: .ref 2 :: r) (hp t g) = bif px_out i 600 then none else some (pc + 1, r, hp t (hI g 2 i.toNatClampNeg x.toInt8.toInt32)) := rfl
theorem hq_3 : hcl (hp t g) 3 = some 4 := rfl
theorem hg_3_0 : px_get 4 0 pc (.ref 3 :: r) (hp t g) = some (pc + 3, .ref 4 :: r, hp t g) := rfl
theorem hg_3_1 : px_get 4 1 pc (.ref 3 :: r) (hp t g) = some (pc + 3, .ref 5 :: r, hp t g) := rfl
theorem hg_3_2 : px_get 4 2 pc (.ref 3 :: r) (hp t g) = some (pc + 3, .ref 6 :: r, hp t g) := rfl
theorem hg_3_3 : px_get 4 3 pc (.ref 3 :: r) (hp t g) = some (pc + 3, .ref 7 :: r, hp t g) := rfl
theorem hg_3_4 : px_get 4 4 pc (.ref 3 :: r) (hp t g) = some (pc + 3, .ref 8 :: r, hp t g) := rfl
theorem hg_3_5 : px_get 4 5 pc (.ref 3 :: r) (hp t g) = some (pc + 3, .ref 9 :: r, hp t g) := rfl
theorem hg_3_6 : px_get 4 6 pc (.ref 3 :: r) (hp t g) = some (pc + 3, .ref 10 :: r, hp t g) := rfl
theorem hg_3_7 : px_get 4 7 pc (.ref 3 :: r) (hp t g) = some (pc + 3, .ref 11 :: r, hp t g) := rfl
theorem hg_3_8 : px_get 4 8 pc (.ref 3 :: r) (hp t g) = some (pc + 3, .ref 12 :: r, hp t g) := rfl
theorem hg_3_9 : px_get 4 9 pc (.ref 3 :: r) (hp t g) = some (pc + 3, .ref 15 :: r, hp t g) := rfl
theorem hg_3_10 : px_get 4 10 pc (.ref 3 :: r) (hp t g) = some (pc + 3, .int (g.1 3 10) :: r, hp t g) := rfl
theorem hs_3_10 : px_put 4 10 (kt_ft 4 10) pc (.int x :: .ref 3 :: r) (hp t g) = some (pc + 3, r, hp t (hI g 3 10 x)) := rfl
theorem hg_3_11 : px_get 4 11 pc (.ref 3 :: r) (hp t g) = some (pc + 3, .int (g.1 3 11) :: r, hp t g) := rfl
theorem hs_3_11 : px_put 4 11 (kt_ft 4 11) pc (.int x :: .ref 3 :: r) (hp t g) = some (pc + 3, r, hp t (hI g 3 11 x)) := rfl
theorem hg_3_12 : px_get 4 12 pc (.ref 3 :: r) (hp t g) = some (pc + 3, .int (g.1 3 12) :: r, hp t g) := rfl
theorem hs_3_12 : px_put 4 12 (kt_ft 4 12) pc (.int x :: .ref 3 :: r) (hp t g) = some (pc + 3, r, hp t (hI g 3 12 x)) := rfl
theorem hg_3_13 : px_get 4 13 pc (.ref 3 :: r) (hp t g) = some (pc + 3, .long (g.2.1 3 13) :: r, hp t g) := rfl
theorem hs_3_13 : px_put 4 13 (kt_ft 4 13) pc (.long u :: .ref 3 :: r) (hp t g) = some (pc + 3, r, hp t (hJ g 3 13 u)) := rfl
theorem hg_3_14 : px_get 4 14 pc (.ref 3 :: r) (hp t g) = some (pc + 3, .int (g.1 3 14) :: r, hp t g) := rfl
theorem hs_3_14 : px_put 4 14 (kt_ft 4 14) pc (.int x :: .ref 3 :: r) (hp t g) = some (pc + 3, r, hp t (hI g 3 14 x)) := rfl
theorem hn_4 : px_len s pc (.ref 4 :: r) (hp t g) = some (pc + 1, .int 8 :: r, hp t g) := rfl
theorem ha_4 : px_ald s pc (.int i :: .ref 4 :: r) (hp t g) = bif px_out i 8 then none else some (pc + 1, .int (g.1 4 i.toNatClampNeg) :: r, hp t g) := rfl
theorem hw_4 : px_ast pc (.int x :: .int i :: .ref 4 :: r) (hp t g) = bif px_out i 8 then none else some (pc + 1, r, hp t (hI g 4 i.toNatClampNeg x)) := rfl
theorem hn_5 : px_len s pc (.ref 5 :: r) (hp t g) = some (pc + 1, .int 8 :: r, hp t g) := rfl
theorem ha_5 : px_ald s pc (.int i :: .ref 5 :: r) (hp t g) = bif px_out i 8 then none else some (pc + 1, .int (g.1 5 i.toNatClampNeg) :: r, hp t g) := rfl
theorem hw_5 : px_ast pc (.int x :: .int i :: .ref 5 :: r) (hp t g) = bif px_out i 8 then none else some (pc + 1, r, hp t (hI g 5 i.toNatClampNeg x)) := rfl
theorem hn_6 : px_len s pc (.ref 6 :: r) (hp t g) = some (pc + 1, .int 8 :: r, hp t g) := rfl
theorem ha_6 : px_ald s pc (.int i :: .ref 6 :: r) (hp t g) = bif px_out i 8 then none else some (pc + 1, .int (g.1 6 i.toNatClampNeg) :: r, hp t g) := rfl
theorem hw_6 : px_ast pc (.int x :: .int i :: .ref 6 :: r) (hp t g) = bif px_out i 8 then none else some (pc + 1, r, hp t (hI g 6 i.toNatClampNeg x)) := rfl
theorem hn_7 : px_len s pc (.ref 7 :: r) (hp t g) = some (pc + 1, .int 8 :: r, hp t g) := rfl
theorem ha_7 : px_ald s pc (.int i :: .ref 7 :: r) (hp t g) = bif px_out i 8 then none else some (pc + 1, .int (g.1 7 i.toNatClampNeg) :: r, hp t g) := rfl
theorem hw_7 : px_ast pc (.int x :: .int i :: .ref 7 :: r) (hp t g) = bif px_out i 8 then none else some (pc + 1, r, hp t (hI g 7 i.toNatClampNeg x)) := rfl
theorem hn_8 : px_len s pc (.ref 8 :: r) (hp t g) = some (pc + 1, .int 8 :: r, hp t g) := rfl
theorem ha_8 : px_ald s pc (.int i :: .ref 8 :: r) (hp t g) = bif px_out i 8 then none else some (pc + 1, .int (g.1 8 i.toNatClampNeg) :: r, hp t g) := rfl
theorem hw_8 : px_ast pc (.int x :: .int i :: .ref 8 :: r) (hp t g) = bif px_out i 8 then none else some (pc + 1, r, hp t (hI g 8 i.toNatClampNeg x)) := rfl
theorem hn_9 : px_len s pc (.ref 9 :: r) (hp t g) = some (pc + 1, .int 4 :: r, hp t g) := rfl
theorem ha_9 : px_ald s pc (.int i :: .ref 9 :: r) (hp t g) = bif px_out i 4 then none else some (pc + 1, .int (g.1 9 i.toNatClampNeg) :: r, hp t g) := rfl
theorem hw_9 : px_ast pc (.int x :: .int i :: .ref 9 :: r) (hp t g) = bif px_out i 4 then none else some (pc + 1, r, hp t (hI g 9 i.toNatClampNeg x)) := rfl
theorem hn_10 : px_len s pc (.ref 10 :: r) (hp t g) = some (pc + 1, .int 5 :: r, hp t g) := rfl
theorem ha_10 : px_ald s pc (.int i :: .ref 10 :: r) (hp t g) = bif px_out i 5 then none else some (pc + 1, .int (g.1 10 i.toNatClampNeg) :: r, hp t g) := rfl
theorem hw_10 : px_ast pc (.int x :: .int i :: .ref 10 :: r) (hp t g) = bif px_out i 5 then none else some (pc + 1, r, hp t (hI g 10 i.toNatClampNeg x)) := rfl
theorem hn_11 : px_len s pc (.ref 11 :: r) (hp t g) = some (pc + 1, .int 15 :: r, hp t g) := rfl
theorem ha_11 : px_ald s pc (.int i :: .ref 11 :: r) (hp t g) = bif px_out i 15 then none else some (pc + 1, .int (g.1 11 i.toNatClampNeg) :: r, hp t g) := rfl
theorem hw_11 : px_ast pc (.int x :: .int i :: .ref 11 :: r) (hp t g) = bif px_out i 15 then none else some (pc + 1, r, hp t (hI g 11 i.toNatClampNeg x)) := rfl
theorem hq_12 : hcl (hp t g) 12 = some 7 := rfl
theorem hg_12_0 : px_get 7 0 pc (.ref 12 :: r) (hp t g) = some (pc + 3, .ref 13 :: r, hp t g) := rfl
theorem hg_12_1 : px_get 7 1 pc (.ref 12 :: r) (hp t g) = some (pc + 3, .ref 14 :: r, hp t g) := rfl
theorem hg_12_2 : px_get 7 2 pc (.ref 12 :: r) (hp t g) = some (pc + 3, .int (g.1 12 2) :: r, hp t g) := rfl
theorem hs_12_2 : px_put 7 2 (kt_ft 7 2) pc (.int x :: .ref 12 :: r) (hp t g) = some (pc + 3, r, hp t (hI g 12 2 x)) := rfl
theorem hn_13 : px_len s pc (.ref 13 :: r) (hp t g) = some (pc + 1, .int 600 :: r, hp t g) := rfl
theorem ha_13 : px_ald s pc (.int i :: .ref 13 :: r) (hp t g) = bif px_out i 600 then none else some (pc + 1, .int (g.1 13 i.toNatClampNeg) :: r, hp t g) := rfl
theorem hw_13 : px_ast pc (.int x :: .int i :: .ref 13 :: r) (hp t g) = bif px_out i 600 then none else some (pc + 1, r, hp t (hI g 13 i.toNatClampNeg x)) := rfl
theorem hn_14 : px_len s pc (.ref 14 :: r) (hp t g) = some (pc + 1, .int 40 :: r, hp t g) := rfl
theorem ha_14 : px_ald s pc (.int i :: .ref 14 :: r) (hp t g) = bif px_out i 40 then none else some (pc + 1, .int (g.1 14 i.toNatClampNeg) :: r, hp t g) := rfl
theorem hw_14 : px_ast pc (.int x :: .int i :: .ref 14 :: r) (hp t g) = bif px_out i 40 then none else some (pc + 1, r, hp t (hI g 14 i.toNatClampNeg x)) := rfl
theorem hn_15 : px_len s pc (.ref 15 :: r) (hp t g) = some (pc + 1, .int 7 :: r, hp t g) := rfl
theorem ha_15 : px_ald s pc (.int i :: .ref 15 :: r) (hp t g) = bif px_out i 7 then none else some (pc + 1, .int (g.1 15 i.toNatClampNeg) :: r, hp t g) := rfl
theorem hw_15 : px_ast pc (.int x :: .int i :: .ref 15 :: r) (hp t g) = bif px_out i 7 then none else some (pc + 1, r, hp t (hI g 15 i.toNatClampNeg x)) := rfl
theorem hq_16 : hcl (hp t g) 16 = some 4 := rfl
theorem hg_16_0 : px_get 4 0 pc (.ref 16 :: r) (hp t g) = some (pc + 3, .ref 17 :: r, hp t g) := rfl
theorem hg_16_1 : px_get 4 1 pc (.ref 16 :: r) (hp t g) = some (pc + 3, .ref 18 :: r, hp t g) := rfl
theorem hg_16_2 : px_get 4 2 pc (.ref 16 :: r) (hp t g) = some (pc + 3, .ref 19 :: r, hp t g) := rfl
theorem hg_16_3 : px_get 4 3 pc (.ref 16 :: r) (hp t g) = some (pc + 3, .ref 20 :: r, hp t g) := rfl
theorem hg_16_4 : px_get 4 4 pc (.ref 16 :: r) (hp t g) = some (pc + 3, .ref 21 :: r, hp t g) := rfl
theorem hg_16_5 : px_get 4 5 pc (.ref 16 :: r) (hp t g) = some (pc + 3, .ref 22 :: r, hp t g) := rfl
theorem hg_16_6 : px_get 4 6 pc (.ref 16 :: r) (hp t g) = some (pc + 3, .ref 23 :: r, hp t g) := rfl
theorem hg_16_7 : px_get 4 7 pc (.ref 16 :: r) (hp t g) = some (pc + 3, .ref 24 :: r, hp t g) := rfl
theorem hg_16_8 : px_get 4 8 pc (.ref 16 :: r) (hp t g) = some (pc + 3, .ref 25 :: r, hp t g) := rfl
theorem hg_16_9 : px_get 4 9 pc (.ref 16 :: r) (hp t g) = some (pc + 3, .ref 28 :: r, hp t g) := rfl
theorem hg_16_10 : px_get 4 10 pc (.ref 16 :: r) (hp t g) = some (pc + 3, .int (g.1 16 10) :: r, hp t g) := rfl
theorem hs_16_10 : px_put 4 10 (kt_ft 4 10) pc (.int x :: .ref 16 :: r) (hp t g) = some (pc + 3, r, hp t (hI g 16 10 x)) := rfl
theorem hg_16_11 : px_get 4 11 pc (.ref 16 :: r) (hp t g) = some (pc + 3, .int (g.1 16 11) :: r, hp t g) := rfl
theorem hs_16_11 : px_put 4 11 (kt_ft 4 11) pc (.int x :: .ref 16 :: r) (hp t g) = some (pc + 3, r, hp t (hI g 16 11 x)) := rfl
theorem hg_16_12 : px_get 4 12 pc (.ref 16 :: r) (hp t g) = some (pc + 3, .int (g.1 16 12) :: r, hp t g) := rfl
theorem hs_16_12 : px_put 4 12 (kt_ft 4 12) pc (.int x :: .ref 16 :: r) (hp t g) = some (pc + 3, r, hp t (hI g 16 12 x)) := rfl
theorem hg_16_13 : px_get 4 13 pc (.ref 16 :: r) (hp t g) = some (pc + 3, .long (g.2.1 16 13) :: r, hp t g) := rfl
theorem hs_16_13 : px_put 4 13 (kt_ft 4 13) pc (.long u :: .ref 16 :: r) (hp t g) = some (pc + 3, r, hp t (hJ g 16 13 u)) := rfl
theorem hg_16_14 : px_get 4 14 pc (.ref 16 :: r) (hp t g) = some (pc + 3, .int (g.1 16 14) :: r, hp t g) := rfl
theorem hs_16_14 : px_put 4 14 (kt_ft 4 14) pc (.int x :: .ref 16 :: r) (hp t g) = some (pc + 3, r, hp t (hI g 16 14 x)) := rfl
theorem hn_17 : px_len s pc (.ref 17 :: r) (hp t g) = some (pc + 1, .int 8 :: r, hp t g) := rfl
theorem ha_17 : px_ald s pc (.int i :: .ref 17 :: r) (hp t g) = bif px_out i 8 then none else some (pc + 1, .int (g.1 17 i.toNatClampNeg) :: r, hp t g) := rfl
theorem hw_17 : px_ast pc (.int x :: .int i :: .ref 17 :: r) (hp t g) = bif px_out i 8 then none else some (pc + 1, r, hp t (hI g 17 i.toNatClampNeg x)) := rfl
theorem hn_18 : px_len s pc (.ref 18 :: r) (hp t g) = some (pc + 1, .int 8 :: r, hp t g) := rfl
theorem ha_18 : px_ald s pc (.int i :: .ref 18 :: r) (hp t g) = bif px_out i 8 then none else some (pc + 1, .int (g.1 18 i.toNatClampNeg) :: r, hp t g) := rfl
theorem hw_18 : px_ast pc (.int x :: .int i :: .ref 18 :: r) (hp t g) = bif px_out i 8 then none else some (pc + 1, r, hp t (hI g 18 i.toNatClampNeg x)) := rfl
theorem hn_19 : px_len s pc (.ref 19 :: r) (hp t g) = some (pc + 1, .int 8 :: r, hp t g) := rfl
theorem ha_19 : px_ald s pc (.int i :: .ref 19 :: r) (hp t g) = bif px_out i 8 then none else some (pc + 1, .int (g.1 19 i.toNatClampNeg) :: r, hp t g) := rfl
theorem hw_19 : px_ast pc (.int x :: .int i :: .ref 19 :: r) (hp t g) = bif px_out i 8 then none else some (pc + 1, r, hp t (hI g 19 i.toNatClampNeg x)) := rfl
theorem hn_20 : px_len s pc (.ref 20 :: r) (hp t g) = some (pc + 1, .int 8 :: r, hp t g) := rfl
theorem ha_20 : px_ald s pc (.int i :: .ref 20 :: r) (hp t g) = bif px_out i 8 then none else some (pc + 1, .int (g.1 20 i.toNatClampNeg) :: r, hp t g) := rfl
theorem hw_20 : px_ast pc (.int x :: .int i :: .ref 20 :: r) (hp t g) = bif px_out i 8 then none else some (pc + 1, r, hp t (hI g 20 i.toNatClampNeg x)) := rfl
theorem hn_21 : px_len s pc (.ref 21 :: r) (hp t g) = some (pc + 1, .int 8 :: r, hp t g) := rfl
theorem ha_21 : px_ald s pc (.int i :: .ref 21 :: r) (hp t g) = bif px_out i 8 then none else some (pc + 1, .int (g.1 21 i.toNatClampNeg) :: r, hp t g) := rfl
theorem hw_21 : px_ast pc (.int x :: .int i :: .ref 21 :: r) (hp t g) = bif px_out i 8 then none else some (pc + 1, r, hp t (hI g 21 i.toNatClampNeg x)) := rfl
theorem hn_22 : px_len s pc (.ref 22 :: r) (hp t g) = some (pc + 1, .int 4 :: r, hp t g) := rfl
theorem ha_22 : px_ald s pc (.int i :: .ref 22 :: r) (hp t g) = bif px_out i 4 then none else some (pc + 1, .int (g.1 22 i.toNatClampNeg) :: r, hp t g) := rfl
theorem hw_22 : px_ast pc (.int x :: .int i :: .ref 22 :: r) (hp t g) = bif px_out i 4 then none else some (pc + 1, r, hp t (hI g 22 i.toNatClampNeg x)) := rfl
theorem hn_23 : px_len s pc (.ref 23 :: r) (hp t g) = some (pc + 1, .int 5 :: r, hp t g) := rfl
theorem ha_23 : px_ald s pc (.int i :: .ref 23 :: r) (hp t g) = bif px_out i 5 then none else some (pc + 1, .int (g.1 23 i.toNatClampNeg) :: r, hp t g) := rfl
theorem hw_23 : px_ast pc (.int x :: .int i :: .ref 23 :: r) (hp t g) = bif px_out i 5 then none else some (pc + 1, r, hp t (hI g 23 i.toNatClampNeg x)) := rfl
theorem hn_24 : px_len s pc (.ref 24 :: r) (hp t g) = some (pc + 1, .int 15 :: r, hp t g) := rfl
theorem ha_24 : px_ald s pc (.int i :: .ref 24 :: r) (hp t g) = bif px_out i 15 then none else some (pc + 1, .int (g.1 24 i.toNatClampNeg) :: r, hp t g) := rfl
theorem hw_24 : px_ast pc (.int x :: .int i :: .ref 24 :: r) (hp t g) = bif px_out i 15 then none else some (pc + 1, r, hp t (hI g 24 i.toNatClampNeg x)) := rfl
theorem hq_25 : hcl (hp t g) 25 = some 7 := rfl
theorem hg_25_0 : px_get 7 0 pc (.ref 25 :: r) (hp t g) = some (pc + 3, .ref 26 :: r, hp t g) := rfl
theorem hg_25_1 : px_get 7 1 pc (.ref 25 :: r) (hp t g) = some (pc + 3, .ref 27 :: r, hp t g) := rfl
theorem hg_25_2 : px_get 7 2 pc (.ref 25 :: r) (hp t g) = some (pc + 3, .int (g.1 25 2) :: r, hp t g) := rfl
theorem hs_25_2 : px_put 7 2 (kt_ft 7 2) pc (.int x :: .ref 25 :: r) (hp t g) = some (pc + 3, r, hp t (hI g 25 2 x)) := rfl
theorem hn_26 : px_len s pc (.ref 26 :: r) (hp t g) = some (pc + 1, .int 600 :: r, hp t g) := rfl
theorem ha_26 : px_ald s pc (.int i :: .ref 26 :: r) (hp t g) = bif px_out i 600 then none else some (pc + 1, .int (g.1 26 i.toNatClampNeg) :: r, hp t g) := rfl
theorem hw_26 : px_ast pc (.int x :: .int i :: .ref 26 :: r) (hp t g) = bif px_out i 600 then none else some (pc + 1, r, hp t (hI g 26 i.toNatClampNeg x)) := rfl
theorem hn_27 : px_len s pc (.ref 27 :: r) (hp t g) = some (pc + 1, .int 40 :: r, hp t g) := rfl
theorem ha_27 : px_ald s pc (.int i :: .ref 27 :: r) (hp t g) = bif px_out i 40 then none else some (pc + 1, .int (g.1 27 i.toNatClampNeg) :: r, hp t g) := rfl
theorem hw_27 : px_ast pc (.int x :: .int i :: .ref 27 :: r) (hp t g) = bif px_out i 40 then none else some (pc + 1, r, hp t (hI g 27 i.toNatClampNeg x)) := rfl
theorem hn_28 : px_len s pc (.ref 28 :: r) (hp t g) = some (pc + 1, .int 7 :: r, hp t g) := rfl
theorem ha_28 : px_ald s pc (.int i :: .ref 28 :: r) (hp t g) = bif px_out i 7 then none else some (pc + 1, .int (g.1 28 i.toNatClampNeg) :: r, hp t g) := rfl
theorem hw_28 : px_ast pc (.int x :: .int i :: .ref 28 :: r) (hp t g) = bif px_out i 7 then none else some (pc + 1, r, hp t (hI g 28 i.toNatClampNeg x)) := rfl
theorem hn_29 : px_len s pc (.ref 29 :: r) (hp t g) = some (pc + 1, .int 54 :: r, hp t g) := rfl
theorem ha_29 : px_ald s pc (.int i :: .ref 29 :: r) (hp t g) = bif px_out i 54 then none else some (pc + 1, .int (g.1 29 i.toNatClampNeg) :: r, hp t g) := rfl
theorem hw_29 : px_ast pc (.int x :: .int i :: .ref 29 :: r) (hp t g) = bif px_out i 54 then none else some (pc + 1, r, hp t (hI g 29 i.toNatClampNeg x)) := rfl
theorem hn_30 : px_len s pc (.ref 30 :: r) (hp t g) = some (pc + 1, .int 54 :: r, hp t g) := rfl
theorem ha_30 : px_ald s pc (.int i :: .ref 30 :: r) (hp t g) = bif px_out i 54 then none else some (pc + 1, .int (g.1 30 i.toNatClampNeg) :: r, hp t g) := rfl
theorem hw_30 : px_ast pc (.int x :: .int i :: .ref 30 :: r) (hp t g) = bif px_out i 54 then none else some (pc + 1, r, hp t (hI g 30 i.toNatClampNeg x)) := rfl
theorem hn_31 : px_len s pc (.ref 31 :: r) (hp t g) = some (pc + 1, .int 3 :: r, hp t g) := rfl
theorem ha_31 : px_ald s pc (.int i :: .ref 31 :: r) (hp t g) = bif px_out i 3 then none else some (pc + 1, .int (g.1 31 i.toNatClampNeg) :: r, hp t g) := rfl
theorem hw_31 : px_ast pc (.int x :: .int i :: .ref 31 :: r) (hp t g) = bif px_out i 3 then none else some (pc + 1, r, hp t (hI g 31 i.toNatClampNeg x)) := rfl
theorem hq_32 : hcl (hp t g) 32 = some 0 := rfl
theorem hg_32_0 : px_get 0 0 pc (.ref 32 :: r) (hp t g) = some (pc + 3, .ref 33 :: r, hp t g) := rfl
theorem hg_32_1 : px_get 0 1 pc (.ref 32 :: r) (hp t g) = some (pc + 3, .int (g.1 32 1) :: r, hp t g) := rfl
theorem hs_32_1 : px_put 0 1 (kt_ft 0 1) pc (.int x :: .ref 32 :: r) (hp t g) = some (pc + 3, r, hp t (hI g 32 1 x)) := rfl
theorem hg_32_2 : px_get 0 2 pc (.ref 32 :: r) (hp t g) = some (pc + 3, .int (g.1 32 2) :: r, hp t g) := rfl
theorem hs_32_2 : px_put 0 2 (kt_ft 0 2) pc (.int x :: .ref 32 :: r) (hp t g) = some (pc + 3, r, hp t (hI g 32 2 x)) := rfl
theorem hn_33 : px_len s pc (.ref 33 :: r) (hp t g) = some (pc + 1, .int 2160 :: r, hp t g) := rfl
theorem ha_33 : px_ald s pc (.int i :: .ref 33 :: r) (hp t g) = bif px_out i 2160 then none else some (pc + 1, .int (g.1 33 i.toNatClampNeg) :: r, hp t g) := rfl
theorem hw_33 : px_ast pc (.int x :: .int i :: .ref 33 :: r) (hp t g) = bif px_out i 2160 then none else some (pc + 1, r, hp t (hI g 33 i.toNatClampNeg x)) := rfl
theorem hq_34 : hcl (hp t g) 34 = some 2 := rfl
theorem hg_34_0 : px_get 2 0 pc (.ref 34 :: r) (hp t g) = some (pc + 3, .ref 35 :: r, hp t g) := rfl
theorem hg_34_1 : px_get 2 1 pc (.ref 34 :: r) (hp t g) = some (pc + 3, .ref 36 :: r, hp t g) := rfl
theorem hg_34_2 : px_get 2 2 pc (.ref 34 :: r) (hp t g) = some (pc + 3, .int (g.1 34 2) :: r, hp t g) := rfl
theorem hs_34_2 : px_put 2 2 (kt_ft 2 2) pc (.int x :: .ref 34 :: r) (hp t g) = some (pc + 3, r, hp t (hI g 34 2 x)) := rfl
theorem hn_35 : px_len s pc (.ref 35 :: r) (hp t g) = some (pc + 1, .int 8 :: r, hp t g) := rfl
theorem ha_35 : px_ald s pc (.int i :: .ref 35 :: r) (hp t g) = bif px_out i 8 then none else some (pc + 1, .int (g.1 35 i.toNatClampNeg) :: r, hp t g) := rfl
theorem hw_35 : px_ast pc (.int x :: .int i :: .ref 35 :: r) (hp t g) = bif px_out i 8 then none else some (pc + 1, r, hp t (hI g 35 i.toNatClampNeg x)) := rfl
theorem hn_36 : px_len s pc (.ref 36 :: r) (hp t g) = some (pc + 1, .int 8 :: r, hp t g) := rfl
theorem ha_36 : px_ald s pc (.int i :: .ref 36 :: r) (hp t g) = bif px_out i 8 then none else some (pc + 1, .int (g.1 36 i.toNatClampNeg) :: r, hp t g) := rfl
theorem hw_36 : px_ast pc (.int x :: .int i :: .ref 36 :: r) (hp t g) = bif px_out i 8 then none else some (pc + 1, r, hp t (hI g 36 i.toNatClampNeg x)) := rfl
theorem hq_37 : hcl (hp t g) 37 = some 1 := rfl
theorem hg_37_0 : px_get 1 0 pc (.ref 37 :: r) (hp t g) = some (pc + 3, .ref 38 :: r, hp t g) := rfl
theorem hg_37_1 : px_get 1 1 pc (.ref 37 :: r) (hp t g) = some (pc + 3, .ref 39 :: r, hp t g) := rfl
theorem hg_37_2 : px_get 1 2 pc (.ref 37 :: r) (hp t g) = some (pc + 3, .ref 40 :: r, hp t g) := rfl
theorem hg_37_3 : px_get 1 3 pc (.ref 37 :: r) (hp t g) = some (pc + 3, g.2.2 37 3 :: r, hp t g) := rfl
theorem hg_37_4 : px_get 1 4 pc (.ref 37 :: r) (hp t g) = some (pc + 3, .int (g.1 37 4) :: r, hp t g) := rfl
theorem hs_37_4_0 : px_put 1 4 (kt_ft 1 4) pc (.int 0 :: .ref 37 :: r) (hp t g) = some (pc + 3, r, hp t (hI g 37 4 0)) := rfl
theorem hs_37_4_1 : px_put 1 4 (kt_ft 1 4) pc (.int 1 :: .ref 37 :: r) (hp t g) = some (pc + 3, r, hp t (hI g 37 4 1)) := rfl
theorem hg_37_5 : px_get 1 5 pc (.ref 37 :: r) (hp t g) = some (pc + 3, .int (g.1 37 5) :: r, hp t g) := rfl
theorem hs_37_5 : px_put 1 5 (kt_ft 1 5) pc (.int x :: .ref 37 :: r) (hp t g) = some (pc + 3, r, hp t (hI g 37 5 x)) := rfl
theorem hg_37_6 : px_get 1 6 pc (.ref 37 :: r) (hp t g) = some (pc + 3, .int (g.1 37 6) :: r, hp t g) := rfl
theorem hs_37_6 : px_put 1 6 (kt_ft 1 6) pc (.int x :: .ref 37 :: r) (hp t g) = some (pc + 3, r, hp t (hI g 37 6 x)) := rfl
theorem hg_37_7 : px_get 1 7 pc (.ref 37 :: r) (hp t g) = some (pc + 3, .int (g.1 37 7) :: r, hp t g) := rfl
theorem hs_37_7 : px_put 1 7 (kt_ft 1 7) pc (.int x :: .ref 37 :: r) (hp t g) = some (pc + 3, r, hp t (hI g 37 7 x)) := rfl
theorem hg_37_8 : px_get 1 8 pc (.ref 37 :: r) (hp t g) = some (pc + 3, .int (g.1 37 8) :: r, hp t g) := rfl
theorem hs_37_8 : px_put 1 8 (kt_ft 1 8) pc (.int x :: .ref 37 :: r) (hp t g) = some (pc + 3, r, hp t (hI g 37 8 x)) := rfl
theorem hn_38 : px_len s pc (.ref 38 :: r) (hp t g) = some (pc + 1, .int 54 :: r, hp t g) := rfl
theorem ha_38 : px_ald s pc (.int i :: .ref 38 :: r) (hp t g) = bif px_out i 54 then none else some (pc + 1, .int (g.1 38 i.toNatClampNeg) :: r, hp t g) := rfl
theorem hw_38 : px_ast pc (.int x :: .int i :: .ref 38 :: r) (hp t g) = bif px_out i 54 then none else some (pc + 1, r, hp t (hI g 38 i.toNatClampNeg x)) := rfl
theorem hn_39 : px_len s pc (.ref 39 :: r) (hp t g) = some (pc + 1, .int 61 :: r, hp t g) := rfl
theorem ha_39 : px_lld pc (.int i :: .ref 39 :: r) (hp t g) = bif px_out i 61 then none else some (pc + 1, .long (g.2.1 39 i.toNatClampNeg) :: r, hp t g) := rfl
theorem hw_39 : px_lst pc (.long u :: .int i :: .ref 39 :: r) (hp t g) = bif px_out i 61 then none else some (pc + 1, r, hp t (hJ g 39 i.toNatClampNeg u)) := rfl
theorem hn_40 : px_len s pc (.ref 40 :: r) (hp t g) = some (pc + 1, .int 61 :: r, hp t g) := rfl
theorem ha_40 : px_ald s pc (.int i :: .ref 40 :: r) (hp t g) = bif px_out i 61 then none else some (pc + 1, .int (g.1 40 i.toNatClampNeg) :: r, hp t g) := rfl
theorem hw_40 : px_ast pc (.int x :: .int i :: .ref 40 :: r) (hp t g) = bif px_out i 61 then none else some (pc + 1, r, hp t (hI g 40 i.toNatClampNeg x)) := rfl
theorem hq_41 : hcl (hp t g) 41 = some 5 := rfl
theorem hg_41_0 : px_get 5 0 pc (.ref 41 :: r) (hp t g) = some (pc + 3, .ref 42 :: r, hp t g) := rfl
theorem hg_41_1 : px_get 5 1 pc (.ref 41 :: r) (hp t g) = some (pc + 3, .ref 43 :: r, hp t g) := rfl
theorem hg_41_2 : px_get 5 2 pc (.ref 41 :: r) (hp t g) = some (pc + 3, .ref 44 :: r, hp t g) := rfl
theorem hg_41_3 : px_get 5 3 pc (.ref 41 :: r) (hp t g) = some (pc + 3, .int (g.1 41 3) :: r, hp t g) := rfl
theorem hs_41_3 : px_put 5 3 (kt_ft 5 3) pc (.int x :: .ref 41 :: r) (hp t g) = some (pc + 3, r, hp t (hI g 41 3 x)) := rfl
theorem hg_41_4 : px_get 5 4 pc (.ref 41 :: r) (hp t g) = some (pc + 3, .int (g.1 41 4) :: r, hp t g) := rfl
theorem hs_41_4 : px_put 5 4 (kt_ft 5 4) pc (.int x :: .ref 41 :: r) (hp t g) = some (pc + 3, r, hp t (hI g 41 4 x)) := rfl
theorem hn_42 : px_len s pc (.ref 42 :: r) (hp t g) = some (pc + 1, .int 54 :: r, hp t g) := rfl
theorem ha_42 : px_ald s pc (.int i :: .ref 42 :: r) (hp t g) = bif px_out i 54 then none else some (pc + 1, .int (g.1 42 i.toNatClampNeg) :: r, hp t g) := rfl
theorem hw_42 : px_ast pc (.int x :: .int i :: .ref 42 :: r) (hp t g) = bif px_out i 54 then none else some (pc + 1, r, hp t (hI g 42 i.toNatClampNeg x)) := rfl
theorem hn_43 : px_len s pc (.ref 43 :: r) (hp t g) = some (pc + 1, .int 4 :: r, hp t g) := rfl
theorem ha_43 : px_ald s pc (.int i :: .ref 43 :: r) (hp t g) = bif px_out i 4 then none else some (pc + 1, .int (g.1 43 i.toNatClampNeg) :: r, hp t g) := rfl
theorem hw_43 : px_ast pc (.int x :: .int i :: .ref 43 :: r) (hp t g) = bif px_out i 4 then none else some (pc + 1, r, hp t (hI g 43 i.toNatClampNeg x)) := rfl
theorem hn_44 : px_len s pc (.ref 44 :: r) (hp t g) = some (pc + 1, .int 4 :: r, hp t g) := rfl
theorem ha_44 : px_ald s pc (.int i :: .ref 44 :: r) (hp t g) = bif px_out i 4 then none else some (pc + 1, .int (g.1 44 i.toNatClampNeg) :: r, hp t g) := rfl
theorem hw_44 : px_ast pc (.int x :: .int i :: .ref 44 :: r) (hp t g) = bif px_out i 4 then none else some (pc + 1, r, hp t (hI g 44 i.toNatClampNeg x)) := rfl
theorem hq_45 : hcl (hp t g) 45 = some 8 := rfl
theorem hg_45_0 : px_get 8 0 pc (.ref 45 :: r) (hp t g) = some (pc + 3, .ref 46 :: r, hp t g) := rfl
theorem hg_45_1 : px_get 8 1 pc (.ref 45 :: r) (hp t g) = some (pc + 3, .ref 47 :: r, hp t g) := rfl
theorem hg_45_2 : px_get 8 2 pc (.ref 45 :: r) (hp t g) = some (pc + 3, .ref 48 :: r, hp t g) := rfl
theorem hn_46 : px_len s pc (.ref 46 :: r) (hp t g) = some (pc + 1, .int 4 :: r, hp t g) := rfl
theorem ha_46 : px_ald s pc (.int i :: .ref 46 :: r) (hp t g) = bif px_out i 4 then none else some (pc + 1, .int (g.1 46 i.toNatClampNeg) :: r, hp t g) := rfl
theorem hw_46 : px_ast pc (.int x :: .int i :: .ref 46 :: r) (hp t g) = bif px_out i 4 then none else some (pc + 1, r, hp t (hI g 46 i.toNatClampNeg x)) := rfl
theorem hn_47 : px_len s pc (.ref 47 :: r) (hp t g) = some (pc + 1, .int 4 :: r, hp t g) := rfl
theorem ha_47 : px_ald s pc (.int i :: .ref 47 :: r) (hp t g) = bif px_out i 4 then none else some (pc + 1, .int (g.1 47 i.toNatClampNeg) :: r, hp t g) := rfl
theorem hw_47 : px_ast pc (.int x :: .int i :: .ref 47 :: r) (hp t g) = bif px_out i 4 then none else some (pc + 1, r, hp t (hI g 47 i.toNatClampNeg x)) := rfl
theorem hn_48 : px_len s pc (.ref 48 :: r) (hp t g) = some (pc + 1, .int 16 :: r, hp t g) := rfl
theorem ha_48 : px_ald s pc (.int i :: .ref 48 :: r) (hp t g) = bif px_out i 16 then none else some (pc + 1, .int (g.1 48 i.toNatClampNeg) :: r, hp t g) := rfl
theorem hw_48 : px_ast pc (.int x :: .int i :: .ref 48 :: r) (hp t g) = bif px_out i 16 then none else some (pc + 1, r, hp t (hI g 48 i.toNatClampNeg x)) := rfl
theorem hq_49 : hcl (hp t g) 49 = some 10 := rfl
theorem hg_49_0 : px_get 10 0 pc (.ref 49 :: r) (hp t g) = some (pc + 3, .ref 50 :: r, hp t g) := rfl
theorem hg_49_1 : px_get 10 1 pc (.ref 49 :: r) (hp t g) = some (pc + 3, .ref 51 :: r, hp t g) := rfl
theorem hg_49_2 : px_get 10 2 pc (.ref 49 :: r) (hp t g) = some (pc + 3, .int (g.1 49 2) :: r, hp t g) := rfl
theorem hs_49_2 : px_put 10 2 (kt_ft 10 2) pc (.int x :: .ref 49 :: r) (hp t g) = some (pc + 3, r, hp t (hI g 49 2 x)) := rfl
theorem hg_49_3 : px_get 10 3 pc (.ref 49 :: r) (hp t g) = some (pc + 3, .ref 52 :: r, hp t g) := rfl
theorem hg_49_4 : px_get 10 4 pc (.ref 49 :: r) (hp t g) = some (pc + 3, .ref 53 :: r, hp t g) := rfl
theorem hg_49_5 : px_get 10 5 pc (.ref 49 :: r) (hp t g) = some (pc + 3, .ref 54 :: r, hp t g) := rfl
theorem hg_49_6 : px_get 10 6 pc (.ref 49 :: r) (hp t g) = some (pc + 3, .ref 55 :: r, hp t g) := rfl
theorem hg_49_7 : px_get 10 7 pc (.ref 49 :: r) (hp t g) = some (pc + 3, .ref 56 :: r, hp t g) := rfl
theorem hg_49_8 : px_get 10 8 pc (.ref 49 :: r) (hp t g) = some (pc + 3, .ref 57 :: r, hp t g) := rfl
theorem hg_49_9 : px_get 10 9 pc (.ref 49 :: r) (hp t g) = some (pc + 3, .ref 58 :: r, hp t g) := rfl
theorem hg_49_10 : px_get 10 10 pc (.ref 49 :: r) (hp t g) = some (pc + 3, .ref 59 :: r, hp t g) := rfl
theorem hg_49_11 : px_get 10 11 pc (.ref 49 :: r) (hp t g) = some (pc + 3, .ref 60 :: r, hp t g) := rfl
theorem hg_49_12 : px_get 10 12 pc (.ref 49 :: r) (hp t g) = some (pc + 3, .ref 61 :: r, hp t g) := rfl
theorem hg_49_13 : px_get 10 13 pc (.ref 49 :: r) (hp t g) = some (pc + 3, .ref 62 :: r, hp t g) := rfl
theorem hg_49_14 : px_get 10 14 pc (.ref 49 :: r) (hp t g) = some (pc + 3, .ref 63 :: r, hp t g) := rfl
theorem hg_49_15 : px_get 10 15 pc (.ref 49 :: r) (hp t g) = some (pc + 3, .int (g.1 49 15) :: r, hp t g) := rfl
theorem hs_49_15 : px_put 10 15 (kt_ft 10 15) pc (.int x :: .ref 49 :: r) (hp t g) = some (pc + 3, r, hp t (hI g 49 15 x)) := rfl
theorem hg_49_16 : px_get 10 16 pc (.ref 49 :: r) (hp t g) = some (pc + 3, .int (g.1 49 16) :: r, hp t g) := rfl
theorem hs_49_16 : px_put 10 16 (kt_ft 10 16) pc (.int x :: .ref 49 :: r) (hp t g) = some (pc + 3, r, hp t (hI g 49 16 x)) := rfl
theorem hg_49_17 : px_get 10 17 pc (.ref 49 :: r) (hp t g) = some (pc + 3, .int (g.1 49 17) :: r, hp t g) := rfl
theorem hs_49_17 : px_put 10 17 (kt_ft 10 17) pc (.int x :: .ref 49 :: r) (hp t g) = some (pc + 3, r, hp t (hI g 49 17 x)) := rfl
theorem hg_49_18 : px_get 10 18 pc (.ref 49 :: r) (hp t g) = some (pc + 3, .int (g.1 49 18) :: r, hp t g) := rfl
theorem hs_49_18 : px_put 10 18 (kt_ft 10 18) pc (.int x :: .ref 49 :: r) (hp t g) = some (pc + 3, r, hp t (hI g 49 18 x)) := rfl
theorem hg_49_19 : px_get 10 19 pc (.ref 49 :: r) (hp t g) = some (pc + 3, .int (g.1 49 19) :: r, hp t g) := rfl
theorem hs_49_19 : px_put 10 19 (kt_ft 10 19) pc (.int x :: .ref 49 :: r) (hp t g) = some (pc + 3, r, hp t (hI g 49 19 x)) := rfl
theorem hg_49_20 : px_get 10 20 pc (.ref 49 :: r) (hp t g) = some (pc + 3, .int (g.1 49 20) :: r, hp t g) := rfl
theorem hs_49_20 : px_put 10 20 (kt_ft 10 20) pc (.int x :: .ref 49 :: r) (hp t g) = some (pc + 3, r, hp t (hI g 49 20 x)) := rfl
theorem hg_49_21 : px_get 10 21 pc (.ref 49 :: r) (hp t g) = some (pc + 3, .int (g.1 49 21) :: r, hp t g) := rfl
theorem hs_49_21 : px_put 10 21 (kt_ft 10 21) pc (.int x :: .ref 49 :: r) (hp t g) = some (pc + 3, r, hp t (hI g 49 21 x)) := rfl
theorem hg_49_22 : px_get 10 22 pc (.ref 49 :: r) (hp t g) = some (pc + 3, .int (g.1 49 22) :: r, hp t g) := rfl
theorem hs_49_22 : px_put 10 22 (kt_ft 10 22) pc (.int x :: .ref 49 :: r) (hp t g) = some (pc + 3, r, hp t (hI g 49 22 x)) := rfl
theorem hg_49_23 : px_get 10 23 pc (.ref 49 :: r) (hp t g) = some (pc + 3, .int (g.1 49 23) :: r, hp t g) := rfl
theorem hs_49_23 : px_put 10 23 (kt_ft 10 23) pc (.int x :: .ref 49 :: r) (hp t g) = some (pc + 3, r, hp t (hI g 49 23 x)) := rfl
theorem hg_49_24 : px_get 10 24 pc (.ref 49 :: r) (hp t g) = some (pc + 3, .int (g.1 49 24) :: r, hp t g) := rfl
theorem hs_49_24 : px_put 10 24 (kt_ft 10 24) pc (.int x :: .ref 49 :: r) (hp t g) = some (pc + 3, r, hp t (hI g 49 24 x)) := rfl
theorem hg_49_25 : px_get 10 25 pc (.ref 49 :: r) (hp t g) = some (pc + 3, .ref 64 :: r, hp t g) := rfl
theorem hg_49_26 : px_get 10 26 pc (.ref 49 :: r) (hp t g) = some (pc + 3, .ref 65 :: r, hp t g) := rfl
theorem hg_49_27 : px_get 10 27 pc (.ref 49 :: r) (hp t g) = some (pc + 3, .ref 66 :: r, hp t g) := rfl
theorem hg_49_28 : px_get 10 28 pc (.ref 49 :: r) (hp t g) = some (pc + 3, .ref 67 :: r, hp t g) := rfl
theorem hg_49_29 : px_get 10 29 pc (.ref 49 :: r) (hp t g) = some (pc + 3, .ref 68 :: r, hp t g) := rfl
theorem hg_49_30 : px_get 10 30 pc (.ref 49 :: r) (hp t g) = some (pc + 3, .ref 69 :: r, hp t g) := rfl
theorem hg_49_31 : px_get 10 31 pc (.ref 49 :: r) (hp t g) = some (pc + 3, .ref 70 :: r, hp t g) := rfl
theorem hg_49_32 : px_get 10 32 pc (.ref 49 :: r) (hp t g) = some (pc + 3, .ref 71 :: r, hp t g) := rfl
theorem hg_49_33 : px_get 10 33 pc (.ref 49 :: r) (hp t g) = some (pc + 3, .int (g.1 49 33) :: r, hp t g) := rfl
theorem hs_49_33 : px_put 10 33 (kt_ft 10 33) pc (.int x :: .ref 49 :: r) (hp t g) = some (pc + 3, r, hp t (hI g 49 33 x)) := rfl
theorem hg_49_34 : px_get 10 34 pc (.ref 49 :: r) (hp t g) = some (pc + 3, .int (g.1 49 34) :: r, hp t g) := rfl
theorem hs_49_34 : px_put 10 34 (kt_ft 10 34) pc (.int x :: .ref 49 :: r) (hp t g) = some (pc + 3, r, hp t (hI g 49 34 x)) := rfl
theorem hg_49_35 : px_get 10 35 pc (.ref 49 :: r) (hp t g) = some (pc + 3, .int (g.1 49 35) :: r, hp t g) := rfl
theorem hs_49_35 : px_put 10 35 (kt_ft 10 35) pc (.int x :: .ref 49 :: r) (hp t g) = some (pc + 3, r, hp t (hI g 49 35 x)) := rfl
theorem hg_49_36 : px_get 10 36 pc (.ref 49 :: r) (hp t g) = some (pc + 3, .ref 72 :: r, hp t g) := rfl
theorem hg_49_37 : px_get 10 37 pc (.ref 49 :: r) (hp t g) = some (pc + 3, .ref 73 :: r, hp t g) := rfl
theorem hg_49_38 : px_get 10 38 pc (.ref 49 :: r) (hp t g) = some (pc + 3, .ref 74 :: r, hp t g) := rfl
theorem hg_49_39 : px_get 10 39 pc (.ref 49 :: r) (hp t g) = some (pc + 3, .ref 75 :: r, hp t g) := rfl
theorem hg_49_40 : px_get 10 40 pc (.ref 49 :: r) (hp t g) = some (pc + 3, .ref 76 :: r, hp t g) := rfl
theorem hg_49_41 : px_get 10 41 pc (.ref 49 :: r) (hp t g) = some (pc + 3, .ref 77 :: r, hp t g) := rfl
theorem hg_49_42 : px_get 10 42 pc (.ref 49 :: r) (hp t g) = some (pc + 3, .int (g.1 49 42) :: r, hp t g) := rfl
theorem hs_49_42 : px_put 10 42 (kt_ft 10 42) pc (.int x :: .ref 49 :: r) (hp t g) = some (pc + 3, r, hp t (hI g 49 42 x)) := rfl
theorem hg_49_43 : px_get 10 43 pc (.ref 49 :: r) (hp t g) = some (pc + 3, .ref 78 :: r, hp t g) := rfl
theorem hg_49_44 : px_get 10 44 pc (.ref 49 :: r) (hp t g) = some (pc + 3, .ref 79 :: r, hp t g) := rfl
theorem hg_49_45 : px_get 10 45 pc (.ref 49 :: r) (hp t g) = some (pc + 3, .ref 80 :: r, hp t g) := rfl
theorem hg_49_46 : px_get 10 46 pc (.ref 49 :: r) (hp t g) = some (pc + 3, .ref 81 :: r, hp t g) := rfl
theorem hg_49_47 : px_get 10 47 pc (.ref 49 :: r) (hp t g) = some (pc + 3, .int (g.1 49 47) :: r, hp t g) := rfl
theorem hs_49_47 : px_put 10 47 (kt_ft 10 47) pc (.int x :: .ref 49 :: r) (hp t g) = some (pc + 3, r, hp t (hI g 49 47 x)) := rfl
theorem hg_49_48 : px_get 10 48 pc (.ref 49 :: r) (hp t g) = some (pc + 3, .ref 82 :: r, hp t g) := rfl
theorem hg_49_49 : px_get 10 49 pc (.ref 49 :: r) (hp t g) = some (pc + 3, .int (g.1 49 49) :: r, hp t g) := rfl
theorem hs_49_49 : px_put 10 49 (kt_ft 10 49) pc (.int x :: .ref 49 :: r) (hp t g) = some (pc + 3, r, hp t (hI g 49 49 x)) := rfl
theorem hg_49_50 : px_get 10 50 pc (.ref 49 :: r) (hp t g) = some (pc + 3, .int (g.1 49 50) :: r, hp t g) := rfl
theorem hs_49_50_0 : px_put 10 50 (kt_ft 10 50) pc (.int 0 :: .ref 49 :: r) (hp t g) = some (pc + 3, r, hp t (hI g 49 50 0)) := rfl
theorem hs_49_50_1 : px_put 10 50 (kt_ft 10 50) pc (.int 1 :: .ref 49 :: r) (hp t g) = some (pc + 3, r, hp t (hI g 49 50 1)) := rfl
theorem hg_49_51 : px_get 10 51 pc (.ref 49 :: r) (hp t g) = some (pc + 3, .int (g.1 49 51) :: r, hp t g) := rfl
theorem hs_49_51 : px_put 10 51 (kt_ft 10 51) pc (.int x :: .ref 49 :: r) (hp t g) = some (pc + 3, r, hp t (hI g 49 51 x)) := rfl
theorem hg_49_52 : px_get 10 52 pc (.ref 49 :: r) (hp t g) = some (pc + 3, .int (g.1 49 52) :: r, hp t g) := rfl
theorem hs_49_52 : px_put 10 52 (kt_ft 10 52) pc (.int x :: .ref 49 :: r) (hp t g) = some (pc + 3, r, hp t (hI g 49 52 x)) := rfl
theorem hg_49_53 : px_get 10 53 pc (.ref 49 :: r) (hp t g) = some (pc + 3, .ref 83 :: r, hp t g) := rfl
theorem hg_49_54 : px_get 10 54 pc (.ref 49 :: r) (hp t g) = some (pc + 3, .ref 84 :: r, hp t g) := rfl
theorem hg_49_55 : px_get 10 55 pc (.ref 49 :: r) (hp t g) = some (pc + 3, .ref 85 :: r, hp t g) := rfl
theorem hg_49_56 : px_get 10 56 pc (.ref 49 :: r) (hp t g) = some (pc + 3, .ref 86 :: r, hp t g) := rfl
theorem hg_49_57 : px_get 10 57 pc (.ref 49 :: r) (hp t g) = some (pc + 3, .ref 87 :: r, hp t g) := rfl
theorem hn_50 : px_len s pc (.ref 50 :: r) (hp t g) = some (pc + 1, .int 4 :: r, hp t g) := rfl
theorem hn_51 : px_len s pc (.ref 51 :: r) (hp t g) = some (pc + 1, .int 7 :: r, hp t g) := rfl
theorem hn_52 : px_len s pc (.ref 52 :: r) (hp t g) = some (pc + 1, .int 8 :: r, hp t g) := rfl
theorem ha_52 : px_ald s pc (.int i :: .ref 52 :: r) (hp t g) = bif px_out i 8 then none else some (pc + 1, .int (g.1 52 i.toNatClampNeg) :: r, hp t g) := rfl
theorem hw_52 : px_ast pc (.int x :: .int i :: .ref 52 :: r) (hp t g) = bif px_out i 8 then none else some (pc + 1, r, hp t (hI g 52 i.toNatClampNeg x)) := rfl
theorem hn_53 : px_len s pc (.ref 53 :: r) (hp t g) = some (pc + 1, .int 16 :: r, hp t g) := rfl
theorem ha_53 : px_ald s pc (.int i :: .ref 53 :: r) (hp t g) = bif px_out i 16 then none else some (pc + 1, .int (g.1 53 i.toNatClampNeg) :: r, hp t g) := rfl
theorem hw_53 : px_ast pc (.int x :: .int i :: .ref 53 :: r) (hp t g) = bif px_out i 16 then none else some (pc + 1, r, hp t (hI g 53 i.toNatClampNeg x)) := rfl
theorem hn_54 : px_len s pc (.ref 54 :: r) (hp t g) = some (pc + 1, .int 16 :: r, hp t g) := rfl
theorem ha_54 : px_ald s pc (.int i :: .ref 54 :: r) (hp t g) = bif px_out i 16 then none else some (pc + 1, .int (g.1 54 i.toNatClampNeg) :: r, hp t g) := rfl
theorem hw_54 : px_ast pc (.int x :: .int i :: .ref 54 :: r) (hp t g) = bif px_out i 16 then none else some (pc + 1, r, hp t (hI g 54 i.toNatClampNeg x)) := rfl
theorem hn_55 : px_len s pc (.ref 55 :: r) (hp t g) = some (pc + 1, .int 16 :: r, hp t g) := rfl
theorem ha_55 : px_ald s pc (.int i :: .ref 55 :: r) (hp t g) = bif px_out i 16 then none else some (pc + 1, .int (g.1 55 i.toNatClampNeg) :: r, hp t g) := rfl
theorem hw_55 : px_ast pc (.int x :: .int i :: .ref 55 :: r) (hp t g) = bif px_out i 16 then none else some (pc + 1, r, hp t (hI g 55 i.toNatClampNeg x)) := rfl
theorem hn_56 : px_len s pc (.ref 56 :: r) (hp t g) = some (pc + 1, .int 16 :: r, hp t g) := rfl
theorem ha_56 : px_ald s pc (.int i :: .ref 56 :: r) (hp t g) = bif px_out i 16 then none else some (pc + 1, .int (g.1 56 i.toNatClampNeg) :: r, hp t g) := rfl
theorem hw_56 : px_ast pc (.int x :: .int i :: .ref 56 :: r) (hp t g) = bif px_out i 16 then none else some (pc + 1, r, hp t (hI g 56 i.toNatClampNeg x)) := rfl
theorem hn_57 : px_len s pc (.ref 57 :: r) (hp t g) = some (pc + 1, .int 16 :: r, hp t g) := rfl
theorem ha_57 : px_ald s pc (.int i :: .ref 57 :: r) (hp t g) = bif px_out i 16 then none else some (pc + 1, .int (g.1 57 i.toNatClampNeg) :: r, hp t g) := rfl
theorem hw_57 : px_ast pc (.int x :: .int i :: .ref 57 :: r) (hp t g) = bif px_out i 16 then none else some (pc + 1, r, hp t (hI g 57 i.toNatClampNeg x)) := rfl
theorem hn_58 : px_len s pc (.ref 58 :: r) (hp t g) = some (pc + 1, .int 8 :: r, hp t g) := rfl
theorem ha_58 : px_ald s pc (.int i :: .ref 58 :: r) (hp t g) = bif px_out i 8 then none else some (pc + 1, .int (g.1 58 i.toNatClampNeg) :: r, hp t g) := rfl
theorem hw_58 : px_ast pc (.int x :: .int i :: .ref 58 :: r) (hp t g) = bif px_out i 8 then none else some (pc + 1, r, hp t (hI g 58 i.toNatClampNeg x)) := rfl
theorem hn_59 : px_len s pc (.ref 59 :: r) (hp t g) = some (pc + 1, .int 10 :: r, hp t g) := rfl
theorem ha_59 : px_ald s pc (.int i :: .ref 59 :: r) (hp t g) = bif px_out i 10 then none else some (pc + 1, .int (g.1 59 i.toNatClampNeg) :: r, hp t g) := rfl
theorem hw_59 : px_ast pc (.int x :: .int i :: .ref 59 :: r) (hp t g) = bif px_out i 10 then none else some (pc + 1, r, hp t (hI g 59 i.toNatClampNeg x)) := rfl
theorem hn_60 : px_len s pc (.ref 60 :: r) (hp t g) = some (pc + 1, .int 30 :: r, hp t g) := rfl
theorem ha_60 : px_ald s pc (.int i :: .ref 60 :: r) (hp t g) = bif px_out i 30 then none else some (pc + 1, .int (g.1 60 i.toNatClampNeg) :: r, hp t g) := rfl
theorem hw_60 : px_ast pc (.int x :: .int i :: .ref 60 :: r) (hp t g) = bif px_out i 30 then none else some (pc + 1, r, hp t (hI g 60 i.toNatClampNeg x)) := rfl
theorem hn_61 : px_len s pc (.ref 61 :: r) (hp t g) = some (pc + 1, .int 1200 :: r, hp t g) := rfl
theorem ha_61 : px_ald s pc (.int i :: .ref 61 :: r) (hp t g) = bif px_out i 1200 then none else some (pc + 1, .int (g.1 61 i.toNatClampNeg) :: r, hp t g) := rfl
theorem hw_61 : px_ast pc (.int x :: .int i :: .ref 61 :: r) (hp t g) = bif px_out i 1200 then none else some (pc + 1, r, hp t (hI g 61 i.toNatClampNeg x)) := rfl
theorem hn_62 : px_len s pc (.ref 62 :: r) (hp t g) = some (pc + 1, .int 3 :: r, hp t g) := rfl
theorem ha_62 : px_ald s pc (.int i :: .ref 62 :: r) (hp t g) = bif px_out i 3 then none else some (pc + 1, .int (g.1 62 i.toNatClampNeg) :: r, hp t g) := rfl
theorem hw_62 : px_ast pc (.int x :: .int i :: .ref 62 :: r) (hp t g) = bif px_out i 3 then none else some (pc + 1, r, hp t (hI g 62 i.toNatClampNeg x)) := rfl
theorem hn_63 : px_len s pc (.ref 63 :: r) (hp t g) = some (pc + 1, .int 600 :: r, hp t g) := rfl
theorem ha_63 : px_ald s pc (.int i :: .ref 63 :: r) (hp t g) = bif px_out i 600 then none else some (pc + 1, .int (g.1 63 i.toNatClampNeg) :: r, hp t g) := rfl
theorem hw_63 : px_ast pc (.int x :: .int i :: .ref 63 :: r) (hp t g) = bif px_out i 600 then none else some (pc + 1, r, hp t (hI g 63 i.toNatClampNeg x)) := rfl
theorem hn_64 : px_len s pc (.ref 64 :: r) (hp t g) = some (pc + 1, .int 8 :: r, hp t g) := rfl
theorem ha_64 : px_ald s pc (.int i :: .ref 64 :: r) (hp t g) = bif px_out i 8 then none else some (pc + 1, .int (g.1 64 i.toNatClampNeg) :: r, hp t g) := rfl
theorem hw_64 : px_ast pc (.int x :: .int i :: .ref 64 :: r) (hp t g) = bif px_out i 8 then none else some (pc + 1, r, hp t (hI g 64 i.toNatClampNeg x)) := rfl
theorem hn_65 : px_len s pc (.ref 65 :: r) (hp t g) = some (pc + 1, .int 8 :: r, hp t g) := rfl
theorem ha_65 : px_ald s pc (.int i :: .ref 65 :: r) (hp t g) = bif px_out i 8 then none else some (pc + 1, .int (g.1 65 i.toNatClampNeg) :: r, hp t g) := rfl
theorem hw_65 : px_ast pc (.int x :: .int i :: .ref 65 :: r) (hp t g) = bif px_out i 8 then none else some (pc + 1, r, hp t (hI g 65 i.toNatClampNeg x)) := rfl
theorem hn_66 : px_len s pc (.ref 66 :: r) (hp t g) = some (pc + 1, .int 8 :: r, hp t g) := rfl
theorem ha_66 : px_ald s pc (.int i :: .ref 66 :: r) (hp t g) = bif px_out i 8 then none else some (pc + 1, .int (g.1 66 i.toNatClampNeg) :: r, hp t g) := rfl
theorem hw_66 : px_ast pc (.int x :: .int i :: .ref 66 :: r) (hp t g) = bif px_out i 8 then none else some (pc + 1, r, hp t (hI g 66 i.toNatClampNeg x)) := rfl
theorem hn_67 : px_len s pc (.ref 67 :: r) (hp t g) = some (pc + 1, .int 8 :: r, hp t g) := rfl
theorem ha_67 : px_ald s pc (.int i :: .ref 67 :: r) (hp t g) = bif px_out i 8 then none else some (pc + 1, .int (g.1 67 i.toNatClampNeg) :: r, hp t g) := rfl
theorem hw_67 : px_ast pc (.int x :: .int i :: .ref 67 :: r) (hp t g) = bif px_out i 8 then none else some (pc + 1, r, hp t (hI g 67 i.toNatClampNeg x)) := rfl
theorem hn_68 : px_len s pc (.ref 68 :: r) (hp t g) = some (pc + 1, .int 8 :: r, hp t g) := rfl
theorem ha_68 : px_ald s pc (.int i :: .ref 68 :: r) (hp t g) = bif px_out i 8 then none else some (pc + 1, .int (g.1 68 i.toNatClampNeg) :: r, hp t g) := rfl
theorem hw_68 : px_ast pc (.int x :: .int i :: .ref 68 :: r) (hp t g) = bif px_out i 8 then none else some (pc + 1, r, hp t (hI g 68 i.toNatClampNeg x)) := rfl
theorem hn_69 : px_len s pc (.ref 69 :: r) (hp t g) = some (pc + 1, .int 8 :: r, hp t g) := rfl
theorem ha_69 : px_ald s pc (.int i :: .ref 69 :: r) (hp t g) = bif px_out i 8 then none else some (pc + 1, .int (g.1 69 i.toNatClampNeg) :: r, hp t g) := rfl
theorem hw_69 : px_ast pc (.int x :: .int i :: .ref 69 :: r) (hp t g) = bif px_out i 8 then none else some (pc + 1, r, hp t (hI g 69 i.toNatClampNeg x)) := rfl
theorem hn_70 : px_len s pc (.ref 70 :: r) (hp t g) = some (pc + 1, .int 5 :: r, hp t g) := rfl
theorem ha_70 : px_ald s pc (.int i :: .ref 70 :: r) (hp t g) = bif px_out i 5 then none else some (pc + 1, .int (g.1 70 i.toNatClampNeg) :: r, hp t g) := rfl
theorem hw_70 : px_ast pc (.int x :: .int i :: .ref 70 :: r) (hp t g) = bif px_out i 5 then none else some (pc + 1, r, hp t (hI g 70 i.toNatClampNeg x)) := rfl
theorem hn_71 : px_len s pc (.ref 71 :: r) (hp t g) = some (pc + 1, .int 2160 :: r, hp t g) := rfl
theorem ha_71 : px_ald s pc (.int i :: .ref 71 :: r) (hp t g) = bif px_out i 2160 then none else some (pc + 1, .int (g.1 71 i.toNatClampNeg) :: r, hp t g) := rfl
theorem hw_71 : px_ast pc (.int x :: .int i :: .ref 71 :: r) (hp t g) = bif px_out i 2160 then none else some (pc + 1, r, hp t (hI g 71 i.toNatClampNeg x)) := rfl
theorem hn_72 : px_len s pc (.ref 72 :: r) (hp t g) = some (pc + 1, .int 7 :: r, hp t g) := rfl
theorem ha_72 : px_ald s pc (.int i :: .ref 72 :: r) (hp t g) = bif px_out i 7 then none else some (pc + 1, .int (g.1 72 i.toNatClampNeg) :: r, hp t g) := rfl
theorem hw_72 : px_ast pc (.int x :: .int i :: .ref 72 :: r) (hp t g) = bif px_out i 7 then none else some (pc + 1, r, hp t (hI g 72 i.toNatClampNeg x)) := rfl
theorem hn_73 : px_len s pc (.ref 73 :: r) (hp t g) = some (pc + 1, .int 64 :: r, hp t g) := rfl
theorem ha_73 : px_ald s pc (.int i :: .ref 73 :: r) (hp t g) = bif px_out i 64 then none else some (pc + 1, .int (g.1 73 i.toNatClampNeg) :: r, hp t g) := rfl
theorem hw_73 : px_ast pc (.int x :: .int i :: .ref 73 :: r) (hp t g) = bif px_out i 64 then none else some (pc + 1, r, hp t (hI g 73 i.toNatClampNeg x)) := rfl
theorem hn_74 : px_len s pc (.ref 74 :: r) (hp t g) = some (pc + 1, .int 54 :: r, hp t g) := rfl
theorem ha_74 : px_ald s pc (.int i :: .ref 74 :: r) (hp t g) = bif px_out i 54 then none else some (pc + 1, .int (g.1 74 i.toNatClampNeg) :: r, hp t g) := rfl
theorem hw_74 : px_ast pc (.int x :: .int i :: .ref 74 :: r) (hp t g) = bif px_out i 54 then none else some (pc + 1, r, hp t (hI g 74 i.toNatClampNeg x)) := rfl
theorem hn_75 : px_len s pc (.ref 75 :: r) (hp t g) = some (pc + 1, .int 4 :: r, hp t g) := rfl
theorem ha_75 : px_ald s pc (.int i :: .ref 75 :: r) (hp t g) = bif px_out i 4 then none else some (pc + 1, .int (g.1 75 i.toNatClampNeg) :: r, hp t g) := rfl
theorem hw_75 : px_ast pc (.int x :: .int i :: .ref 75 :: r) (hp t g) = bif px_out i 4 then none else some (pc + 1, r, hp t (hI g 75 i.toNatClampNeg x)) := rfl
theorem hn_76 : px_len s pc (.ref 76 :: r) (hp t g) = some (pc + 1, .int 4 :: r, hp t g) := rfl
theorem ha_76 : px_ald s pc (.int i :: .ref 76 :: r) (hp t g) = bif px_out i 4 then none else some (pc + 1, .int (g.1 76 i.toNatClampNeg) :: r, hp t g) := rfl
theorem hw_76 : px_ast pc (.int x :: .int i :: .ref 76 :: r) (hp t g) = bif px_out i 4 then none else some (pc + 1, r, hp t (hI g 76 i.toNatClampNeg x)) := rfl
theorem hn_77 : px_len s pc (.ref 77 :: r) (hp t g) = some (pc + 1, .int 54 :: r, hp t g) := rfl
theorem ha_77 : px_ald s pc (.int i :: .ref 77 :: r) (hp t g) = bif px_out i 54 then none else some (pc + 1, .int (g.1 77 i.toNatClampNeg) :: r, hp t g) := rfl
theorem hw_77 : px_ast pc (.int x :: .int i :: .ref 77 :: r) (hp t g) = bif px_out i 54 then none else some (pc + 1, r, hp t (hI g 77 i.toNatClampNeg x)) := rfl
theorem hn_78 : px_len s pc (.ref 78 :: r) (hp t g) = some (pc + 1, .int 8 :: r, hp t g) := rfl
theorem ha_78 : px_ald s pc (.int i :: .ref 78 :: r) (hp t g) = bif px_out i 8 then none else some (pc + 1, .int (g.1 78 i.toNatClampNeg) :: r, hp t g) := rfl
theorem hw_78 : px_ast pc (.int x :: .int i :: .ref 78 :: r) (hp t g) = bif px_out i 8 then none else some (pc + 1, r, hp t (hI g 78 i.toNatClampNeg x)) := rfl
theorem hn_79 : px_len s pc (.ref 79 :: r) (hp t g) = some (pc + 1, .int 8 :: r, hp t g) := rfl
theorem ha_79 : px_ald s pc (.int i :: .ref 79 :: r) (hp t g) = bif px_out i 8 then none else some (pc + 1, .int (g.1 79 i.toNatClampNeg) :: r, hp t g) := rfl
theorem hw_79 : px_ast pc (.int x :: .int i :: .ref 79 :: r) (hp t g) = bif px_out i 8 then none else some (pc + 1, r, hp t (hI g 79 i.toNatClampNeg x)) := rfl
theorem hn_80 : px_len s pc (.ref 80 :: r) (hp t g) = some (pc + 1, .int 54 :: r, hp t g) := rfl
theorem ha_80 : px_ald s pc (.int i :: .ref 80 :: r) (hp t g) = bif px_out i 54 then none else some (pc + 1, .int (g.1 80 i.toNatClampNeg) :: r, hp t g) := rfl
theorem hw_80 : px_ast pc (.int x :: .int i :: .ref 80 :: r) (hp t g) = bif px_out i 54 then none else some (pc + 1, r, hp t (hI g 80 i.toNatClampNeg x)) := rfl
theorem hn_81 : px_len s pc (.ref 81 :: r) (hp t g) = some (pc + 1, .int 80 :: r, hp t g) := rfl
theorem ha_81 : px_ald s pc (.int i :: .ref 81 :: r) (hp t g) = bif px_out i 80 then none else some (pc + 1, .int (g.1 81 i.toNatClampNeg) :: r, hp t g) := rfl
theorem hw_81 : px_ast pc (.int x :: .int i :: .ref 81 :: r) (hp t g) = bif px_out i 80 then none else some (pc + 1, r, hp t (hI g 81 i.toNatClampNeg x)) := rfl
theorem hn_82 : px_len s pc (.ref 82 :: r) (hp t g) = some (pc + 1, .int 4800 :: r, hp t g) := rfl
theorem ha_82 : px_lld pc (.int i :: .ref 82 :: r) (hp t g) = bif px_out i 4800 then none else some (pc + 1, .long (g.2.1 82 i.toNatClampNeg) :: r, hp t g) := rfl
theorem hw_82 : px_lst pc (.long u :: .int i :: .ref 82 :: r) (hp t g) = bif px_out i 4800 then none else some (pc + 1, r, hp t (hJ g 82 i.toNatClampNeg u)) := rfl
theorem hn_83 : px_len s pc (.ref 83 :: r) (hp t g) = some (pc + 1, .int 54 :: r, hp t g) := rfl
theorem ha_83 : px_ald s pc (.int i :: .ref 83 :: r) (hp t g) = bif px_out i 54 then none else some (pc + 1, .int (g.1 83 i.toNatClampNeg) :: r, hp t g) := rfl
theorem hw_83 : px_ast pc (.int x :: .int i :: .ref 83 :: r) (hp t g) = bif px_out i 54 then none else some (pc + 1, r, hp t (hI g 83 i.toNatClampNeg x)) := rfl
theorem hn_84 : px_len s pc (.ref 84 :: r) (hp t g) = some (pc + 1, .int 2160 :: r, hp t g) := rfl
theorem ha_84 : px_ald s pc (.int i :: .ref 84 :: r) (hp t g) = bif px_out i 2160 then none else some (pc + 1, .int (g.1 84 i.toNatClampNeg) :: r, hp t g) := rfl
theorem hw_84 : px_ast pc (.int x :: .int i :: .ref 84 :: r) (hp t g) = bif px_out i 2160 then none else some (pc + 1, r, hp t (hI g 84 i.toNatClampNeg x)) := rfl
theorem hn_85 : px_len s pc (.ref 85 :: r) (hp t g) = some (pc + 1, .int 8 :: r, hp t g) := rfl
theorem ha_85 : px_ald s pc (.int i :: .ref 85 :: r) (hp t g) = bif px_out i 8 then none else some (pc + 1, .int (g.1 85 i.toNatClampNeg) :: r, hp t g) := rfl
theorem hw_85 : px_ast pc (.int x :: .int i :: .ref 85 :: r) (hp t g) = bif px_out i 8 then none else some (pc + 1, r, hp t (hI g 85 i.toNatClampNeg x)) := rfl
theorem hn_86 : px_len s pc (.ref 86 :: r) (hp t g) = some (pc + 1, .int 8 :: r, hp t g) := rfl
theorem ha_86 : px_ald s pc (.int i :: .ref 86 :: r) (hp t g) = bif px_out i 8 then none else some (pc + 1, .int (g.1 86 i.toNatClampNeg) :: r, hp t g) := rfl
theorem hw_86 : px_ast pc (.int x :: .int i :: .ref 86 :: r) (hp t g) = bif px_out i 8 then none else some (pc + 1, r, hp t (hI g 86 i.toNatClampNeg x)) := rfl
theorem hn_87 : px_len s pc (.ref 87 :: r) (hp t g) = some (pc + 1, .int 3 :: r, hp t g) := rfl
theorem ha_87 : px_ald s pc (.int i :: .ref 87 :: r) (hp t g) = bif px_out i 3 then none else some (pc + 1, .int (g.1 87 i.toNatClampNeg) :: r, hp t g) := rfl
theorem hw_87 : px_ast pc (.int x :: .int i :: .ref 87 :: r) (hp t g) = bif px_out i 3 then none else some (pc + 1, r, hp t (hI g 87 i.toNatClampNeg x)) := rfl
theorem hn_88 : px_len s pc (.ref 88 :: r) (hp t g) = some (pc + 1, .int 1 :: r, hp t g) := rfl
theorem ha_88 : px_lld pc (.int i :: .ref 88 :: r) (hp t g) = bif px_out i 1 then none else some (pc + 1, .long (g.2.1 88 i.toNatClampNeg) :: r, hp t g) := rfl
theorem hw_88 : px_lst pc (.long u :: .int i :: .ref 88 :: r) (hp t g) = bif px_out i 1 then none else some (pc + 1, r, hp t (hJ g 88 i.toNatClampNeg u)) := rfl
end HP
