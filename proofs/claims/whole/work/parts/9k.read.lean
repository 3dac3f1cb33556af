/-! ===== a kitchen's text: plain functions. Ints: 0 fault, 1 its place, 2 start, 3 token, 4 behind it, 5 number, 6 kettles, 7 stoves, 8 dishes, 9 the code's length, 10 has it a rule ===== -/
abbrev Sg : Type := (Nat → Nat) × Kt
def sN (σ : Sg) (i v : Nat) : Sg := (fun j => if j = i then v else σ.1 j, σ.2)
def sK (σ : Sg) (c i : Nat) (x : Int32) : Sg := (σ.1, fun c' j => if c' = c ∧ j = i then x else σ.2 c' j)
theorem sN_at {σ : Sg} {i v j : Nat} : (sN σ i v).1 j = if j = i then v else σ.1 j := rfl
theorem sN_2 {σ : Sg} {i v : Nat} : (sN σ i v).2 = σ.2 := rfl
theorem sK_1 {σ : Sg} {c i : Nat} {x : Int32} : (sK σ c i x).1 = σ.1 := rfl
/-- what a byte is: 1 letter, 2 digit, 3 sign, 4 blank, 5 nothing -/
def srt (x : Int32) : Nat := if 97 ≤ x.toInt ∧ x.toInt ≤ 122 then 1 else if 48 ≤ x.toInt ∧ x.toInt ≤ 57 then 2 else if x = 10 ∨ x = 32 then 4 else if x = 40 ∨ x = 41 ∨ x = 42 ∨ x = 43 ∨ x = 45 ∨ x = 47 ∨ x = 59 ∨ x = 60 ∨ x = 61 then 3 else 5
def sor (b : Rw) (n i : Nat) : Nat := if i < n then srt (b i) else 0
/-- past all of sort q -/
def runQ (b : Rw) (n q : Nat) : Nat → Nat → Nat
  | 0, a => a
  | m + 1, a => if sor b n a = q then runQ b n q m (a + 1) else a
def nmb (b : Rw) (n s : Nat) : Nat → Nat → Nat → Nat
  | 0, _, v => v
  | m + 1, a, v => if sor b n a = 2 then nmb b n s m (a + 1) (if a - s < 4 then 10 * v + ((b a).toNatClampNeg - 48) else v) else v
/-- where the next token begins -/
def begs (b : Rw) (n : Nat) (σ : Sg) : Nat := runQ b n 4 (n - σ.1 4) (σ.1 4)
def pAdv (b : Rw) (n : Nat) (σ : Sg) : Sg :=
  if σ.1 0 = 0 then sN (sN (sN (sN σ 2 (begs b n σ)) 3 (sor b n (begs b n σ))) 4 (if sor b n (begs b n σ) = 1 then runQ b n 1 (n - begs b n σ) (begs b n σ) else if sor b n (begs b n σ) = 2 then runQ b n 2 (n - begs b n σ) (begs b n σ) else if sor b n (begs b n σ) = 0 then begs b n σ else begs b n σ + 1)) 5 (if sor b n (begs b n σ) = 2 then nmb b n (begs b n σ) (n - begs b n σ) (begs b n σ) 0 else 0) else σ
def pFl (c : Nat) (σ : Sg) : Sg := if σ.1 0 = 0 then sN (sN σ 0 c) 1 (σ.1 2) else σ
def pIsS (b : Rw) (x : Int32) (σ : Sg) : Bool := decide (σ.1 0 = 0) && (decide (σ.1 3 = 3) && decide (b (σ.1 2) = x))
/-- word w stands from place s on -/
def wrdB (b : Rw) (s : Nat) : List Int32 → Bool
  | [] => true
  | x :: w => if b s = x then wrdB b (s + 1) w else false
def pIsW (b : Rw) (w : List Int32) (σ : Sg) : Bool := decide (σ.1 0 = 0) && (decide (σ.1 3 = 1) && (decide (σ.1 4 - σ.1 2 = w.length) && wrdB b (σ.1 2) w))
def pEx (b : Rw) (n : Nat) (x : Int32) (σ : Sg) : Sg := if pIsS b x σ = true then pAdv b n σ else pFl 1 σ
def pNeed (lo hi : Nat) (σ : Sg) : Sg := if σ.1 0 = 0 then (if σ.1 3 = 2 then (if 4 < σ.1 4 - σ.1 2 ∨ σ.1 5 < lo ∨ hi < σ.1 5 then pFl 2 σ else σ) else pFl 1 σ) else σ
def pNumS (b : Rw) (n lo hi : Nat) (σ : Sg) : Sg := if (pNeed lo hi σ).1 0 = 0 then pAdv b n (pNeed lo hi σ) else pNeed lo hi σ
def pNumV (lo hi : Nat) (σ : Sg) : Nat := if (pNeed lo hi σ).1 0 = 0 then σ.1 5 else 0
def pAdd (op : Int32) (σ : Sg) : Sg := if σ.1 0 = 0 ∧ σ.1 9 < 600 then sN (sK σ 8 (σ.1 9) op) 9 (σ.1 9 + 1) else σ
def loopW (T : Sg → Bool) (B : Sg → Sg) : Nat → Sg → Sg
  | 0, σ => σ
  | f + 1, σ => if T σ = true then loopW T B f (B σ) else σ
def itN (B : Sg → Sg) : Nat → Sg → Sg
  | 0, σ => σ
  | m + 1, σ => itN B m (B σ)
/-- which of the words stands here -/
def whW (b : Rw) (σ : Sg) : List (List Int32) → Nat → Option Nat
  | [], _ => none
  | w :: l, i => if pIsW b w σ = true then some i else whW b σ l (i + 1)
def wKin : List (List Int32) := [[116, 105, 110], [99, 111, 112, 112, 101, 114], [105, 114, 111, 110], [101, 110, 97, 109, 101, 108]]
def wVal : List (List Int32) := [[110, 111, 116, 101], [115, 117, 110, 103], [116, 104, 105, 114, 100], [104, 101, 97, 116], [102, 105, 108, 108], [99, 104, 97, 108, 107], [115, 105, 110, 103, 101, 114, 115]]
def wSto : List Int32 := [115, 116, 111, 118, 101]
def wDis : List Int32 := [100, 105, 115, 104]
def wLif : List Int32 := [108, 105, 102, 116, 115]
def wOr : List Int32 := [111, 114]
def wAnd : List Int32 := [97, 110, 100]
def wNot : List Int32 := [110, 111, 116]
section PURE
variable (b : Rw) (n : Nat)
def pPart (rc : Sg → Sg) (σ : Sg) : Sg :=
  if σ.1 0 = 0 then (if σ.1 3 = 2 then pAdd (Int32.ofNat (pNumV 0 9999 σ)) (pNumS b n 0 9999 σ) else if σ.1 3 = 1 then (match whW b σ wVal 0 with
    | none => pFl 3 σ
    | some v => pAdv b n (pAdd (Int32.ofNat (10000 + v)) σ)) else if (pEx b n 40 σ).1 0 = 0 then pEx b n 41 (rc (pEx b n 40 σ)) else pEx b n 40 σ) else σ
def pProd (rc : Sg → Sg) (σ : Sg) : Sg := loopW (fun s => pIsS b 42 s || pIsS b 47 s) (fun s => pAdd (if pIsS b 42 s = true then 10014 else 10015) (pPart b n rc (pAdv b n s))) 600 (pPart b n rc σ)
def pSum (rc : Sg → Sg) (σ : Sg) : Sg := loopW (fun s => pIsS b 43 s || pIsS b 45 s) (fun s => pAdd (if pIsS b 43 s = true then 10012 else 10013) (pProd b n rc (pAdv b n s))) 600 (pProd b n rc σ)
def notN : Nat → Nat → Sg → Nat
  | 0, k, _ => k
  | f + 1, k, σ => if pIsW b wNot σ = true then notN f (k + 1) (pAdv b n σ) else k
def notS : Nat → Sg → Sg
  | 0, σ => σ
  | f + 1, σ => if pIsW b wNot σ = true then notS f (pAdv b n σ) else σ
def pCmp (rc : Sg → Sg) (σ : Sg) : Sg := if (pIsS b 60 σ || pIsS b 61 σ) = true then pAdd (if pIsS b 60 σ = true then 10010 else 10011) (pSum b n rc (pAdv b n σ)) else σ
def pTest (rc : Sg → Sg) (σ : Sg) : Sg :=
  if notN b n 6 0 σ = 6 ∧ pIsW b wNot (notS b n 6 σ) = true then pFl 2 (notS b n 6 σ) else itN (pAdd 10007) (notN b n 6 0 σ) (pCmp b n rc (pSum b n rc (notS b n 6 σ)))
def pBoth (rc : Sg → Sg) (σ : Sg) : Sg := loopW (pIsW b wAnd) (fun s => pAdd 10009 (pTest b n rc (pAdv b n s))) 600 (pTest b n rc σ)
def pExB (rc : Sg → Sg) (σ : Sg) : Sg := loopW (pIsW b wOr) (fun s => pAdd 10008 (pBoth b n rc (pAdv b n s))) 600 (pBoth b n rc σ)
def mayB (σ : Sg) : Bool := decide (σ.1 3 = 2) || (decide (σ.1 3 = 1) || pIsS b 40 σ)
def pExpr : Nat → Sg → Sg
  | 0, σ => pFl (if mayB b σ = true then 2 else 1) σ
  | m + 1, σ => pExB b n (pExpr m) σ
def pLif (σ : Sg) : Sg := if σ.1 0 = 0 then (if σ.1 10 = 0 then pExpr b n 6 (pAdv b n (sN σ 10 1)) else pFl 5 σ) else σ
def pKet (kind : Nat) (σ : Sg) : Sg :=
  if σ.1 6 < 8 then
    let σ1 := sK (pAdv b n σ) 0 (σ.1 6) (Int32.ofNat kind)
    let σ2 := sK (pNumS b n 1 24 σ1) 1 (σ.1 6) (Int32.ofNat (pNumV 1 24 σ1))
    let σ3 := sK (pNumS b n 1 40 σ2) 2 (σ.1 6) (Int32.ofNat (pNumV 1 40 σ2))
    let σ4 := sK (pNumS b n 0 (pNumV 1 40 σ2) σ3) 3 (σ.1 6) (Int32.ofNat (pNumV 0 (pNumV 1 40 σ2) σ3))
    let σ5 := sK (pNumS b n 0 9 σ4) 4 (σ.1 6) (Int32.ofNat (pNumV 0 9 σ4))
    sN σ5 6 (σ.1 6 + 1)
  else pFl 2 σ
def pStv (σ : Sg) : Sg :=
  if σ.1 7 < 4 then
    let σ1 := pAdv b n σ
    sN (sK (pNumS b n 1 40 σ1) 5 (σ.1 7) (Int32.ofNat (pNumV 1 40 σ1))) 7 (σ.1 7 + 1)
  else pFl 2 σ
def stpN (dd : Nat) (σ : Sg) : Nat := (σ.2 6 dd).toNatClampNeg
/-- a step of its number is told already -/
def hasB (dd : Nat) (σ : Sg) : Nat → Nat → Bool
  | 0, _ => false
  | m + 1, i => if σ.2 7 (dd * 3 + i) = Int32.ofNat (σ.1 5) then true else hasB dd σ m (i + 1)
def pStp (dd : Nat) (σ : Sg) : Sg :=
  if σ.1 0 = 0 then
    (if σ.1 3 = 2 ∧ 3 ≤ stpN dd σ then pFl 2 σ
    else if (pNeed 1 24 σ).1 0 = 0 then (if hasB dd σ (stpN dd σ) 0 = true then pFl 4 σ else pAdv b n (sK (sK σ 7 (dd * 3 + stpN dd σ) (Int32.ofNat (σ.1 5))) 6 dd (Int32.ofNat (stpN dd σ + 1))))
    else pNeed 1 24 σ)
  else σ
def isNm (σ : Sg) : Bool := decide (σ.1 0 = 0) && decide (σ.1 3 = 2)
def pDsh (σ : Sg) : Sg :=
  if σ.1 8 < 5 then
    let σ1 := pStp b n (σ.1 8) (sK (pAdv b n σ) 6 (σ.1 8) 0)
    let σ2 := loopW isNm (pStp b n (σ.1 8)) 600 σ1
    sN σ2 8 (σ.1 8 + 1)
  else pFl 2 σ
def pLin (σ : Sg) : Sg :=
  match whW b σ wKin 0 with
  | some k => pKet b n k σ
  | none => if pIsW b wSto σ = true then pStv b n σ else if pIsW b wDis σ = true then pDsh b n σ else if pIsW b wLif σ = true then pLif b n σ else pFl 1 σ
def isMo (σ : Sg) : Bool := decide (σ.1 0 = 0) && !decide (σ.1 3 = 0)
def pBod (σ : Sg) : Sg := pEx b n 59 (pLin b n σ)
def pRead (σ : Sg) : Sg := loopW isMo (pBod b n) 600 (pAdv b n σ)
end PURE
