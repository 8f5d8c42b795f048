/-! the reference: print, printed -/
section M9
def pr25 (F : Nat → Nat → Int) (day : Int) (e : Nat) : Nat → (Nat → Int)
  | 0 => F 25
  | n + 1 => gup (pr25 F day e n) (14 * e + n) (nmOf F day n)
def pr26i (F : Nat → Nat → Int) (day : Int) (np e k : Nat) (X : Nat → Int) : Nat → (Nat → Int)
  | 0 => X
  | n + 1 => gup (pr26i F day np e k X n) (14 * (4 * e + k) + n) ((lay0 F k np day).1 n)
def pr26 (F : Nat → Nat → Int) (day : Int) (np e : Nat) : Nat → (Nat → Int)
  | 0 => F 26
  | k + 1 => pr26i F day np e k (pr26 F day np e k) np
/-- the rows with an edition printed -/
def prF (z : Nat → Int) (F : Nat → Nat → Int) : Nat → Nat → Int :=
  gup (gup (gup (gup F 23 (gup (F 23) (z 22).toNat (z 3))) 24 (gup (F 24) (z 22).toNat (z 11))) 25 (pr25 F (z 0) (z 22).toNat (z 3).toNat)) 26 (pr26 F (z 0) (z 3).toNat (z 22).toNat (z 11).toNat)
end M9
