/-! the reference: canTry, worthOf -/
section M11
def mn4 (n : Nat) : Nat := if n < 4 then n else 4
/-- the rows that canTry leaves: the places to try in 21 -/
def triedOk (X : Nat → Int) (L : List Nat) : Prop := ∀ j, j < 4 → j < L.length → X j = ((L.getD j 0 : Nat) : Int)
theorem F4_17only (F : Nat → Nat → Int) (C : Nat → Int) : F4 F (F 15) (F 16) C (F 18) = gup F 17 C := by
  rw [← F4_17 F (F 15) (F 16) (F 17) (F 18) C, F4_self]
end M11
