/-! the reference: dots, mayStand, puts, takes -/
section M4
theorem upto_all {α : Type} {f g : Nat → α} {n : Nat} : ∀ j, j < n → upto f g n j = f j := fun j h => upto_lt h
end M4
