/-! the reference: best -/
section M13
theorem maxW_rng {F : Nat → Nat → Int} {s : Nat} {day : Int} {P : Nat → Int} {L : List Nat} (hr : ∀ i ∈ L, 1 ≤ F 6 i ∧ F 6 i ≤ 5) : ∀ n : Nat, 0 ≤ maxW F s day P L n ∧ maxW F s day P L n ≤ 5 * (L.length : Int)
  | 0 => by unfold maxW; omega
  | n + 1 => by
    have ih := maxW_rng (s := s) (day := day) (P := P) hr n
    rw [maxW_s]
    split
    · next h =>
      unfold wvI at h ⊢
      cases e : wv F s day P L n with
      | none => rw [e] at h; have h2 : maxW F s day P L n < -1 := h; omega
      | some v => have := wv_rng L P n hr v e; exact this
    · exact ih
theorem wvI_rng {F : Nat → Nat → Int} {s : Nat} {day : Int} {P : Nat → Int} {L : List Nat} (hr : ∀ i ∈ L, 1 ≤ F 6 i ∧ F 6 i ≤ 5) (n : Nat) : -1 ≤ wvI F s day P L n ∧ wvI F s day P L n ≤ 5 * (L.length : Int) := by
  unfold wvI
  cases e : wv F s day P L n with
  | none => show -1 ≤ (-1 : Int) ∧ (-1 : Int) ≤ _; omega
  | some v => have := wv_rng L P n hr v e; show -1 ≤ v ∧ v ≤ _; omega
theorem pow5 : ∀ n : Nat, n ≤ 4 → 1 ≤ 5 ^ n ∧ 5 ^ n ≤ 625 := by
  intro n h
  have : n = 0 ∨ n = 1 ∨ n = 2 ∨ n = 3 ∨ n = 4 := by omega
  rcases this with rfl | rfl | rfl | rfl | rfl <;> decide
end M13
