/-! the reference: name -/
section M8
theorem fEq.gup {F G : Nat → Nat → Int} (h : fEq F G) (k : Nat) {a b : Nat → Int} (e : b = a) : fEq (gup F k a) (gup G k b) := by
  subst e
  intro j h1 h2 h3 h4 h5 h6
  by_cases q : j = k
  · subst q; rw [gup_eq, gup_eq]
  · rw [gup_ne q, gup_ne q]; exact h j h1 h2 h3 h4 h5 h6
end M8
