/-! the reference: worthOf, best -/
section M12
def fitOk (G : Nat → Nat → Int) (s : Nat) (day : Int) (C : Nat → Int) (L : List Nat) : Prop := ∀ i ∈ L, C i ≠ -1 → (0 ≤ C i ∧ C i ≤ 3) ∧ fitB (rowAtN (qRow G s i) (C i)) (colAtN (qCol G s i) (C i) (nmn G day i)) (nmn G day i) = true
theorem fitOk_app {G : Nat → Nat → Int} {s : Nat} {day : Int} {C : Nat → Int} {L : List Nat} {i : Nat} {v : Int} (h : fitOk G s day C L) (hi : i ∉ L) (hv : v ≠ -1 → (0 ≤ v ∧ v ≤ 3) ∧ fitB (rowAtN (qRow G s i) v) (colAtN (qCol G s i) v (nmn G day i)) (nmn G day i) = true) : fitOk G s day (gup C i v) (L ++ [i]) := by
  intro k hk hc
  rcases List.mem_append.mp hk with h1 | h1
  · have e : gup C i v k = C k := gup_ne (fun e => hi (by rw [← e]; exact h1))
    rw [e] at hc ⊢
    exact h k h1 hc
  · rw [List.mem_singleton] at h1
    subst h1
    rw [gup_eq] at hc ⊢
    exact hv hc
theorem lE.sy {F G : Nat → Nat → Int} (h : lE F G) : lE G F := fun k hk => (h k hk).symm
end M12
