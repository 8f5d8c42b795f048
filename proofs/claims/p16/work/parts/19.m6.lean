/-! the reference: lays -/
section M6
theorem nmR_F4 {F : Nat → Nat → Int} {A B C P : Nat → Int} {on : Int} {i : Nat} : ∀ n : Nat, nmR (F4 F A B C P) on i n = nmR F on i n
  | 0 => rfl
  | n + 1 => by
    rw [nmR_s, nmR_s, nmR_F4 n]
    rfl
theorem nmOf_F4 {F : Nat → Nat → Int} {A B C P : Nat → Int} {on : Int} {i : Nat} : nmOf (F4 F A B C P) on i = nmOf F on i := nmR_F4 _
theorem gVM.drop {x : gX} {D : gD} {base nL pc mo : Nat} {ad : Nat → Nat} {gh0 : gH} {lv lv' : List (Option Value)} {st : List Value} {z : Nat → Int} {F : Nat → Nat → Int} (hn : True) (h : ∀ (k : Nat) (v : Value), lv'[k]? = some (some v) → lv[k]? = some (some v)) (k : gVM x D base nL mo ad gh0 pc lv' st z F) : gVM x D base nL mo ad gh0 pc lv st z F := fun gh h1 h2 => by
  obtain ⟨p, l', e, R, s, m, args, below, meth, c, Q⟩ := x
  intro H locs ls hG hS hl
  exact k gh h1 h2 H locs ls hG hS ⟨hl.1, hl.2.1, fun i v hv => hl.2.2 i v (h i v hv)⟩
end M6
