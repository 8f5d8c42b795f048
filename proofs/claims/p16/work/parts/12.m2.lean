/-! the reference: names, places, sheets as its rows hold them -/
section M2
theorem g_cut {A B : Prop} (h1 : A) (h2 : A → B) : B := h2 h1
theorem lcons {α : Type} {a b : α} {l m : List α} (h1 : a = b) (h2 : l = m) : a :: l = b :: m := by rw [h1, h2]
theorem svi {a b : Int} (h : a = b) : some (vi a) = some (vi b) := by rw [h]
/-- what always holds of the reference's rows -/
def mI (z : Nat → Int) (F : Nat → Nat → Int) : Prop :=
  (0 ≤ z 0 ∧ z 0 ≤ 10000) ∧ (0 ≤ z 1 ∧ z 1 ≤ 8) ∧ (0 ≤ z 3 ∧ z 3 ≤ 14) ∧ (0 ≤ z 11 ∧ z 11 ≤ 4) ∧ (0 ≤ z 22 ∧ z 22 ≤ 5) ∧
  (∀ t : Nat, (t : Int) < z 1 → 97 ≤ F 2 t ∧ F 2 t ≤ 122) ∧
  (∀ i : Nat, (i : Int) < z 3 → -180 ≤ F 4 i ∧ F 4 i ≤ 179 ∧ -60 ≤ F 5 i ∧ F 5 i ≤ 60 ∧ 1 ≤ F 6 i ∧ F 6 i ≤ 5) ∧
  (∀ i : Nat, i < 14 → 0 ≤ F 7 i ∧ F 7 i ≤ 6 ∧ (z 3 ≤ (i : Int) → F 7 i = 0)) ∧
  (∀ i j : Nat, i < 14 → (j : Int) < F 7 i → 0 ≤ F 8 (6 * i + j) ∧ F 8 (6 * i + j) ≤ z 0 ∧ 1 ≤ F 9 (6 * i + j) ∧ F 9 (6 * i + j) ≤ 8 ∧ ∀ t : Nat, (t : Int) < F 9 (6 * i + j) → 97 ≤ F 10 (8 * (6 * i + j) + t) ∧ F 10 (8 * (6 * i + j) + t) ≤ 122) ∧
  (∀ k : Nat, (k : Int) < z 11 → -180 ≤ F 12 k ∧ F 12 k ≤ 150 ∧ -60 ≤ F 13 k ∧ F 13 k ≤ 41 ∧ (F 14 k = 0 ∨ F 14 k = 1))
def nmR (F : Nat → Nat → Int) (on : Int) (i : Nat) : Nat → Int
  | 0 => -1
  | n + 1 => if F 8 (6 * i + n) ≤ on then 6 * (i : Int) + n else nmR F on i n
theorem nmR_s (F : Nat → Nat → Int) (on : Int) (i n : Nat) : nmR F on i (n + 1) = if F 8 (6 * i + n) ≤ on then 6 * (i : Int) + n else nmR F on i n := rfl
/-- the name of the place i on a day: its place in the rows; -1 if there is none -/
def nmOf (F : Nat → Nat → Int) (on : Int) (i : Nat) : Int := nmR F on i (F 7 i).toNat
theorem nmR_rng {F : Nat → Nat → Int} {on : Int} {i : Nat} : ∀ n : Nat, nmR F on i n = -1 ∨ ∃ j : Nat, j < n ∧ nmR F on i n = 6 * (i : Int) + j
  | 0 => Or.inl rfl
  | n + 1 => by
    unfold nmR
    split
    · exact Or.inr ⟨n, by omega, rfl⟩
    · rcases nmR_rng (F := F) (on := on) (i := i) n with h | ⟨j, h1, h2⟩
      · exact Or.inl h
      · exact Or.inr ⟨j, by omega, h2⟩
def qOn (F : Nat → Nat → Int) (s i : Nat) : Bool := inB (F 4 i - F 12 s) 0 29 && inB (F 5 i - F 13 s) 0 19
def qRow (F : Nat → Nat → Int) (s i : Nat) : Int := 24 * (F 5 i - F 13 s) / 20
def fU (b : Int) : UInt32 := FP.fsub FP.fconst1 (FP.fmul 1017370378 (FP.i2f (iI b)))
def fV (a b : Int) : UInt32 := FP.fmul (FP.fdiv (FP.fmul (FP.i2f (iI (a - 15))) 1082130432) 1077936128) (fU b)
def fC (a b : Int) : UInt32 := FP.fadd 1101004800 (fV a b)
def cone (a b : Int) : Int := (FP.f2i (fC a b)).toInt
def qCol (F : Nat → Nat → Int) (s i : Nat) : Int := if F 14 s = 0 then 40 * (F 4 i - F 12 s) / 30 else cone (F 4 i - F 12 s) (F 5 i - F 13 s)

end M2
