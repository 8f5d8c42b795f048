/-! the reference: side, drawn, worth -/
section M7
/-- what the reference keeps between calls is as in z, F: its scratch rows (15 to 19, 21), thrown and toTry may be others -/
def mSc (z : Nat → Int) (F : Nat → Nat → Int) (z' : Nat → Int) (F' : Nat → Nat → Int) : Prop := (∀ k, k ≠ 27 → k ≠ 20 → z' k = z k) ∧ ∀ k, k ≠ 15 → k ≠ 16 → k ≠ 17 → k ≠ 18 → k ≠ 19 → k ≠ 21 → F' k = F k
theorem mSc.rf {z : Nat → Int} {F : Nat → Nat → Int} {g : Int} : mSc z F (gup z 27 g) F := ⟨fun k h _ => gup_ne h, fun _ _ _ _ _ _ _ => rfl⟩
theorem mSc.f4 {z : Nat → Int} {F : Nat → Nat → Int} {g : Int} {A B C P : Nat → Int} : mSc z F (gup z 27 g) (F4 F A B C P) := ⟨fun k h _ => gup_ne h, fun k h1 h2 h3 h4 _ _ => by unfold F4; rw [gup_ne h4, gup_ne h3, gup_ne h2, gup_ne h1]⟩
/-- the placing, the sides of what isn't placed -1 -/
def lay0 (F : Nat → Nat → Int) (s np : Nat) (day : Int) : (Nat → Int) × (Nat → Int) := layA F s np day (fun _ => -1)
def layE (n : Nat) (a b : (Nat → Int) × (Nat → Int)) : Prop := a.2 = b.2 ∧ ∀ j, j < n → a.1 j = b.1 j
theorem lay1_E {F : Nat → Nat → Int} {s n : Nat} {day : Int} {i : Nat} {a b : (Nat → Int) × (Nat → Int)} (h : layE n a b) : layE n (lay1 F s day i a) (lay1 F s day i b) := by
  obtain ⟨h1, h2⟩ := h
  unfold lay1
  rw [h1]
  split
  · exact ⟨h1, h2⟩
  · refine ⟨rfl, fun j hj => ?_⟩
    show gup a.1 i _ j = gup b.1 i _ j
    unfold gup
    split
    · rfl
    · exact h2 j hj
theorem layIn_E {F : Nat → Nat → Int} {s n : Nat} {day h : Int} {a b : (Nat → Int) × (Nat → Int)} (e : layE n a b) : ∀ m : Nat, layE n (layIn F s day h a m) (layIn F s day h b m)
  | 0 => e
  | m + 1 => by
    rw [layIn_s, layIn_s]
    split
    · exact lay1_E (layIn_E e m)
    · exact layIn_E e m
theorem layUp_E {F : Nat → Nat → Int} {s np n : Nat} {day : Int} {a b : (Nat → Int) × (Nat → Int)} (e : layE n a b) : ∀ m : Nat, layE n (layUp F s np day a m) (layUp F s np day b m)
  | 0 => e
  | m + 1 => by rw [layUp_s, layUp_s]; exact layIn_E (layUp_E e m) np
theorem layA_E (F : Nat → Nat → Int) (s np : Nat) (day : Int) (C : Nat → Int) : layE np (layA F s np day C) (lay0 F s np day) := by
  unfold lay0 layA
  refine layUp_E (a := (upto (fun _ => -1) C np, dotP F s np)) (b := (upto (fun _ => -1) (fun _ => -1) np, dotP F s np)) ⟨rfl, fun j hj => ?_⟩ 5
  exact (@upto_lt Int (fun _ => -1) C np j hj).trans (@upto_lt Int (fun _ => -1) (fun _ => -1) np j hj).symm
theorem lay0_ok {z : Nat → Int} {F : Nat → Nat → Int} (hI : mI z F) {s np : Nat} (h : np ≤ 14) {on : Int} : Pok (lay0 F s np on).2 := layUp_ok hI (dotP_ok np) h 5
theorem sideF_rng {P : Nat → Int} {r c n : Int} : -1 ≤ sideF P r c n ∧ sideF P r c n ≤ 3 := by
  unfold sideF; split <;> (try split) <;> (try split) <;> (try split) <;> decide
def Sok (n : Nat) (C : Nat → Int) : Prop := ∀ j, j < n → -1 ≤ C j ∧ C j ≤ 3
theorem lay1_S {F : Nat → Nat → Int} {s n : Nat} {day : Int} {i : Nat} {a : (Nat → Int) × (Nat → Int)} (h : Sok n a.1) : Sok n (lay1 F s day i a).1 := by
  unfold lay1
  split
  · exact h
  · intro j hj
    show -1 ≤ gup a.1 i _ j ∧ gup a.1 i _ j ≤ 3
    unfold gup
    split
    · exact sideF_rng
    · exact h j hj
theorem layIn_S {F : Nat → Nat → Int} {s n : Nat} {day h : Int} {a : (Nat → Int) × (Nat → Int)} (e : Sok n a.1) : ∀ m : Nat, Sok n (layIn F s day h a m).1
  | 0 => e
  | m + 1 => by
    rw [layIn_s]
    split
    · exact lay1_S (layIn_S e m)
    · exact layIn_S e m
theorem layUp_S {F : Nat → Nat → Int} {s np n : Nat} {day : Int} {a : (Nat → Int) × (Nat → Int)} (e : Sok n a.1) : ∀ m : Nat, Sok n (layUp F s np day a m).1
  | 0 => e
  | m + 1 => by rw [layUp_s]; exact layIn_S (layUp_S e m) np
theorem layA_S (F : Nat → Nat → Int) (s np : Nat) (day : Int) (C : Nat → Int) : Sok np (layA F s np day C).1 := layUp_S (a := (upto (fun _ => -1) C np, dotP F s np)) (fun j hj => by have e : (upto (fun _ => -1) C np, dotP F s np).1 j = (-1 : Int) := @upto_lt Int (fun _ => -1) C np j hj; rw [e]; decide) 5
def sumW (C R : Nat → Int) : Nat → Int
  | 0 => 0
  | n + 1 => sumW C R n + (if C n = -1 then 0 else R n)
theorem sumW_s (C R : Nat → Int) (n : Nat) : sumW C R (n + 1) = sumW C R n + (if C n = -1 then 0 else R n) := rfl
theorem sumW_c {C C' R R' : Nat → Int} : ∀ n : Nat, (∀ j, j < n → C j = C' j ∧ R j = R' j) → sumW C R n = sumW C' R' n
  | 0, _ => rfl
  | n + 1, h => by rw [sumW_s, sumW_s, sumW_c n (fun j hj => h j (by omega)), (h n (by omega)).1, (h n (by omega)).2]
theorem sumW_rng {C R : Nat → Int} {M : Int} (hM : 0 ≤ M) : ∀ n : Nat, (∀ j, j < n → 0 ≤ R j ∧ R j ≤ M) → 0 ≤ sumW C R n ∧ sumW C R n ≤ M * n
  | 0, _ => by unfold sumW; simp
  | n + 1, h => by
    have ih := sumW_rng (C := C) hM n (fun j hj => h j (by omega))
    have h1 := h n (by omega)
    rw [sumW_s]
    have e : M * ((n + 1 : Nat) : Int) = M * n + M := by rw [Int.natCast_succ, Int.mul_add, Int.mul_one]
    split <;> omega

end M7
