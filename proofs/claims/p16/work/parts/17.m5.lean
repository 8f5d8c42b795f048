/-! the reference: mayStand, puts, takes -/
section M5
theorem rowAtN_rng {r w : Int} : r - 1 ≤ rowAtN r w ∧ rowAtN r w ≤ r + 1 := by unfold rowAtN; split <;> (try split) <;> omega
theorem colAtN_rng {c w n : Int} (h : 0 ≤ n) : c - n ≤ colAtN c w n ∧ colAtN c w n ≤ c + 1 := by unfold colAtN; split <;> (try split) <;> omega
theorem freeN_s (P : Nat → Int) (b n : Nat) : freeN P b (n + 1) = (freeN P b n && decide (P (b + n) = 46)) := rfl
theorem mayB_f {P : Nat → Int} {r c n : Int} {t : Nat} (h : (t : Int) ≤ n) (e : (fitB r c n && freeN P (40 * r + c).toNat t) = false) : mayB P r c n = false := by
  unfold mayB
  cases hf : fitB r c n with
  | false => rfl
  | true =>
    rw [hf, Bool.true_and] at e
    rw [freeN_mono (by omega) e]; rfl
end M5
