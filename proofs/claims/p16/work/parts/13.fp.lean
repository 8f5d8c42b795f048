/-! the floats of the cone: no NaN for the lengths and breadths of a sheet, the column is on the sheet -/
section FPC
theorem fp_u : ∀ b : Fin 20, (FP.fmul 1017370378 (FP.i2f (iI (b.val : Int)))) &&& 0x7fffffff ≤ 0x7f800000 ∧ (fU (b.val : Int)) &&& 0x7fffffff ≤ 0x7f800000 := by decide +kernel
theorem fp_v : ∀ a : Fin 30, (FP.fmul (FP.i2f (iI ((a.val : Int) - 15))) 1082130432) &&& 0x7fffffff ≤ 0x7f800000 ∧ (FP.fdiv (FP.fmul (FP.i2f (iI ((a.val : Int) - 15))) 1082130432) 1077936128) &&& 0x7fffffff ≤ 0x7f800000 := by decide +kernel
theorem fp_c : ∀ a : Fin 30, ∀ b : Fin 20, (fV (a.val : Int) (b.val : Int)) &&& 0x7fffffff ≤ 0x7f800000 ∧ (fC (a.val : Int) (b.val : Int)) &&& 0x7fffffff ≤ 0x7f800000 ∧ 0 ≤ cone (a.val : Int) (b.val : Int) ∧ cone (a.val : Int) (b.val : Int) ≤ 39 := by decide +kernel
/-- the class reckons far less 15 as floats -/
theorem fp_a : ∀ a : Fin 30, FP.fsub (FP.i2f (iI (a.val : Int))) 1097859072 = FP.i2f (iI ((a.val : Int) - 15)) := by decide +kernel
theorem fpU {b : Int} (h : 0 ≤ b ∧ b ≤ 19) : vf_n32 (FP.fmul 1017370378 (FP.i2f (iI b))) ∧ vf_n32 (fU b) := by
  have := fp_u ⟨b.toNat, by omega⟩
  rw [show (((⟨b.toNat, by omega⟩ : Fin 20).val : Nat) : Int) = b from by show ((b.toNat : Nat) : Int) = b; omega] at this
  exact this
theorem fpV {a : Int} (h : 0 ≤ a ∧ a ≤ 29) : vf_n32 (FP.fmul (FP.i2f (iI (a - 15))) 1082130432) ∧ vf_n32 (FP.fdiv (FP.fmul (FP.i2f (iI (a - 15))) 1082130432) 1077936128) := by
  have := fp_v ⟨a.toNat, by omega⟩
  rw [show (((⟨a.toNat, by omega⟩ : Fin 30).val : Nat) : Int) = a from by show ((a.toNat : Nat) : Int) = a; omega] at this
  exact this
theorem fpA {a : Int} (h : 0 ≤ a ∧ a ≤ 29) : FP.fsub (FP.i2f (iI a)) 1097859072 = FP.i2f (iI (a - 15)) := by
  have := fp_a ⟨a.toNat, by omega⟩
  rw [show (((⟨a.toNat, by omega⟩ : Fin 30).val : Nat) : Int) = a from by show ((a.toNat : Nat) : Int) = a; omega] at this
  exact this
theorem fpC {a b : Int} (h : 0 ≤ a ∧ a ≤ 29) (h2 : 0 ≤ b ∧ b ≤ 19) : vf_n32 (fV a b) ∧ vf_n32 (fC a b) ∧ 0 ≤ cone a b ∧ cone a b ≤ 39 := by
  have := fp_c ⟨a.toNat, by omega⟩ ⟨b.toNat, by omega⟩
  rw [show (((⟨a.toNat, by omega⟩ : Fin 30).val : Nat) : Int) = a from by show ((a.toNat : Nat) : Int) = a; omega] at this
  rw [show (((⟨b.toNat, by omega⟩ : Fin 20).val : Nat) : Int) = b from by show ((b.toNat : Nat) : Int) = b; omega] at this
  exact this
theorem inB_iff {v lo hi : Int} : inB v lo hi = true ↔ lo ≤ v ∧ v ≤ hi := by unfold inB; exact decide_eq_true_iff
theorem qOn_iff {F : Nat → Nat → Int} {s i : Nat} : qOn F s i = true ↔ (0 ≤ F 4 i - F 12 s ∧ F 4 i - F 12 s ≤ 29) ∧ (0 ≤ F 5 i - F 13 s ∧ F 5 i - F 13 s ≤ 19) := by unfold qOn; rw [Bool.and_eq_true, inB_iff, inB_iff]
theorem qCol_rng {F : Nat → Nat → Int} {s i : Nat} (h : qOn F s i = true) : 0 ≤ qCol F s i ∧ qCol F s i ≤ 39 := by
  obtain ⟨h1, h2⟩ := qOn_iff.mp h
  unfold qCol
  split
  · omega
  · exact ⟨(fpC h1 h2).2.2.1, (fpC h1 h2).2.2.2⟩
theorem qRow_rng {F : Nat → Nat → Int} {s i : Nat} (h : qOn F s i = true) : 0 ≤ qRow F s i ∧ qRow F s i ≤ 23 := by
  obtain ⟨h1, h2⟩ := qOn_iff.mp h
  unfold qRow
  omega
end FPC
