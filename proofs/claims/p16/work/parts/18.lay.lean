/-! how a sheet is placed: what the walk of lays needs of the pure functions -/
section LY
def Pok (P : Nat → Int) : Prop := ∀ j, 0 ≤ P j ∧ P j ≤ 122
theorem gup_ok {P : Nat → Int} (h : Pok P) {k : Nat} {v : Int} (hv : 0 ≤ v ∧ v ≤ 122) : Pok (gup P k v) := by
  intro j; unfold gup; split
  · exact hv
  · exact h j
theorem dotP_ok {F : Nat → Nat → Int} {s : Nat} : ∀ n : Nat, Pok (dotP F s n)
  | 0 => fun j => by show 0 ≤ (46 : Int) ∧ (46 : Int) ≤ 122; decide
  | n + 1 => by
    unfold dotP
    split
    · exact gup_ok (dotP_ok n) (by decide)
    · exact dotP_ok n
theorem putN_ok {P : Nat → Int} {b : Nat} {L : Nat → Int} (h : Pok P) : ∀ {n : Nat}, (∀ t, t < n → 0 ≤ L t ∧ L t ≤ 122) → Pok (putN P b L n)
  | 0, _ => h
  | n + 1, hL => by
    unfold putN
    exact gup_ok (putN_ok h (fun t ht => hL t (by omega))) (hL n (by omega))
theorem nm_ok {z : Nat → Int} {F : Nat → Nat → Int} (hI : mI z F) {on : Int} {i : Nat} (hi : i < 14) (hn : nmOf F on i ≠ -1) :
    (nmOf F on i).toNat < 84 ∧ ((nmOf F on i).toNat : Int) = nmOf F on i ∧ 1 ≤ F 9 (nmOf F on i).toNat ∧ F 9 (nmOf F on i).toNat ≤ 8 ∧ ∀ t : Nat, (t : Int) < F 9 (nmOf F on i).toNat → 97 ≤ F 10 (8 * (nmOf F on i).toNat + t) ∧ F 10 (8 * (nmOf F on i).toNat + t) ≤ 122 := by
  obtain ⟨j, h1, h2, h3, h4⟩ := (nmOf_rng hI (on := on) hi).resolve_left hn
  obtain ⟨i0, i1, i3, i11, i22, iw, ip, inn, inm, ish⟩ := id hI
  have h5 := inm i j hi h2
  rw [← h4] at h5
  exact ⟨by omega, by omega, h5.2.2.1, h5.2.2.2.1, h5.2.2.2.2⟩
theorem wrt_ok {z : Nat → Int} {F : Nat → Nat → Int} (hI : mI z F) {on : Int} {i : Nat} (hi : i < 14) (hn : nmOf F on i ≠ -1) {P : Nat → Int} (h : Pok P) (r c w : Int) : Pok (wrt F P r c (nmOf F on i) w) := by
  have h1 := nm_ok hI hi hn
  unfold wrt
  exact putN_ok h (fun t ht => by have := h1.2.2.2.2 t (by omega); omega)
theorem lay1_ne {F : Nat → Nat → Int} {s : Nat} {day : Int} {i j : Nat} {st : (Nat → Int) × (Nat → Int)} (h : j ≠ i) : (lay1 F s day i st).1 j = st.1 j := by
  unfold lay1
  split
  · rfl
  · exact gup_ne h
theorem lay1_ok {z : Nat → Int} {F : Nat → Nat → Int} (hI : mI z F) {s : Nat} {on : Int} {i : Nat} (hi : i < 14) (hn : nmOf F on i ≠ -1) {st : (Nat → Int) × (Nat → Int)} (h : Pok st.2) : Pok (lay1 F s on i st).2 := by
  unfold lay1
  split
  · exact h
  · exact wrt_ok hI hi hn h _ _ _
theorem layC_iff {F : Nat → Nat → Int} {s : Nat} {day h : Int} {i : Nat} : layC F s day h i = true ↔ F 6 i = h ∧ qOn F s i = true ∧ nmOf F day i ≠ -1 := by
  unfold layC
  rw [Bool.and_eq_true, Bool.and_eq_true, decide_eq_true_iff, decide_eq_true_iff]
theorem layIn_s (F : Nat → Nat → Int) (s : Nat) (day h : Int) (st : (Nat → Int) × (Nat → Int)) (n : Nat) : layIn F s day h st (n + 1) = if layC F s day h n = true then lay1 F s day n (layIn F s day h st n) else layIn F s day h st n := rfl
theorem layIn_ok {z : Nat → Int} {F : Nat → Nat → Int} (hI : mI z F) {s : Nat} {on h : Int} {st : (Nat → Int) × (Nat → Int)} (h0 : Pok st.2) : ∀ n : Nat, n ≤ 14 → Pok (layIn F s on h st n).2
  | 0, _ => h0
  | n + 1, hn => by
    rw [layIn_s]
    split
    · next hc => exact lay1_ok hI (by omega) (layC_iff.mp hc).2.2 (layIn_ok hI h0 n (by omega))
    · exact layIn_ok hI h0 n (by omega)
theorem layIn_side {F : Nat → Nat → Int} {s : Nat} {on h : Int} {st : (Nat → Int) × (Nat → Int)} {j : Nat} : ∀ n : Nat, (n ≤ j ∨ F 6 j ≠ h) → (layIn F s on h st n).1 j = st.1 j
  | 0, _ => rfl
  | n + 1, hj => by
    rw [layIn_s]
    have ih := layIn_side (F := F) (s := s) (on := on) (h := h) (st := st) (j := j) n (by rcases hj with q | q; exact Or.inl (by omega); exact Or.inr q)
    split
    · next hc =>
      rw [lay1_ne, ih]
      intro e
      subst e
      rcases hj with q | q
      · omega
      · exact q (layC_iff.mp hc).1
    · exact ih
theorem layUp_s (F : Nat → Nat → Int) (s np : Nat) (day : Int) (st : (Nat → Int) × (Nat → Int)) (m : Nat) : layUp F s np day st (m + 1) = layIn F s day (5 - (m : Int)) (layUp F s np day st m) np := rfl
theorem layUp_ok {z : Nat → Int} {F : Nat → Nat → Int} (hI : mI z F) {s np : Nat} {on : Int} {st : (Nat → Int) × (Nat → Int)} (h0 : Pok st.2) (hnp : np ≤ 14) : ∀ m : Nat, Pok (layUp F s np on st m).2
  | 0 => h0
  | m + 1 => by rw [layUp_s]; exact layIn_ok hI (layUp_ok hI h0 hnp m) np hnp
theorem layUp_side {F : Nat → Nat → Int} {s np : Nat} {on : Int} {st : (Nat → Int) × (Nat → Int)} {j : Nat} : ∀ m : Nat, F 6 j ≤ 5 - (m : Int) → (layUp F s np on st m).1 j = st.1 j
  | 0, _ => rfl
  | m + 1, h => by
    rw [layUp_s, layIn_side np (Or.inr (by omega)), layUp_side m (by omega)]
theorem cN_on {F : Nat → Nat → Int} {s i : Nat} : decide (cN F s i ≠ -1) = qOn F s i := by
  unfold cN
  cases h : qOn F s i with
  | false => rw [if_neg (by decide)]; rfl
  | true =>
    rw [if_pos rfl]
    have := qCol_rng h
    exact decide_eq_true (by omega)
theorem cN_rng {F : Nat → Nat → Int} {s i : Nat} : -1 ≤ cN F s i ∧ cN F s i ≤ 39 := by
  unfold cN
  split
  · next h => have := qCol_rng h; omega
  · decide
theorem rN_rng {F : Nat → Nat → Int} {s i : Nat} : -1 ≤ rN F s i ∧ rN F s i ≤ 23 := by
  unfold rN
  split
  · next h => have := qRow_rng h; omega
  · decide
theorem mayB_fit {P : Nat → Int} {r c n : Int} (h : mayB P r c n = true) : fitB r c n = true := by
  unfold mayB at h
  rw [Bool.and_eq_true] at h
  exact h.1
end LY
