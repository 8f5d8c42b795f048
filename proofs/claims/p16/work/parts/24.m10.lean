/-! the reference: printed -/
section M10
def recP (F : Nat → Nat → Int) (e s m : Nat) : Nat → (Nat → Int)
  | 0 => dotP F s m
  | n + 1 => if F 26 (14 * (4 * e + s) + n) = -1 then recP F e s m n else wrt F (recP F e s m n) (qRow F s n) (qCol F s n) (F 25 (14 * e + n)) (F 26 (14 * (4 * e + s) + n))
theorem recP_s (F : Nat → Nat → Int) (e s m n : Nat) : recP F e s m (n + 1) = if F 26 (14 * (4 * e + s) + n) = -1 then recP F e s m n else wrt F (recP F e s m n) (qRow F s n) (qCol F s n) (F 25 (14 * e + n)) (F 26 (14 * (4 * e + s) + n)) := rfl
/-- a name that stands in an edition: on the sheet, a told name, within the sheet -/
def edOk (F : Nat → Nat → Int) (s i : Nat) (q w : Int) : Prop := (0 ≤ w ∧ w ≤ 3) ∧ qOn F s i = true ∧ (0 ≤ q ∧ q < 84) ∧ (1 ≤ F 9 q.toNat ∧ F 9 q.toNat ≤ 8) ∧ (∀ t : Nat, (t : Int) < F 9 q.toNat → 97 ≤ F 10 (8 * q.toNat + t) ∧ F 10 (8 * q.toNat + t) ≤ 122) ∧ fitB (rowAtN (qRow F s i) w) (colAtN (qCol F s i) w (F 9 q.toNat)) (F 9 q.toNat) = true
/-- what always holds of the editions -/
def mE (z : Nat → Int) (F : Nat → Nat → Int) : Prop := ∀ e : Nat, (e : Int) < z 22 → 0 ≤ F 23 e ∧ F 23 e ≤ z 3 ∧ 0 ≤ F 24 e ∧ F 24 e ≤ z 11 ∧ ∀ s i : Nat, (s : Int) < F 24 e → (i : Int) < F 23 e → F 26 (14 * (4 * e + s) + i) = -1 ∨ edOk F s i (F 25 (14 * e + i)) (F 26 (14 * (4 * e + s) + i))
theorem wrt_ed {F : Nat → Nat → Int} {s i : Nat} {q w : Int} (h : edOk F s i q w) {P : Nat → Int} (hP : Pok P) (r c w' : Int) : Pok (wrt F P r c q w') := by
  unfold wrt
  exact putN_ok hP (fun t ht => by have := h.2.2.2.2.1 t (by omega); omega)
theorem recP_ok {z : Nat → Int} {F : Nat → Nat → Int} (hE : mE z F) {e s m : Nat} (he : (e : Int) < z 22) (hs : (s : Int) < F 24 e) : ∀ n : Nat, (n : Int) ≤ F 23 e → Pok (recP F e s m n)
  | 0, _ => dotP_ok m
  | n + 1, hn => by
    rw [recP_s]
    split
    · exact recP_ok hE he hs n (by omega)
    · next h => exact wrt_ed (((hE e he).2.2.2.2 s n hs (by omega)).resolve_left h) (recP_ok hE he hs n (by omega)) _ _ _
def printedV (F : Nat → Nat → Int) (e s : Nat) (r c : Int) : Int := if F 24 e ≤ (s : Int) then 32 else recP F e s (F 23 e).toNat (F 23 e).toNat (40 * r + c).toNat
end M10
