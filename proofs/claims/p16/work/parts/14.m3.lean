/-! the reference: letter, pass, place, sheet, spelled, isOn, rowOf, columnOf, dot, hasName -/
section M3
theorem m_icmp_gtW {x : gX} {l : Launch} {D : gD} {base nL : Nat} {own : String} {cc : ByteArray} {rm : Room} {pc : Nat} {lv : List (Option Value)} {st : List Value} {mo : Nat} {ad : Nat → Nat} {gh0 : gH} {z : Nat → Int} {F : Nat → Nat → Int} (hC : gK x l D base nL own cc rm) {a b : Int} {off : Int} {tgt : Nat} (hd : decode cc pc = .ok (.if_icmp .gt off, 3)) (ht : (pc : Int) + off = (tgt : Int)) (kt : ¬ iI a ≤ iI b → gVM x D base nL mo ad gh0 tgt lv st z F) (kf : iI a ≤ iI b → gVM x D base nL mo ad gh0 (pc + 3) lv st z F) : gVM x D base nL mo ad gh0 pc lv (vi b :: vi a :: st) z F := fun gh h1 h2 => by
  obtain ⟨p, l', e, R, s, m, args, below, meth, c, Q⟩ := x
  obtain ⟨hx, hb, -⟩ := hC
  intro H locs ls hG hS hl
  exact lv_icmp_gt hx hb hd ht (fun h => kt (Int32.not_le.mpr h) gh h1 h2 H locs ls hG hS hl) (fun h => kf (Int32.not_lt.mp h) gh h1 h2 H locs ls hG hS hl)
def spV (F : Nat → Nat → Int) (on which : Int) (i : Nat) : Int := if nmOf F on i = -1 then 32 else if F 9 (nmOf F on i).toNat ≤ which then 32 else F 10 (8 * nmOf F on i + which).toNat
theorem nmOf_rng {z : Nat → Int} {F : Nat → Nat → Int} (hI : mI z F) {on : Int} {i : Nat} (hi : i < 14) : nmOf F on i = -1 ∨ ∃ j : Nat, j < 6 ∧ (j : Int) < F 7 i ∧ nmOf F on i = 6 * (i : Int) + j ∧ (nmOf F on i).toNat = 6 * i + j := by
  obtain ⟨i0, i1, i3, i11, i22, iw, ip, inn, inm, ish⟩ := id hI
  have h1 := inn i hi
  rcases nmR_rng (F := F) (on := on) (i := i) (F 7 i).toNat with h | ⟨j, h2, h3⟩
  · exact Or.inl h
  · exact Or.inr ⟨j, by omega, by omega, h3, by unfold nmOf; omega⟩
theorem nmOf_b {z : Nat → Int} {F : Nat → Nat → Int} (hI : mI z F) {on : Int} {i : Nat} (hi : i < 14) : -1 ≤ nmOf F on i ∧ nmOf F on i < 84 := by
  rcases nmOf_rng hI (on := on) hi with h | ⟨j, h1, h2, h3, h4⟩
  · omega
  · omega
def dotV (F : Nat → Nat → Int) (s i : Nat) (b : Bool) : Int := if qOn F s i = true then (if b = true then qRow F s i else qCol F s i) else -1
end M3
