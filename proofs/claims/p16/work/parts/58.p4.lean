/-! a sheet shows one place more; a new sheet by names -/
section P4
theorem t17 {a b c : Nat} (h : a ≠ 17) : ((a, b, c) : Tg).1 ≠ 17 := h
theorem SHP.show {ad : Tg → Nat} {F : Nat → Nat → Int} {k n : Nat} {sd ah : Nat → Int} {wo : Nat → Option Nat} {c : Nat} {lo : Nat → Nat} {N : Nat → Option Nat} {P T : Nat → Int} {ct : Tg → Option gC} (h : SHP ad F k n sd ah wo c lo N P T ct) (t : Nat) :
    SHP (aup ad (17, k, n) t) F k (n + 1) (gup sd n (-1)) (gup ah n (-1)) (gup wo n none) c lo N P T (cup (cup (cup ct (17, k, n) (gO 9 [vi (F 6 n), vi (cN F k n), vi (rN F k n), .ref (ad (3, n, 0)), .null, vi (-1), vi (-1)])) (11, k, 0) (gR 8 14 (gup (fun i => if i < n then some (ad (17, k, i)) else none) n (some t)))) (10, k, 0) (gO 7 [.ref (ad (13, k, 0)), .ref (ad (15, k, 0)), vi (F 12 k), vi (F 13 k), vi (F 14 k), .ref (ad (11, k, 0)), vi ((n : Int) + 1), .ref (ad (12, k, 0)), vi (c : Int)])) := by
  obtain ⟨h1, h2, h3, h4, h5, h6, h7, h8, h9⟩ := h
  have e : ∀ a b : Nat, a ≠ 17 → aup ad (17, k, n) t (a, k, b) = ad (a, k, b) := fun a b h => aup_ne (fun q => h (congrArg (fun t : Tg => t.1) q))
  have e17 : ∀ i, i ≠ n → aup ad (17, k, n) t (17, k, i) = ad (17, k, i) := fun i h => aup_ne (fun q => h (congrArg (fun t : Tg => t.2.2) q))
  have e3 : ∀ i, aup ad (17, k, n) t (3, i, 0) = ad (3, i, 0) := fun i => aup_ne (by simp)
  refine ⟨?_, ?_, ?_, ?_, ?_, ?_, ?_, fun i hi => ?_, fun q hq => ?_⟩
  · rw [cup_eq, e _ _ (by decide), e _ _ (by decide), e _ _ (by decide), e _ _ (by decide)]; rfl
  · rw [cup_ne (by simp), cup_eq]
    congr 2
    funext i
    unfold gup
    by_cases q : i = n
    · rw [if_pos q, if_pos (by omega), q, aup_eq]
    · rw [if_neg q, e17 i q]
      show (if i < n then some (ad (17, k, i)) else none) = _
      by_cases q2 : i < n
      · rw [if_pos q2, if_pos (by omega)]
      · rw [if_neg q2, if_neg (by omega)]
  · rw [cup_ne (by simp), cup_ne (by simp), cup_ne (by simp)]; exact h3
  · rw [cup_ne (by simp), cup_ne (by simp), cup_ne (by simp), e _ _ (by decide)]; exact h4
  · rw [cup_ne (by simp), cup_ne (by simp), cup_ne (by simp)]; exact h5
  · rw [cup_ne (by simp), cup_ne (by simp), cup_ne (by simp), e _ _ (by decide)]; exact h6
  · rw [cup_ne (by simp), cup_ne (by simp), cup_ne (by simp)]; exact h7
  · rw [cup_ne (by simp), cup_ne (by simp)]
    unfold spO
    by_cases q : i = n
    · rw [q, cup_eq, gup_eq, gup_eq, gup_eq, e3]; rfl
    · rw [cup_ne (by simp; exact q), gup_ne q, gup_ne q, gup_ne q, e3]
      exact h8 i (by omega)
  · have := h9 q hq
    rw [e17 _ (by omega)]
    exact ⟨this.1, by omega⟩
theorem kX3_showC {l : Launch} (hl : l.stackTraces = false) {D : gD} {base : Nat} {ad : Tg → Nat} {F : Nat → Nat → Int} {k n : Nat} {sd ah : Nat → Int} {wo : Nat → Option Nat} {c : Nat} {lo : Nat → Nat} {N : Nat → Option Nat} {P T : Nat → Int} {ct : Tg → Option gC} {v3 v4 : Value}
    (rp : -180 ≤ F 4 n ∧ F 4 n ≤ 179 ∧ -60 ≤ F 5 n ∧ F 5 n ≤ 60) (rs : -180 ≤ F 12 k ∧ F 12 k ≤ 150 ∧ -60 ≤ F 13 k ∧ F 13 k ≤ 41 ∧ (F 14 k = 0 ∨ F 14 k = 1)) (hn14 : n < 14) (hS : SHP ad F k n sd ah wo c lo N P T ct) (hp : ct (3, n, 0) = some (gO 6 [vi (F 4 n), vi (F 5 n), vi (F 6 n), v3, v4])) (gh : gH) (hR : cR ad ct gh) :
    gM l D base yX3_show cX3_show 2 none 2 43 1 7 [.ref (ad (10, k, 0)), .ref (ad (3, n, 0))] gh (fun r gh' => r = none ∧ ∃ (t : Nat) (ct' : Tg → Option gC), cR (aup ad (17, k, n) t) ct' gh' ∧ (∀ u, ¬ tS k u → ct' u = ct u) ∧ SHP (aup ad (17, k, n) t) F k (n + 1) (gup sd n (-1)) (gup ah n (-1)) (gup wo n none) c lo N P T ct') gNo := by
  obtain ⟨h1, h2, h3, h4, h5, h6, h7, h8, h9⟩ := id hS
  refine (kX3_show hl rp rs hn14 gh (hR.1 _ _ h1) (hR.1 _ _ h2) (hR.1 _ _ hp)).mono (fun r gh' hq => ?_) (fun _ _ q => q)
  obtain ⟨e0, t, ht, hgh⟩ := hq
  refine ⟨e0, t, _, ?_, fun u hu => ?_, hS.show t⟩
  · have a1 := hR.new ht (t := (17, k, n)) (gO 9 [vi (F 6 n), vi (cN F k n), vi (rN F k n), .ref (ad (3, n, 0)), .null, vi (-1), vi (-1)])
    have a2 := a1.put (t := (11, k, 0)) (by rw [cup_ne (by simp)]; exact h2) (gR 8 14 (gup (fun i => if i < n then some (ad (17, k, i)) else none) n (some t)))
    have a3 := a2.put (t := (10, k, 0)) (by rw [cup_ne (by simp), cup_ne (by simp)]; exact h1) (gO 7 [.ref (ad (13, k, 0)), .ref (ad (15, k, 0)), vi (F 12 k), vi (F 13 k), vi (F 14 k), .ref (ad (11, k, 0)), vi ((n : Int) + 1), .ref (ad (12, k, 0)), vi (c : Int)])
    rw [aup_ne (by simp), aup_ne (by simp)] at a3
    rw [hgh]
    exact a3
  · rw [cup_ne (fun e => hu (by rw [e]; exact ⟨Nat.le_of_ble_eq_true rfl, Nat.le_of_ble_eq_true rfl, rfl⟩)), cup_ne (fun e => hu (by rw [e]; exact ⟨Nat.le_of_ble_eq_true rfl, Nat.le_of_ble_eq_true rfl, rfl⟩)), cup_ne (fun e => hu (by rw [e]; exact ⟨Nat.le_of_ble_eq_true rfl, Nat.le_of_ble_eq_true rfl, rfl⟩))]
/-- the six cells of a new sheet by names -/
theorem cR.sheet {ad : Tg → Nat} {ct : Tg → Option gC} {gh gh' : gH} (hR : cR ad ct gh) {k : Nat} {F : Nat → Nat → Int} {c0 : gC} (h0 : ct (10, k, 0) = some c0) {s1 q1 s2 q2 oa na : Nat} (z1 : gh s1 = none) (z2 : gh q1 = none) (z3 : gh s2 = none) (z4 : gh q2 = none) (z5 : gh oa = none) (z6 : gh na = none)
    (hn : q1 ≠ s1 ∧ s1 ≠ s2 ∧ s1 ≠ q2 ∧ s1 ≠ oa ∧ s1 ≠ na ∧ q1 ≠ s2 ∧ q1 ≠ q2 ∧ q1 ≠ oa ∧ q1 ≠ na ∧ q2 ≠ s2 ∧ s2 ≠ oa ∧ s2 ≠ na ∧ q2 ≠ oa ∧ q2 ≠ na ∧ oa ≠ na)
    (e : gh' = gset (gset (gset (gset (gset (gset (gset gh s1 (gI 0 960 (fun _ => 0))) q1 (gO 5 [.ref s1])) s2 (gI 0 960 (fun _ => 0))) q2 (gO 5 [.ref s2])) oa (gR 8 14 (fun _ => none))) na (gR 8 14 (fun _ => none))) (ad (10, k, 0)) (gO 7 [.ref q1, .ref q2, vi (F 12 k), vi (F 13 k), vi (F 14 k), .ref oa, vi 0, .ref na, vi 0])) {sd ah : Nat → Int} {wo : Nat → Option Nat} {lo : Nat → Nat} :
    ∃ ad' ct', cR ad' ct' gh' ∧ (∀ t, ¬ tS k t → ct' t = ct t) ∧ (∀ t, ¬ tS k t ∨ t = (10, k, 0) → ad' t = ad t) ∧ SHP ad' F k 0 sd ah wo 0 lo (fun _ => none) (fun _ => 0) (fun _ => 0) ct' := by
  obtain ⟨n1, n2, n3, n4, n5, n6, n7, n8, n9, n10, n11, n12, n13, n14, n15⟩ := hn
  have a1 := hR.new (t := (14, k, 0)) z1 (gI 0 960 (fun _ => 0))
  have a2 := a1.new (t := (13, k, 0)) (q := q1) (by rw [gset_ne n1]; exact z2) (gO 5 [.ref s1])
  have a3 := a2.new (t := (16, k, 0)) (q := s2) (by rw [gset_ne n6.symm, gset_ne n2.symm]; exact z3) (gI 0 960 (fun _ => 0))
  have a4 := a3.new (t := (15, k, 0)) (q := q2) (by rw [gset_ne n10, gset_ne n7.symm, gset_ne n3.symm]; exact z4) (gO 5 [.ref s2])
  have a5 := a4.new (t := (11, k, 0)) (q := oa) (by rw [gset_ne n13.symm, gset_ne n11.symm, gset_ne n8.symm, gset_ne n4.symm]; exact z5) (gR 8 14 (fun _ => none))
  have a6 := a5.new (t := (12, k, 0)) (q := na) (by rw [gset_ne n15.symm, gset_ne n14.symm, gset_ne n12.symm, gset_ne n9.symm, gset_ne n5.symm]; exact z6) (gR 8 14 (fun _ => none))
  have a7 := a6.put (t := (10, k, 0)) (c0 := c0) (by rw [cup_ne (by simp), cup_ne (by simp), cup_ne (by simp), cup_ne (by simp), cup_ne (by simp), cup_ne (by simp)]; exact h0) (gO 7 [.ref q1, .ref q2, vi (F 12 k), vi (F 13 k), vi (F 14 k), .ref oa, vi 0, .ref na, vi 0])
  rw [aup_ne (by simp), aup_ne (by simp), aup_ne (by simp), aup_ne (by simp), aup_ne (by simp), aup_ne (by simp), ← e] at a7
  refine ⟨_, _, a7, fun t ht => ?_, fun t ht => ?_, ?_⟩
  · have f : ∀ a : Nat, 10 ≤ a → a ≤ 17 → t ≠ (a, k, 0) := fun a h1 h2 e => ht (by rw [e]; exact ⟨h1, h2, rfl⟩)
    rw [cup_ne (f _ (by decide) (by decide)), cup_ne (f _ (by decide) (by decide)), cup_ne (f _ (by decide) (by decide)), cup_ne (f _ (by decide) (by decide)), cup_ne (f _ (by decide) (by decide)), cup_ne (f _ (by decide) (by decide)), cup_ne (f _ (by decide) (by decide))]
  · have f : ∀ a : Nat, 11 ≤ a → a ≤ 17 → t ≠ (a, k, 0) := fun a h1 h2 e => by
      rcases ht with h | h
      · exact h (by rw [e]; exact ⟨by show 10 ≤ a; omega, h2, rfl⟩)
      · rw [e] at h
        have := congrArg (fun t : Tg => t.1) h
        simp only at this
        omega
    rw [aup_ne (f _ (by decide) (by decide)), aup_ne (f _ (by decide) (by decide)), aup_ne (f _ (by decide) (by decide)), aup_ne (f _ (by decide) (by decide)), aup_ne (f _ (by decide) (by decide)), aup_ne (f _ (by decide) (by decide))]
  · refine ⟨?_, ?_, ?_, ?_, ?_, ?_, ?_, fun i hi => absurd hi (Nat.not_lt_zero i), fun q hq => absurd hq (Nat.not_lt_zero q)⟩
    · rw [cup_eq]; simp [aup]
    · rw [cup_ne (by simp), cup_ne (by simp), cup_eq]
      congr 2
    · rw [cup_ne (by simp), cup_eq]
    · rw [cup_ne (by simp), cup_ne (by simp), cup_ne (by simp), cup_ne (by simp), cup_ne (by simp), cup_eq]; simp [aup]
    · rw [cup_ne (by simp), cup_ne (by simp), cup_ne (by simp), cup_ne (by simp), cup_ne (by simp), cup_ne (by simp), cup_eq]
    · rw [cup_ne (by simp), cup_ne (by simp), cup_ne (by simp), cup_eq]; simp [aup]
    · rw [cup_ne (by simp), cup_ne (by simp), cup_ne (by simp), cup_ne (by simp), cup_eq]
end P4
