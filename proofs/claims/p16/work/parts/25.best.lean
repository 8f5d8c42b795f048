/-! the best of all placings, as the reference tries them -/
section BT
/-- the places with a name that are on the sheet, among the first n -/
def nmL (F : Nat → Nat → Int) (s : Nat) (day : Int) : Nat → List Nat
  | 0 => []
  | n + 1 => if (qOn F s n && decide (nmOf F day n ≠ -1)) = true then nmL F s day n ++ [n] else nmL F s day n
theorem nmL_s (F : Nat → Nat → Int) (s : Nat) (day : Int) (n : Nat) : nmL F s day (n + 1) = if (qOn F s n && decide (nmOf F day n ≠ -1)) = true then nmL F s day n ++ [n] else nmL F s day n := rfl
theorem nmL_len {F : Nat → Nat → Int} {s : Nat} {day : Int} : ∀ n : Nat, (nmL F s day n).length ≤ n
  | 0 => Nat.le_refl _
  | n + 1 => by
    have := nmL_len (F := F) (s := s) (day := day) n
    rw [nmL_s]
    split
    · rw [List.length_append, List.length_singleton]; omega
    · omega
theorem nmL_mem {F : Nat → Nat → Int} {s : Nat} {day : Int} : ∀ {n i : Nat}, i ∈ nmL F s day n ↔ i < n ∧ qOn F s i = true ∧ nmOf F day i ≠ -1
  | 0, i => by simp [nmL]
  | n + 1, i => by
    rw [nmL_s]
    by_cases h : (qOn F s n && decide (nmOf F day n ≠ -1)) = true
    · rw [if_pos h, List.mem_append, List.mem_singleton, nmL_mem]
      rw [Bool.and_eq_true, decide_eq_true_iff] at h
      constructor
      · rintro (⟨h1, h2⟩ | rfl)
        · exact ⟨by omega, h2⟩
        · exact ⟨by omega, h⟩
      · rintro ⟨h1, h2⟩
        by_cases e : i = n
        · exact Or.inr e
        · exact Or.inl ⟨by omega, h2⟩
    · rw [if_neg h, nmL_mem]
      rw [Bool.and_eq_true, decide_eq_true_iff] at h
      constructor
      · rintro ⟨h1, h2⟩; exact ⟨by omega, h2⟩
      · rintro ⟨h1, h2⟩
        refine ⟨?_, h2⟩
        by_cases e : i = n
        · subst e; exact absurd h2 h
        · omega
/-- the letters of the name of the place i; where it stands at the side w -/
def nmn (F : Nat → Nat → Int) (day : Int) (i : Nat) : Int := F 9 (nmOf F day i).toNat
def mayI (F : Nat → Nat → Int) (s : Nat) (day : Int) (P : Nat → Int) (i : Nat) (w : Int) : Bool := mayB P (rowAtN (qRow F s i) w) (colAtN (qCol F s i) w (nmn F day i)) (nmn F day i)
def wrtI (F : Nat → Nat → Int) (s : Nat) (day : Int) (P : Nat → Int) (i : Nat) (w : Int) : Nat → Int := wrt F P (qRow F s i) (qCol F s i) (nmOf F day i) w
/-- the worth of a way to place them, told by fives -/
def wv (F : Nat → Nat → Int) (s : Nat) (day : Int) : (Nat → Int) → List Nat → Nat → Option Int
  | _, [], _ => some 0
  | P, i :: L, way => if way % 5 < 4 then (if mayI F s day P i (way % 5 : Nat) = true then (wv F s day (wrtI F s day P i (way % 5 : Nat)) L (way / 5)).map (fun q => F 6 i + q) else none) else wv F s day P L (way / 5)
theorem wv_c (F : Nat → Nat → Int) (s : Nat) (day : Int) (P : Nat → Int) (i : Nat) (L : List Nat) (way : Nat) : wv F s day P (i :: L) way = if way % 5 < 4 then (if mayI F s day P i (way % 5 : Nat) = true then (wv F s day (wrtI F s day P i (way % 5 : Nat)) L (way / 5)).map (fun q => F 6 i + q) else none) else wv F s day P L (way / 5) := rfl
theorem wv_rng {F : Nat → Nat → Int} {s : Nat} {day : Int} : ∀ (L : List Nat) (P : Nat → Int) (way : Nat), (∀ i ∈ L, 1 ≤ F 6 i ∧ F 6 i ≤ 5) → ∀ v, wv F s day P L way = some v → 0 ≤ v ∧ v ≤ 5 * (L.length : Int)
  | [], P, way, _, v, h => by cases h; simp
  | i :: L, P, way, hr, v, h => by
    have h1 := hr i List.mem_cons_self
    have hr2 : ∀ j ∈ L, 1 ≤ F 6 j ∧ F 6 j ≤ 5 := fun j hj => hr j (List.mem_cons_of_mem _ hj)
    rw [wv_c] at h
    rw [List.length_cons]
    split at h
    · split at h
      · cases e : wv F s day (wrtI F s day P i (way % 5 : Nat)) L (way / 5) with
        | none => rw [e] at h; cases h
        | some q =>
          rw [e] at h
          cases h
          have := wv_rng L _ _ hr2 q e
          show 0 ≤ F 6 i + q ∧ F 6 i + q ≤ 5 * ((L.length + 1 : Nat) : Int)
          omega
      · cases h
    · have := wv_rng L _ _ hr2 v h
      omega
def wvI (F : Nat → Nat → Int) (s : Nat) (day : Int) (P : Nat → Int) (L : List Nat) (way : Nat) : Int := (wv F s day P L way).getD (-1)
def maxW (F : Nat → Nat → Int) (s : Nat) (day : Int) (P : Nat → Int) (L : List Nat) : Nat → Int
  | 0 => 0
  | n + 1 => if maxW F s day P L n < wvI F s day P L n then wvI F s day P L n else maxW F s day P L n
theorem maxW_s (F : Nat → Nat → Int) (s : Nat) (day : Int) (P : Nat → Int) (L : List Nat) (n : Nat) : maxW F s day P L (n + 1) = if maxW F s day P L n < wvI F s day P L n then wvI F s day P L n else maxW F s day P L n := rfl
/-- the cells of the name of the place i at the side w -/
def segI (F : Nat → Nat → Int) (s : Nat) (day : Int) (i : Nat) (w : Int) (j : Nat) : Prop := (40 * rowAtN (qRow F s i) w + colAtN (qCol F s i) w (nmn F day i)).toNat ≤ j ∧ j < (40 * rowAtN (qRow F s i) w + colAtN (qCol F s i) w (nmn F day i)).toNat + (nmn F day i).toNat
def cov (F : Nat → Nat → Int) (s : Nat) (day : Int) (C : Nat → Int) (L : List Nat) (j : Nat) : Prop := ∃ i ∈ L, C i ≠ -1 ∧ segI F s day i (C i) j
/-- P is P0 with the names of L that stand by C written into free cells -/
def covI (F : Nat → Nat → Int) (s : Nat) (day : Int) (P0 P C : Nat → Int) (L : List Nat) : Prop := ∀ j, (cov F s day C L j → 97 ≤ P j ∧ P0 j = 46) ∧ (¬ cov F s day C L j → P j = P0 j)
theorem covI_0 {F : Nat → Nat → Int} {s : Nat} {day : Int} {P C : Nat → Int} : covI F s day P P C [] := fun j => ⟨fun ⟨i, h, _⟩ => (nomatch h), fun _ => rfl⟩
theorem cov_app {F : Nat → Nat → Int} {s : Nat} {day : Int} {C C' : Nat → Int} {L : List Nat} {i j : Nat} (hC : ∀ k ∈ L, C' k = C k) : cov F s day C' (L ++ [i]) j ↔ cov F s day C L j ∨ (C' i ≠ -1 ∧ segI F s day i (C' i) j) := by
  constructor
  · rintro ⟨k, hk, h1, h2⟩
    rcases List.mem_append.mp hk with h | h
    · rw [hC k h] at h1 h2; exact Or.inl ⟨k, h, h1, h2⟩
    · rw [List.mem_singleton] at h; subst h; exact Or.inr ⟨h1, h2⟩
  · rintro (⟨k, hk, h1, h2⟩ | ⟨h1, h2⟩)
    · exact ⟨k, List.mem_append_left _ hk, by rw [hC k hk]; exact h1, by rw [hC k hk]; exact h2⟩
    · exact ⟨i, List.mem_append_right _ (List.mem_singleton.mpr rfl), h1, h2⟩
/-- a place left out -/
theorem covI_no {F : Nat → Nat → Int} {s : Nat} {day : Int} {P0 P C : Nat → Int} {L : List Nat} {i : Nat} (h : covI F s day P0 P C L) (hi : i ∉ L) : covI F s day P0 P (gup C i (-1)) (L ++ [i]) := by
  have hC : ∀ k ∈ L, gup C i (-1) k = C k := fun k hk => gup_ne (fun e => hi (by rw [← e]; exact hk))
  intro j
  have e : cov F s day (gup C i (-1)) (L ++ [i]) j ↔ cov F s day C L j := by
    rw [cov_app hC]
    constructor
    · rintro (h | ⟨h, -⟩)
      · exact h
      · exact absurd gup_eq h
    · exact Or.inl
  rw [e]
  exact h j
theorem mayB_free {P : Nat → Int} {r c n : Int} (h : mayB P r c n = true) {j : Nat} (h1 : (40 * r + c).toNat ≤ j) (h2 : j < (40 * r + c).toNat + n.toNat) : P j = 46 := by
  unfold mayB at h
  rw [Bool.and_eq_true] at h
  have := freeN_iff.mp h.2 (j - (40 * r + c).toNat) (by omega)
  rw [show (40 * r + c).toNat + (j - (40 * r + c).toNat) = j by omega] at this
  exact this
/-- a place that stands -/
theorem covI_yes {F : Nat → Nat → Int} {s : Nat} {day : Int} {P0 P C : Nat → Int} {L : List Nat} {i : Nat} {w : Int} (h : covI F s day P0 P C L) (hi : i ∉ L) (hw : w ≠ -1) (hm : mayI F s day P i w = true)
    (hl : ∀ t : Nat, (t : Int) < nmn F day i → 97 ≤ F 10 (8 * (nmOf F day i).toNat + t)) : covI F s day P0 (wrtI F s day P i w) (gup C i w) (L ++ [i]) := by
  have hC : ∀ k ∈ L, gup C i w k = C k := fun k hk => gup_ne (fun e => hi (by rw [← e]; exact hk))
  intro j
  rw [cov_app hC, gup_eq]
  by_cases hs : segI F s day i w j
  · have hf : P j = 46 := mayB_free hm hs.1 hs.2
    have hnc : ¬ cov F s day C L j := fun hc => by have := ((h j).1 hc).1; omega
    refine ⟨fun _ => ⟨?_, by rw [← (h j).2 hnc]; exact hf⟩, fun hc => absurd (Or.inr ⟨hw, hs⟩) hc⟩
    obtain ⟨h1, h2⟩ := hs
    unfold wrtI wrt
    have e := @putN_in P (40 * rowAtN (qRow F s i) w + colAtN (qCol F s i) w (nmn F day i)).toNat (fun t => F 10 (8 * (nmOf F day i).toNat + t)) (nmn F day i).toNat (j - (40 * rowAtN (qRow F s i) w + colAtN (qCol F s i) w (nmn F day i)).toNat) (by omega)
    rw [show (40 * rowAtN (qRow F s i) w + colAtN (qCol F s i) w (nmn F day i)).toNat + (j - (40 * rowAtN (qRow F s i) w + colAtN (qCol F s i) w (nmn F day i)).toNat) = j by omega] at e
    unfold nmn at e h1 h2 hl
    rw [e]
    exact hl _ (by omega)
  · have e : wrtI F s day P i w j = P j := by
      unfold wrtI wrt
      unfold segI nmn at hs
      exact putN_out (by omega)
    rw [e]
    constructor
    · rintro (hc | ⟨-, hc⟩)
      · exact (h j).1 hc
      · exact absurd hc hs
    · intro hc
      exact (h j).2 (fun q => hc (Or.inl q))
/-- taking the names off: P with points in the cells of the first places of L -/
def offI (F : Nat → Nat → Int) (s : Nat) (day : Int) (C : Nat → Int) (P Q : Nat → Int) (L : List Nat) : Prop := ∀ j, (cov F s day C L j → Q j = 46) ∧ (¬ cov F s day C L j → Q j = P j)
theorem offI_0 {F : Nat → Nat → Int} {s : Nat} {day : Int} {P C : Nat → Int} : offI F s day C P P [] := fun j => ⟨fun ⟨i, h, _⟩ => (nomatch h), fun _ => rfl⟩
theorem offI_no {F : Nat → Nat → Int} {s : Nat} {day : Int} {C P Q : Nat → Int} {L : List Nat} {i : Nat} (h : offI F s day C P Q L) (hi : C i = -1) : offI F s day C P Q (L ++ [i]) := by
  intro j
  have e : cov F s day C (L ++ [i]) j ↔ cov F s day C L j := by
    rw [cov_app (fun _ _ => rfl)]
    constructor
    · rintro (h | ⟨h, -⟩)
      · exact h
      · exact absurd hi h
    · exact Or.inl
  rw [e]
  exact h j
theorem offI_yes {F : Nat → Nat → Int} {s : Nat} {day : Int} {C P Q : Nat → Int} {L : List Nat} {i : Nat} (h : offI F s day C P Q L) (hi : C i ≠ -1) : offI F s day C P (putN Q (40 * rowAtN (qRow F s i) (C i) + colAtN (qCol F s i) (C i) (nmn F day i)).toNat (fun _ => 46) (nmn F day i).toNat) (L ++ [i]) := by
  intro j
  rw [cov_app (fun _ _ => rfl)]
  by_cases hs : segI F s day i (C i) j
  · refine ⟨fun _ => ?_, fun hc => absurd (Or.inr ⟨hi, hs⟩) hc⟩
    obtain ⟨h1, h2⟩ := hs
    have e := @putN_in Q (40 * rowAtN (qRow F s i) (C i) + colAtN (qCol F s i) (C i) (nmn F day i)).toNat (fun _ => 46) (nmn F day i).toNat (j - (40 * rowAtN (qRow F s i) (C i) + colAtN (qCol F s i) (C i) (nmn F day i)).toNat) (by omega)
    rw [show (40 * rowAtN (qRow F s i) (C i) + colAtN (qCol F s i) (C i) (nmn F day i)).toNat + (j - (40 * rowAtN (qRow F s i) (C i) + colAtN (qCol F s i) (C i) (nmn F day i)).toNat) = j by omega] at e
    exact e
  · have e : putN Q (40 * rowAtN (qRow F s i) (C i) + colAtN (qCol F s i) (C i) (nmn F day i)).toNat (fun _ => 46) (nmn F day i).toNat j = Q j := by
      unfold segI at hs
      exact putN_out (by omega)
    rw [e]
    constructor
    · rintro (hc | ⟨-, hc⟩)
      · exact (h j).1 hc
      · exact absurd hc hs
    · intro hc
      exact (h j).2 (fun q => hc (Or.inl q))
theorem off_all {F : Nat → Nat → Int} {s : Nat} {day : Int} {P0 P Q C : Nat → Int} {L : List Nat} (h : covI F s day P0 P C L) (h2 : offI F s day C P Q L) : Q = P0 := by
  funext j
  by_cases hc : cov F s day C L j
  · rw [(h2 j).1 hc, ((h j).1 hc).2]
  · rw [(h2 j).2 hc, (h j).2 hc]
theorem dropT {L : List Nat} {n : Nat} (h : n < L.length) : L.drop n = L.getD n 0 :: L.drop (n + 1) := by
  rw [List.drop_eq_getElem_cons h]
  congr 1
  rw [List.getD_eq_getElem?_getD, List.getElem?_eq_getElem h]; rfl
theorem takeT {L : List Nat} {n : Nat} (h : n < L.length) : L.take (n + 1) = L.take n ++ [L.getD n 0] := by
  rw [List.take_succ, List.getD_eq_getElem?_getD, List.getElem?_eq_getElem h]; rfl
theorem getT_mem {L : List Nat} {n : Nat} (h : n < L.length) : L.getD n 0 ∈ L := by
  rw [List.getD_eq_getElem?_getD, List.getElem?_eq_getElem h]
  exact List.getElem_mem h
theorem nmL_nodup {F : Nat → Nat → Int} {s : Nat} {day : Int} : ∀ n : Nat, (nmL F s day n).Nodup
  | 0 => List.nodup_nil
  | n + 1 => by
    rw [nmL_s]
    split
    · refine List.nodup_append.mpr ⟨nmL_nodup n, by simp, fun a ha b hb => ?_⟩
      rw [List.mem_singleton] at hb
      have := (nmL_mem.mp ha).1
      omega
    · exact nmL_nodup n
theorem nodup_take {L : List Nat} (h : L.Nodup) {n : Nat} (hn : n < L.length) : L.getD n 0 ∉ L.take n := by
  have h1 : (L.take (n + 1)).Nodup := h.sublist (List.take_sublist _ _)
  rw [takeT hn] at h1
  intro hm
  exact (List.nodup_append.mp h1).2.2 _ hm _ (List.mem_singleton.mpr rfl) rfl
end BT
