/-! p16: what the law asks of sheets, names and editions, over the rows alone -/
section Q1
section
variable {F : Nat → Nat → Int} {s : Nat} {on : Int}
/-- what isn't free stays as it is -/
theorem sq_keep {C : Nat → Int} : ∀ (L : List Nat) (P Q : Nat → Int) (v : Int), sq F s on C L P = some (Q, v) → ∀ j, P j ≠ 46 → Q j = P j
  | [], P, Q, v, h, j, _ => by
    have e : P = Q := congrArg (fun r => r.1) (Option.some.inj h)
    rw [e]
  | i :: L, P, Q, v, h, j, hj => by
    rw [sq_c] at h
    by_cases e : C i = -1
    · rw [if_pos e] at h
      exact sq_keep L P Q v h j hj
    · rw [if_neg e] at h
      by_cases m : mayI F s on P i (C i) = true
      · rw [if_pos m] at h
        cases e2 : sq F s on C L (wrtI F s on P i (C i)) with
        | none => rw [e2] at h; cases h
        | some r =>
          rw [e2] at h
          have e3 : r.1 = Q := congrArg (fun r => r.1) (Option.some.inj h)
          have hs : ¬ segI F s on i (C i) j := fun q => hj ((mayI_iff.mp m).2 j q)
          have e4 := wrtI_out (P := P) hs
          have e5 := sq_keep L _ r.1 r.2 e2 j (by rw [e4]; exact hj)
          rw [← e3, e5, e4]
      · rw [if_neg m] at h
        cases h
/-- the letters of a name that stands -/
theorem sq_let {C : Nat → Int} {i : Nat} (hl : ltr F on i) : ∀ (L : List Nat) (P Q : Nat → Int) (v : Int), sq F s on C L P = some (Q, v) → i ∈ L → C i ≠ -1 → ∀ j, segI F s on i (C i) j → Q j = F 10 (8 * (nmOf F on i).toNat + (j - (40 * rowAtN (qRow F s i) (C i) + colAtN (qCol F s i) (C i) (nmn F on i)).toNat))
  | [], P, Q, v, h, hi, hC, j, hj => absurd hi List.not_mem_nil
  | k :: L, P, Q, v, h, hi, hC, j, hj => by
    rw [sq_c] at h
    by_cases e : C k = -1
    · rw [if_pos e] at h
      have hk : i ∈ L := by
        rcases List.mem_cons.mp hi with q | q
        · exact absurd (by rw [q]; exact e) hC
        · exact q
      exact sq_let hl L P Q v h hk hC j hj
    · rw [if_neg e] at h
      by_cases m : mayI F s on P k (C k) = true
      · rw [if_pos m] at h
        cases e2 : sq F s on C L (wrtI F s on P k (C k)) with
        | none => rw [e2] at h; cases h
        | some r =>
          rw [e2] at h
          have e3 : r.1 = Q := congrArg (fun r => r.1) (Option.some.inj h)
          rw [← e3]
          by_cases q : i = k
          · rw [← q] at e2
            have e4 := wrtI_in (P := P) hj
            have e5 := wrtI_lt (P := P) hl hj
            rw [sq_keep L _ r.1 r.2 e2 j (by omega), e4]
          · exact sq_let hl L _ r.1 r.2 e2 ((List.mem_cons.mp hi).resolve_left q) hC j hj
      · rw [if_neg m] at h
        cases h
/-- points, stars and letters alone -/
def Pal (P : Nat → Int) : Prop := ∀ j, P j = 46 ∨ P j = 42 ∨ (97 ≤ P j ∧ P j ≤ 122)
theorem dotP_al : ∀ n : Nat, Pal (dotP F s n)
  | 0 => fun j => Or.inl rfl
  | n + 1 => by
    unfold dotP
    split
    · intro j
      unfold gup
      split
      · exact Or.inr (Or.inl rfl)
      · exact dotP_al n j
    · exact dotP_al n
def ltr2 (F : Nat → Nat → Int) (on : Int) (i : Nat) : Prop := ∀ t : Nat, (t : Int) < nmn F on i → 97 ≤ F 10 (8 * (nmOf F on i).toNat + t) ∧ F 10 (8 * (nmOf F on i).toNat + t) ≤ 122
theorem wrtI_al {P : Nat → Int} {i : Nat} {w : Int} (hl : ltr2 F on i) (h : Pal P) : Pal (wrtI F s on P i w) := fun j => by
  by_cases hs : segI F s on i w j
  · rw [wrtI_in hs]
    obtain ⟨h1, h2⟩ := hs
    exact Or.inr (Or.inr (hl _ (by omega)))
  · rw [wrtI_out hs]
    exact h j
theorem sq_al {C : Nat → Int} : ∀ (L : List Nat) (P Q : Nat → Int) (v : Int), sq F s on C L P = some (Q, v) → (∀ i ∈ L, ltr2 F on i) → Pal P → Pal Q
  | [], P, Q, v, h, _, hP => by
    have e : P = Q := congrArg (fun r => r.1) (Option.some.inj h)
    rw [← e]
    exact hP
  | i :: L, P, Q, v, h, hl, hP => by
    rw [sq_c] at h
    have hl2 : ∀ i ∈ L, ltr2 F on i := fun j hj => hl j (List.mem_cons_of_mem _ hj)
    by_cases e : C i = -1
    · rw [if_pos e] at h
      exact sq_al L P Q v h hl2 hP
    · rw [if_neg e] at h
      by_cases m : mayI F s on P i (C i) = true
      · rw [if_pos m] at h
        cases e2 : sq F s on C L (wrtI F s on P i (C i)) with
        | none => rw [e2] at h; cases h
        | some r =>
          rw [e2] at h
          have e3 : r.1 = Q := congrArg (fun r => r.1) (Option.some.inj h)
          rw [← e3]
          exact sq_al L _ r.1 r.2 e2 hl2 (wrtI_al (hl i List.mem_cons_self) hP)
      · rw [if_neg m] at h
        cases h
theorem dotP_dot {i : Nat} : ∀ n : Nat, i < n → qOn F s i = true → dotP F s n (40 * qRow F s i + qCol F s i).toNat = 42
  | 0, h, _ => absurd h (Nat.not_lt_zero _)
  | n + 1, h, hq => by
    unfold dotP
    by_cases e : i = n
    · rw [← e, if_pos hq, gup_eq]
    · have ih := dotP_dot n (by omega) hq
      split
      · unfold gup
        split
        · rfl
        · exact ih
      · exact ih
theorem sq_app2 {C : Nat → Int} {i : Nat} : ∀ (L : List Nat) (P Q : Nat → Int) (v : Int), sq F s on C (L ++ [i]) P = some (Q, v) → ∃ Q' v', sq F s on C L P = some (Q', v') ∧ ((C i = -1 ∧ Q = Q' ∧ v = v') ∨ (C i ≠ -1 ∧ mayI F s on Q' i (C i) = true ∧ Q = wrtI F s on Q' i (C i) ∧ v = v' + F 6 i))
  | [], P, Q, v, h => by
    refine ⟨P, 0, rfl, ?_⟩
    rw [show ([] : List Nat) ++ [i] = [i] from rfl, sq_c] at h
    by_cases e : C i = -1
    · rw [if_pos e] at h
      have h2 := Option.some.inj h
      exact Or.inl ⟨e, (congrArg (fun r => r.1) h2).symm, (congrArg (fun r => r.2) h2).symm⟩
    · rw [if_neg e] at h
      by_cases m : mayI F s on P i (C i) = true
      · rw [if_pos m] at h
        have h2 := Option.some.inj h
        have h3 : F 6 i + 0 = v := congrArg (fun r => r.2) h2
        exact Or.inr ⟨e, m, (congrArg (fun r => r.1) h2).symm, by omega⟩
      · rw [if_neg m] at h
        cases h
  | j :: L, P, Q, v, h => by
    rw [List.cons_append, sq_c] at h
    rw [sq_c]
    by_cases e : C j = -1
    · rw [if_pos e] at h ⊢
      exact sq_app2 L P Q v h
    · rw [if_neg e] at h ⊢
      by_cases m : mayI F s on P j (C j) = true
      · rw [if_pos m] at h ⊢
        cases e2 : sq F s on C (L ++ [i]) (wrtI F s on P j (C j)) with
        | none => rw [e2] at h; cases h
        | some r =>
          rw [e2] at h
          obtain ⟨Q', v', h1, h2⟩ := sq_app2 L _ r.1 r.2 e2
          have h4 := Option.some.inj h
          have e3 : r.1 = Q := congrArg (fun r => r.1) h4
          have e4 : F 6 j + r.2 = v := congrArg (fun r => r.2) h4
          rw [e3] at h2
          refine ⟨Q', F 6 j + v', by rw [h1]; rfl, ?_⟩
          rcases h2 with ⟨a, b, c⟩ | ⟨a, b, c, d⟩
          · exact Or.inl ⟨a, b, by omega⟩
          · exact Or.inr ⟨a, b, c, by omega⟩
      · rw [if_neg m] at h
        cases h
theorem nm_pre {C P0 : Nat → Int} : ∀ np : Nat, (∃ Q v, sq F s on C (nmL F s on np) P0 = some (Q, v)) → ∀ n, n ≤ np → ∃ Q v, sq F s on C (nmL F s on n) P0 = some (Q, v)
  | 0, h, n, hn => by rw [show n = 0 by omega]; exact h
  | np + 1, h, n, hn => by
    by_cases e : n = np + 1
    · rw [e]; exact h
    · refine nm_pre np ?_ n (by omega)
      rw [nmL_s] at h
      by_cases c : (qOn F s np && decide (nmOf F on np ≠ -1)) = true
      · rw [if_pos c] at h
        obtain ⟨Q, v, h⟩ := h
        obtain ⟨Q', v', h1, -⟩ := sq_app2 _ _ _ _ h
        exact ⟨Q', v', h1⟩
      · rw [if_neg c] at h
        exact h
/-- names that stand, in the order of the places: on free cells each, met by none ahead of it; their worth -/
theorem nm_all {C P0 : Nat → Int} {np : Nat} (h : ∃ Q v, sq F s on C (nmL F s on np) P0 = some (Q, v)) (hl : ∀ i, i < np → nmOf F on i ≠ -1 → ltr F on i) (hC : ∀ i, i < np → i ∉ nmL F s on np → C i = -1) : ∀ n, n ≤ np → ∃ Q, sq F s on C (nmL F s on n) P0 = some (Q, sumW C (F 6) n) ∧ covI F s on P0 Q C (nmL F s on n) ∧ ∀ k, k < n → C k ≠ -1 → (qOn F s k = true ∧ nmOf F on k ≠ -1) ∧ fitB (rowAtN (qRow F s k) (C k)) (colAtN (qCol F s k) (C k) (nmn F on k)) (nmn F on k) = true ∧ ∀ j, segI F s on k (C k) j → P0 j = 46 ∧ ¬ cov F s on C (nmL F s on k) j
  | 0, _ => ⟨P0, rfl, covI_0, fun k hk => absurd hk (Nat.not_lt_zero _)⟩
  | n + 1, hn => by
    obtain ⟨Q, hQ, hcov, hk⟩ := nm_all h hl hC n (by omega)
    obtain ⟨Q1, v1, h1⟩ := nm_pre np h (n + 1) hn
    have hnn : n ∉ nmL F s on n := fun q => by have := (nmL_mem.mp q).1; omega
    rw [nmL_s] at h1 ⊢
    by_cases c : (qOn F s n && decide (nmOf F on n ≠ -1)) = true
    · rw [if_pos c] at h1 ⊢
      obtain ⟨c1, c2⟩ := (Bool.and_eq_true _ _).mp c
      have c3 := of_decide_eq_true c2
      obtain ⟨Q', v', h2, h3⟩ := sq_app2 _ _ _ _ h1
      rw [hQ] at h2
      have h4 := Option.some.inj h2
      have e1 : Q = Q' := congrArg (fun r => r.1) h4
      have e2 : sumW C (F 6) n = v' := congrArg (fun r => r.2) h4
      rw [← e1, ← e2] at h3
      rcases h3 with ⟨a, b, d⟩ | ⟨a, m, b, d⟩
      · refine ⟨Q, by rw [h1, b, d, sumW_s, if_pos a, Int.add_zero], ?_, fun k hk1 hk2 => hk k (by have : k ≠ n := fun e => hk2 (by rw [e]; exact a); omega) hk2⟩
        have h5 := covI_no hcov hnn
        rw [show gup C n (-1) = C by rw [← a]; exact gup_self C n] at h5
        exact h5
      · refine ⟨wrtI F s on Q n (C n), by rw [h1, b, d, sumW_s, if_neg a], ?_, fun k hk1 hk2 => ?_⟩
        · have h5 := covI_yes hcov hnn a m (hl n (by omega) c3)
          rw [gup_self C n] at h5
          exact h5
        · by_cases e : k = n
          · rw [e]
            refine ⟨⟨c1, c3⟩, (mayI_iff.mp m).1, fun j hj => ?_⟩
            have f := (mayI_iff.mp m).2 j hj
            have nc : ¬ cov F s on C (nmL F s on n) j := fun q => by have := ((hcov j).1 q).1; omega
            exact ⟨by rw [← (hcov j).2 nc]; exact f, nc⟩
          · exact hk k (by omega) hk2
    · rw [if_neg c] at h1 ⊢
      have c' : C n = -1 := hC n (by omega) (fun q => c (by
        have h5 := nmL_mem.mp q
        rw [h5.2.1, decide_eq_true h5.2.2]
        rfl))
      exact ⟨Q, by rw [hQ, sumW_s, if_pos c', Int.add_zero], hcov, fun k hk1 hk2 => hk k (by have : k ≠ n := fun e => hk2 (by rw [e]; exact c'); omega) hk2⟩
end
section
variable {z : Nat → Int} {F : Nat → Nat → Int} {s np : Nat} {on : Int}
/-- a sheet as it is placed -/
theorem sh_all (hI : mI z F) (hn : (np : Int) ≤ z 3) : sq F s on (lay0 F s np on).1 (nmL F s on np) (dotP F s np) = some ((lay0 F s np on).2, sumW (lay0 F s np on).1 (F 6) np) ∧ covI F s on (dotP F s np) (lay0 F s np on).2 (lay0 F s np on).1 (nmL F s on np) ∧ ∀ k, k < np → (lay0 F s np on).1 k ≠ -1 → (qOn F s k = true ∧ nmOf F on k ≠ -1) ∧ fitB (rowAtN (qRow F s k) ((lay0 F s np on).1 k)) (colAtN (qCol F s k) ((lay0 F s np on).1 k) (nmn F on k)) (nmn F on k) = true ∧ ∀ j, segI F s on k ((lay0 F s np on).1 k) j → dotP F s np j = 46 ∧ ¬ cov F s on (lay0 F s np on).1 (nmL F s on k) j := by
  have i3 := hI.2.2.1
  obtain ⟨v, hv⟩ := ly_sq (F := F) (s := s) (on := on) (lsU F s (wdA (fun _ => 0) F on) np 5) (fun _ => -1, dotP F s np) (lay0 F s np on).1 (lsU_nodup 5 (Nat.le_refl 5)) (fun i _ => rfl) (fun i _ => by rw [lyL_lay0])
  rw [lyL_lay0, sq_perm (ls_perm hI hn) (ls_ltr hI hn)] at hv
  obtain ⟨Q, h1, h2, h3⟩ := nm_all (F := F) (s := s) (on := on) (C := (lay0 F s np on).1) (P0 := dotP F s np) (np := np) ⟨_, v, hv⟩ (fun i hi h => nm_ltr hI (by omega) h) (fun i hi h => ls_out (ad := fun _ => 0) (fun q => h ((ls_perm hI hn).mem_iff.mp q))) np (Nat.le_refl _)
  rw [hv] at h1
  have h4 : (lay0 F s np on).2 = Q := congrArg (fun r => r.1) (Option.some.inj h1)
  rw [← h4] at h2
  have h5 : v = sumW (lay0 F s np on).1 (F 6) np := congrArg (fun r => r.2) (Option.some.inj h1)
  rw [← h5]
  exact ⟨hv, h2, h3⟩
theorem nm_ltr2 (hI : mI z F) {i : Nat} (hi : i < 14) (h : nmOf F on i ≠ -1) : ltr2 F on i := fun t ht => (nm_ok hI hi h).2.2.2.2 t ht
theorem sh_al (hI : mI z F) (hn : (np : Int) ≤ z 3) : Pal (lay0 F s np on).2 := by
  have i3 := hI.2.2.1
  exact sq_al _ _ _ _ (sh_all hI hn).1 (fun i hi => nm_ltr2 hI (by have := (nmL_mem.mp hi).1; omega) (nmL_mem.mp hi).2.2) (dotP_al np)
/-- a dot is a star -/
theorem sh_dot (hI : mI z F) (hn : (np : Int) ≤ z 3) {i : Nat} (hi : i < np) (hq : qOn F s i = true) : (lay0 F s np on).2 (40 * qRow F s i + qCol F s i).toNat = 42 := by
  have h1 := (sh_all (s := s) (on := on) hI hn).2.1 (40 * qRow F s i + qCol F s i).toNat
  have h2 := dotP_dot np hi hq
  rw [h1.2 (fun q => by have := (h1.1 q).2; omega), h2]
/-- the letter t of a name that stands -/
theorem sh_let (hI : mI z F) (hn : (np : Int) ≤ z 3) {i : Nat} (hi : i < np) (hC : (lay0 F s np on).1 i ≠ -1) {t : Nat} (ht : (t : Int) < nmn F on i) : (lay0 F s np on).2 ((40 * rowAtN (qRow F s i) ((lay0 F s np on).1 i) + colAtN (qCol F s i) ((lay0 F s np on).1 i) (nmn F on i)).toNat + t) = F 10 (8 * (nmOf F on i).toNat + t) := by
  have i3 := hI.2.2.1
  obtain ⟨h1, h2, h3⟩ := sh_all (s := s) (on := on) hI hn
  obtain ⟨⟨h4, h5⟩, -⟩ := h3 i hi hC
  have e := sq_let (nm_ltr hI (by omega) h5) _ _ _ _ h1 (nmL_mem.mpr ⟨hi, h4, h5⟩) hC ((40 * rowAtN (qRow F s i) ((lay0 F s np on).1 i) + colAtN (qCol F s i) ((lay0 F s np on).1 i) (nmn F on i)).toNat + t) ⟨by omega, by omega⟩
  rw [e]
  congr 2
  omega
/-- the best of all placings is no less than the one that stands -/
theorem sh_best (hI : mI z F) (hn : (np : Int) ≤ z 3) : sumW (lay0 F s np on).1 (F 6) np ≤ maxW F s on (dotP F s np) (nmL F s on np) (5 ^ (nmL F s on np).length) := by
  obtain ⟨h1, -, -⟩ := sh_all (s := s) (on := on) hI hn
  obtain ⟨way, hw, hv⟩ := sq_wv (fun i => by have := lay0_side (F := F) (s := s) (np := np) (on := on) (j := i); omega) _ _ _ _ h1
  have h2 := maxW_ge (F := F) (s := s) (on := on) (P := dotP F s np) (L := nmL F s on np) (w := way) _ hw
  unfold wvI at h2
  rw [hv] at h2
  exact h2
theorem sumW_lim (hI : mI z F) (hn : (np : Int) ≤ z 3) (C : Nat → Int) : 0 ≤ sumW C (F 6) np ∧ sumW C (F 6) np ≤ 70 := by
  have i3 := hI.2.2.1
  have ip := hI.2.2.2.2.2.2.1
  have := sumW_rng (C := C) (R := F 6) (M := 5) (by decide) np (fun j hj => by have := ip j (by omega); omega)
  omega
theorem maxW_lim (hI : mI z F) (hn : (np : Int) ≤ z 3) {P : Nat → Int} (n : Nat) : 0 ≤ maxW F s on P (nmL F s on np) n ∧ maxW F s on P (nmL F s on np) n ≤ 70 := by
  have i3 := hI.2.2.1
  have ip := hI.2.2.2.2.2.2.1
  have h := maxW_rng (F := F) (s := s) (day := on) (P := P) (L := nmL F s on np) (fun i hi => by have h1 := (nmL_mem.mp hi).1; have := ip i (by omega); omega) n
  have h2 := nmL_len (F := F) (s := s) (day := on) np
  omega
-- names
theorem lnF_rng (hI : mI z F) {i : Nat} (hi : i < 14) : 0 ≤ lnF F on i ∧ lnF F on i ≤ 8 ∧ (0 < lnF F on i ↔ nmOf F on i ≠ -1) ∧ (nmOf F on i ≠ -1 → lnF F on i = nmn F on i) := by
  unfold lnF
  by_cases e : nmOf F on i = -1
  · rw [if_pos e]
    exact ⟨by decide, by decide, ⟨fun h => absurd h (by decide), fun h => absurd e h⟩, fun h => absurd e h⟩
  · rw [if_neg e]
    have h := nm_ok hI hi e
    unfold nmn
    exact ⟨by omega, by omega, ⟨fun _ => e, fun _ => by omega⟩, fun _ => rfl⟩
theorem nmR_cc {G : Nat → Nat → Int} (h8 : G 8 = F 8) {i : Nat} : ∀ n : Nat, nmR G on i n = nmR F on i n
  | 0 => rfl
  | n + 1 => by rw [nmR_s, nmR_s, nmR_cc h8 n, h8]
theorem nmOf_cc {G : Nat → Nat → Int} (h7 : G 7 = F 7) (h8 : G 8 = F 8) {i : Nat} : nmOf G on i = nmOf F on i := by
  unfold nmOf
  rw [h7, nmR_cc h8]
theorem lnF_cc {G : Nat → Nat → Int} (h7 : G 7 = F 7) (h8 : G 8 = F 8) (h9 : G 9 = F 9) {i : Nat} : lnF G on i = lnF F on i := by
  unfold lnF nmn
  rw [nmOf_cc h7 h8, h9]
theorem nmOf_0 {i : Nat} (h : F 7 i = 0) : nmOf F on i = -1 := by
  unfold nmOf
  rw [h]
  rfl
theorem lnF_0 {i : Nat} (h : F 7 i = 0) : lnF F on i = 0 := if_pos (nmOf_0 h)
theorem lnF_pass (hI : mI z F) {i : Nat} (hi : i < 14) {d : Int} (hd : z 0 ≤ d) : lnF F d i = lnF F (z 0) i := by
  unfold lnF nmn
  rw [nmOf_pass hI hi hd]
/-- the name just told -/
theorem nam_of (hI : mI z F) {i : Nat} (hi : i < 14) (h6 : F 7 i < 6) : nmOf (namF z F i) (z 0) i = 6 * (i : Int) + F 7 i := by
  have h7 := hI.2.2.2.2.2.2.2.1 i hi
  obtain ⟨n, hn⟩ : ∃ n : Nat, F 7 i = (n : Int) := ⟨(F 7 i).toNat, by omega⟩
  have e7 : namF z F i 7 i = ((n + 1 : Nat) : Int) := by
    show gup (F 7) i (F 7 i + 1) i = _
    rw [gup_eq, hn]; rfl
  have e8 : namF z F i 8 (6 * i + n) = z 0 := by
    show gup (F 8) (6 * i + (F 7 i).toNat) (z 0) (6 * i + n) = z 0
    rw [show (F 7 i).toNat = n by omega, gup_eq]
  unfold nmOf
  rw [e7, Int.toNat_natCast, nmR_s, e8, if_pos (Int.le_refl _), hn]
theorem nam_len (hI : mI z F) {i : Nat} (hi : i < 14) (h6 : F 7 i < 6) : nmn (namF z F i) (z 0) i = z 1 := by
  have h7 := hI.2.2.2.2.2.2.2.1 i hi
  unfold nmn
  rw [nam_of hI hi h6]
  show gup (F 9) (6 * i + (F 7 i).toNat) (z 1) (6 * (i : Int) + F 7 i).toNat = z 1
  rw [show (6 * (i : Int) + F 7 i).toNat = 6 * i + (F 7 i).toNat by omega, gup_eq]
theorem nam_ln (hI : mI z F) {i : Nat} (hi : i < 14) (h6 : F 7 i < 6) : lnF (namF z F i) (z 0) i = z 1 := by
  have h7 := hI.2.2.2.2.2.2.2.1 i hi
  unfold lnF
  rw [nam_of hI hi h6, if_neg (by omega), nam_len hI hi h6]
theorem agr.o_lnF {ns ne : Nat} {G : Nat → Nat → Int} (hI : mI z F) (h : agr np ns ne F G) (hn : (np : Int) ≤ z 3) {i : Nat} (hi : i < np) (h7 : G 7 i = F 7 i) : lnF G on i = lnF F on i := by
  have i3 := hI.2.2.1
  have i7 := hI.2.2.2.2.2.2.2.1 i (by omega)
  unfold lnF nmn
  rw [h.o_nm hi i7.1 h7]
  rcases nmOf_rng hI (on := on) (i := i) (by omega) with e | ⟨j, h1, h2, h3, h4⟩
  · rw [if_pos e, if_pos e]
  · rw [if_neg (by omega), if_neg (by omega), h4]
    exact (h.2.2.1 i j hi h2).2.1
theorem nam_ne (hI : mI z F) {i k : Nat} (hi : (i : Int) < z 3) (hk : k < 14) (hik : k ≠ i) (h6 : F 7 i < 6) : lnF (namF z F i) on k = lnF F on k ∧ namF z F i 7 k = F 7 k := by
  have i3 := hI.2.2.1
  have i7 := hI.2.2.2.2.2.2.2.1 k hk
  have e7 : namF z F i 7 k = F 7 k := gup_ne hik
  refine ⟨?_, e7⟩
  by_cases h : (k : Int) < z 3
  · exact (agr_name (ns := 0) (ne := 0) hI hi h6).o_lnF hI (by omega) (by omega) e7
  · have e := i7.2.2 (by omega)
    rw [lnF_0 e, lnF_0 (e7.trans e)]
theorem spV_none {i : Nat} {wh : Int} (h : nmOf F on i = -1) : spV F on wh i = 32 := if_pos h
theorem spV_out {i : Nat} {wh : Int} (h : nmOf F on i = -1 ∨ nmn F on i ≤ wh) : spV F on wh i = 32 := by
  unfold spV
  rcases h with h | h
  · exact if_pos h
  · unfold nmn at h
    by_cases e : nmOf F on i = -1
    · exact if_pos e
    · rw [if_neg e]
      exact if_pos h
theorem spV_in {i t : Nat} (h : nmOf F on i ≠ -1) (h0 : 0 ≤ nmOf F on i) (ht : (t : Int) < nmn F on i) : spV F on (t : Int) i = F 10 (8 * (nmOf F on i).toNat + t) := by
  unfold spV
  unfold nmn at ht
  rw [if_neg h, if_neg (by omega)]
  congr 1
  omega
theorem spV_lt (hI : mI z F) {i : Nat} (hi : i < 14) (h : nmOf F on i ≠ -1) {t : Nat} (ht : (t : Int) < nmn F on i) : 97 ≤ spV F on (t : Int) i ∧ spV F on (t : Int) i ≤ 122 := by
  have h1 := nm_ok hI hi h
  rw [spV_in h (by omega) ht]
  exact h1.2.2.2.2 t ht
theorem spV_rng (hI : mI z F) {i : Nat} (hi : i < 14) {wh : Int} (hw : 0 ≤ wh) : 32 ≤ spV F on wh i ∧ spV F on wh i ≤ 122 := by
  by_cases h : nmOf F on i = -1
  · rw [spV_none h]; decide
  · by_cases h2 : nmn F on i ≤ wh
    · rw [spV_out (Or.inr h2)]; decide
    · have h3 := spV_lt hI hi h (t := wh.toNat) (by omega)
      rw [show ((wh.toNat : Nat) : Int) = wh by omega] at h3
      omega
theorem spV_pass (hI : mI z F) {i : Nat} (hi : i < 14) {d wh : Int} (hd : z 0 ≤ d) : spV F d wh i = spV F (z 0) wh i := by
  unfold spV
  rw [nmOf_pass hI hi hd]
/-- a first name isn't that of the day ahead -/
theorem nam_first (hI : mI z F) {i : Nat} (hi : i < 14) (h1 : F 7 i = 0) : nmOf (namF z F i) (z 0 - 1) i = -1 := by
  have e7 : namF z F i 7 i = ((0 + 1 : Nat) : Int) := by
    show gup (F 7) i (F 7 i + 1) i = _
    rw [gup_eq, h1]; rfl
  have e8 : namF z F i 8 (6 * i + 0) = z 0 := by
    show gup (F 8) (6 * i + (F 7 i).toNat) (z 0) (6 * i + 0) = z 0
    rw [h1]
    exact gup_eq
  unfold nmOf
  rw [e7, Int.toNat_natCast, nmR_s, e8, if_neg (by omega)]
  rfl
theorem pushIn_lim {G : Nat → Nat → Int} {i k : Nat} : ∀ n : Nat, pushIn F G i k np on n + (if i < n then 1 else 0) ≤ n
  | 0 => by rw [if_neg (by omega)]; unfold pushIn; omega
  | n + 1 => by
    have ih := pushIn_lim (G := G) (i := i) (k := k) n
    rw [pushIn_s]
    by_cases e : n = i
    · rw [if_neg (fun q => q.1 e)]
      split at ih <;> split <;> omega
    · split <;> split at ih <;> split <;> omega
theorem pushUp_lim {G : Nat → Nat → Int} {i : Nat} (hi : i < np) : ∀ k : Nat, 0 ≤ pushUp F G i np on k ∧ pushUp F G i np on k ≤ ((np : Int) - 1) * k
  | 0 => by unfold pushUp; simp
  | k + 1 => by
    have h1 := pushUp_lim (G := G) hi k
    have h2 := pushIn_lim (F := F) (np := np) (on := on) (G := G) (i := i) (k := k) np
    have h3 := pushIn_rng (F := F) (G := G) (i := i) (k := k) (np := np) (day := on) np
    rw [if_pos hi] at h2
    rw [pushUp_s]
    have e : ((np : Int) - 1) * ((k + 1 : Nat) : Int) = ((np : Int) - 1) * k + ((np : Int) - 1) := by rw [Int.natCast_succ, Int.mul_add, Int.mul_one]
    omega
-- editions
theorem agr.o_pv {ns ne e t : Nat} {G : Nat → Nat → Int} (hI : mI z F) (hE : mE z F) (hQ : eQ z F) (h : agr (z 3).toNat ns ne F G) (hns : (ns : Int) = z 11) (hne : (ne : Int) = z 22) (he : (e : Int) < z 22) (ht : (t : Int) < z 11) {r c : Int} : printedV G e t r c = printedV F e t r c := by
  have i3 := hI.2.2.1
  have i11 := hI.2.2.2.1
  obtain ⟨e1, e2, e3, e4, -⟩ := hE e he
  obtain ⟨a1, a2, -⟩ := h.2.2.2 e (by omega)
  unfold printedV
  rw [a2, a1]
  by_cases q : F 24 e ≤ (t : Int)
  · rw [if_pos q, if_pos q]
  · rw [if_neg q, if_neg q, h.o_recP hI hQ (by omega) (by omega) he (by omega) (by omega) (by omega) (by omega) _ (by omega) (by omega)]
theorem LwE.agr {z' : Nat → Int} {ns ne : Nat} {G : Nat → Nat → Int} {E : Nat → Int} (hI : mI z F) (hE : mE z F) (hQ : eQ z F) (h : agr (z 3).toNat ns ne F G) (hns : (ns : Int) = z 11) (hne : (ne : Int) = z 22) (g11 : z 11 ≤ z' 11) (g22 : z' 22 = z 22) (hL : LwE z F E) : LwE z' G E := fun e he => by
  rw [g22] at he
  obtain ⟨⟨h1, h2⟩, h3, h4, h5⟩ := hL e he
  exact ⟨⟨h1, by omega⟩, h3, h4, by rw [h5, h.o_pv hI hE hQ hns hne he (by omega)]⟩
theorem pv_new (hI : mI z F) {t : Nat} (ht : (t : Int) < z 11) {r c : Int} : printedV (prF z F) (z 22).toNat t r c = (lay0 F t (z 3).toNat (z 0)).2 (40 * r + c).toNat := by
  have v23 : prF z F 23 (z 22).toNat = z 3 := by show gup (F 23) (z 22).toNat (z 3) (z 22).toNat = z 3; rw [gup_eq]
  have v24 : prF z F 24 (z 22).toNat = z 11 := by show gup (F 24) (z 22).toNat (z 11) (z 22).toNat = z 11; rw [gup_eq]
  unfold printedV
  rw [v23, v24, if_neg (by omega), recP_pr hI ht]
theorem pv_rng (hE : mE z F) {e t : Nat} (he : (e : Int) < z 22) {r c : Int} : 0 ≤ printedV F e t r c ∧ printedV F e t r c ≤ 122 := by
  unfold printedV
  split
  · decide
  · next q => exact recP_ok hE he (by omega) _ (by have := (hE e he).1; omega) _
-- bits, as the kit's family of bits has them
def bt (x : Int32) (i : Nat) : Bool := x.toBitVec.getLsbD i
theorem ib_ext {x y : Int32} (h : ∀ i, i < 32 → bt x i = bt y i) : x = y := Int32.toBitVec_inj.mp (BitVec.eq_of_getLsbD_eq (fun i hi => h i hi))
theorem ib_or (x y : Int32) (i : Nat) : bt (x ||| y) i = (bt x i || bt y i) := by unfold bt; rw [Int32.toBitVec_or, BitVec.getLsbD_or]
theorem ib_and (x y : Int32) (i : Nat) : bt (x &&& y) i = (bt x i && bt y i) := by unfold bt; rw [Int32.toBitVec_and, BitVec.getLsbD_and]
theorem ib_0 (i : Nat) : bt (iI 0) i = false := BitVec.getLsbD_zero
theorem ib_1 : ∀ i, i < 32 → bt (iI 1) i = decide (i = 0) := by decide +kernel
theorem ib_sl : ∀ n, n < 32 → ((nI n &&& 31).toBitVec.smod 32).toNat = n := by decide +kernel
theorem ib_shl (n : Nat) (hn : n < 32) (x : Int32) {i : Nat} (hi : i < 32) : bt (x <<< (nI n &&& 31)) i = (decide (n ≤ i) && bt x (i - n)) := by
  unfold bt
  rw [Int32.toBitVec_shiftLeft]
  show (x.toBitVec <<< ((nI n &&& 31).toBitVec.smod 32).toNat).getLsbD i = _
  rw [ib_sl n hn, BitVec.getLsbD_shiftLeft]
  rcases Nat.lt_or_ge i n with h | h
  · simp [h, Nat.not_le.mpr h]
  · simp [hi, h, Nat.not_lt.mpr h]
theorem ib_sshr (n : Nat) (hn : n < 32) (x : Int32) {i : Nat} (hi : i < 32) : bt (x >>> (nI n &&& 31)) i = if n + i < 32 then bt x (n + i) else bt x 31 := by
  unfold bt
  rw [Int32.toBitVec_shiftRight]
  show (x.toBitVec.sshiftRight ((nI n &&& 31).toBitVec.smod 32).toNat).getLsbD i = _
  rw [ib_sl n hn, BitVec.getLsbD_sshiftRight, BitVec.msb_eq_getLsbD_last]
  simp [hi]
/-- a bit looked at -/
theorem ib_rd (x : Int32) {c : Int} (hc : 0 ≤ c ∧ c < 32) : (x >>> (iI c &&& 31)) &&& iI 1 = iI (b2i (bt x c.toNat)) := by
  rw [show iI c = nI c.toNat by rw [← iI_nI, Int.toNat_of_nonneg hc.1]]
  refine ib_ext (fun i hi => ?_)
  rw [ib_and, ib_sshr _ (by omega) x hi, ib_1 i hi]
  by_cases e : i = 0
  · subst e
    rw [Nat.add_zero, if_pos (by omega), decide_eq_true rfl, Bool.and_true]
    cases bt x c.toNat with
    | false => exact (ib_0 0).symm
    | true => exact (ib_1 0 (by decide)).symm
  · rw [decide_eq_false e, Bool.and_false]
    cases bt x c.toNat with
    | false => exact (ib_0 i).symm
    | true => exact ((ib_1 i hi).trans (decide_eq_false e)).symm
/-- a bit set -/
theorem ib_wr (x : Int32) {c : Int} (hc : 0 ≤ c ∧ c < 32) {i : Nat} (hi : i < 32) : bt (x ||| (iI 1 <<< (iI c &&& 31))) i = (bt x i || decide ((i : Int) = c)) := by
  rw [show iI c = nI c.toNat by rw [← iI_nI, Int.toNat_of_nonneg hc.1]]
  rw [ib_or, ib_shl _ (by omega) _ hi]
  congr 1
  by_cases e : (i : Int) = c
  · rw [decide_eq_true e, decide_eq_true (by omega), ib_1 _ (by omega), decide_eq_true (by omega)]
    rfl
  · rw [decide_eq_false e]
    by_cases h : c.toNat ≤ i
    · rw [ib_1 _ (by omega), decide_eq_false (p := i - c.toNat = 0) (by omega), Bool.and_false]
    · rw [decide_eq_false h, Bool.false_and]
/-- the law's picture of a sheet in 64 ints: the bit of a cell -/
def mB (M : Nat → Int) (j : Nat) : Bool := bt (iI (M (j / 40 + (if 31 < j % 40 then 24 else 0)))) (j % 40 % 32)
end
end Q1
