/-! what the class counts and draws is what the reference counts and draws: the order of the places doesn't matter -/
section P0
/-- the places of a list put by C into the picture, if each may stand where it is put: the picture and the worth -/
def sq (F : Nat → Nat → Int) (s : Nat) (on : Int) (C : Nat → Int) : List Nat → (Nat → Int) → Option ((Nat → Int) × Int)
  | [], P => some (P, 0)
  | i :: L, P => if C i = -1 then sq F s on C L P else if mayI F s on P i (C i) = true then (sq F s on C L (wrtI F s on P i (C i))).map (fun r => (r.1, F 6 i + r.2)) else none
def ltr (F : Nat → Nat → Int) (on : Int) (i : Nat) : Prop := ∀ t : Nat, (t : Int) < nmn F on i → 97 ≤ F 10 (8 * (nmOf F on i).toNat + t)
section
variable {F : Nat → Nat → Int} {s : Nat} {on : Int}
theorem sq_c (C : Nat → Int) (i : Nat) (L : List Nat) (P : Nat → Int) : sq F s on C (i :: L) P = if C i = -1 then sq F s on C L P else if mayI F s on P i (C i) = true then (sq F s on C L (wrtI F s on P i (C i))).map (fun r => (r.1, F 6 i + r.2)) else none := rfl
theorem mayI_iff {P : Nat → Int} {i : Nat} {w : Int} : mayI F s on P i w = true ↔ fitB (rowAtN (qRow F s i) w) (colAtN (qCol F s i) w (nmn F on i)) (nmn F on i) = true ∧ ∀ j, segI F s on i w j → P j = 46 := by
  unfold mayI
  constructor
  · intro h
    exact ⟨mayB_fit h, fun j hj => mayB_free h hj.1 hj.2⟩
  · rintro ⟨h1, h2⟩
    unfold mayB
    rw [h1, Bool.true_and]
    exact freeN_iff.mpr (fun t ht => h2 _ ⟨by omega, by omega⟩)
theorem wrtI_in {P : Nat → Int} {i : Nat} {w : Int} {j : Nat} (h : segI F s on i w j) : wrtI F s on P i w j = F 10 (8 * (nmOf F on i).toNat + (j - (40 * rowAtN (qRow F s i) w + colAtN (qCol F s i) w (nmn F on i)).toNat)) := by
  obtain ⟨h1, h2⟩ := h
  have e := @putN_in P (40 * rowAtN (qRow F s i) w + colAtN (qCol F s i) w (nmn F on i)).toNat (fun t => F 10 (8 * (nmOf F on i).toNat + t)) (nmn F on i).toNat (j - (40 * rowAtN (qRow F s i) w + colAtN (qCol F s i) w (nmn F on i)).toNat) (by omega)
  rw [show (40 * rowAtN (qRow F s i) w + colAtN (qCol F s i) w (nmn F on i)).toNat + (j - (40 * rowAtN (qRow F s i) w + colAtN (qCol F s i) w (nmn F on i)).toNat) = j by omega] at e
  unfold wrtI wrt
  exact e
theorem wrtI_out {P : Nat → Int} {i : Nat} {w : Int} {j : Nat} (h : ¬ segI F s on i w j) : wrtI F s on P i w j = P j := by
  unfold segI nmn at h
  unfold wrtI wrt
  exact putN_out (by omega)
theorem wrtI_lt {P : Nat → Int} {i : Nat} {w : Int} {j : Nat} (hl : ltr F on i) (h : segI F s on i w j) : 97 ≤ wrtI F s on P i w j := by
  rw [wrtI_in h]
  obtain ⟨h1, h2⟩ := h
  exact hl _ (by omega)
theorem sw1 {P : Nat → Int} {x y : Nat} {a b : Int} (hx : ltr F on x) (h1 : mayI F s on P x a = true) (h2 : mayI F s on (wrtI F s on P x a) y b = true) : mayI F s on P y b = true ∧ mayI F s on (wrtI F s on P y b) x a = true ∧ wrtI F s on (wrtI F s on P x a) y b = wrtI F s on (wrtI F s on P y b) x a := by
  rw [mayI_iff] at h1 h2
  have hd : ∀ j, segI F s on y b j → ¬ segI F s on x a j := fun j hj hx' => by
    have e1 := h2.2 j hj
    have e2 := wrtI_lt (P := P) hx hx'
    omega
  refine ⟨mayI_iff.mpr ⟨h2.1, fun j hj => by rw [← wrtI_out (P := P) (hd j hj)]; exact h2.2 j hj⟩, mayI_iff.mpr ⟨h1.1, fun j hj => by rw [wrtI_out (fun q => hd j q hj)]; exact h1.2 j hj⟩, ?_⟩
  funext j
  by_cases hy : segI F s on y b j
  · rw [wrtI_in hy, wrtI_out (hd j hy), wrtI_in hy]
  · rw [wrtI_out hy]
    by_cases hx' : segI F s on x a j
    · rw [wrtI_in hx', wrtI_in hx']
    · rw [wrtI_out hx', wrtI_out hx', wrtI_out hy]
theorem sq_perm {C : Nat → Int} {L L' : List Nat} (h : L.Perm L') (hl : ∀ i ∈ L, ltr F on i) : ∀ P, sq F s on C L P = sq F s on C L' P := by
  induction h with
  | nil => intro P; rfl
  | cons x h ih =>
    intro P
    have ih := ih (fun i hi => hl i (List.mem_cons_of_mem _ hi))
    rw [sq_c, sq_c, ih, ih]
  | swap x y l =>
    intro P
    have hx := hl x (List.mem_cons_of_mem _ List.mem_cons_self)
    have hy := hl y List.mem_cons_self
    rw [sq_c, sq_c, sq_c, sq_c, sq_c, sq_c]
    by_cases e1 : C y = -1
    · by_cases e2 : C x = -1
      · simp only [if_pos e1, if_pos e2]
      · simp only [if_pos e1, if_neg e2]
    · by_cases e2 : C x = -1
      · simp only [if_neg e1, if_pos e2]
      · simp only [if_neg e1, if_neg e2]
        by_cases m1 : mayI F s on P y (C y) = true
        · by_cases m2 : mayI F s on (wrtI F s on P y (C y)) x (C x) = true
          · obtain ⟨a1, a2, a3⟩ := sw1 hy m1 m2
            rw [if_pos m1, if_pos m2, if_pos a1, if_pos a2, a3]
            cases sq F s on C l (wrtI F s on (wrtI F s on P x (C x)) y (C y)) with
            | none => rfl
            | some r =>
              show some (r.1, F 6 y + (F 6 x + r.2)) = some (r.1, F 6 x + (F 6 y + r.2))
              congr 2
              omega
          · rw [if_pos m1, if_neg m2]
            by_cases m3 : mayI F s on P x (C x) = true
            · rw [if_pos m3]
              by_cases m4 : mayI F s on (wrtI F s on P x (C x)) y (C y) = true
              · exact absurd (sw1 hx m3 m4).2.1 m2
              · rw [if_neg m4]; rfl
            · rw [if_neg m3]; rfl
        · rw [if_neg m1]
          by_cases m3 : mayI F s on P x (C x) = true
          · rw [if_pos m3]
            by_cases m4 : mayI F s on (wrtI F s on P x (C x)) y (C y) = true
            · exact absurd (sw1 hx m3 m4).1 m1
            · rw [if_neg m4]; rfl
          · rw [if_neg m3]
  | trans h1 h2 ih1 ih2 =>
    intro P
    rw [ih1 hl, ih2 (fun i hi => hl i (h1.mem_iff.mpr hi))]
theorem sq_congr {C C' : Nat → Int} : ∀ (L : List Nat) (P : Nat → Int), (∀ i ∈ L, C i = C' i) → sq F s on C L P = sq F s on C' L P
  | [], _, _ => rfl
  | i :: L, P, h => by
    rw [sq_c, sq_c, h i List.mem_cons_self, sq_congr L _ (fun j hj => h j (List.mem_cons_of_mem _ hj)), sq_congr L _ (fun j hj => h j (List.mem_cons_of_mem _ hj))]
theorem sq_app {C : Nat → Int} {i : Nat} : ∀ (L : List Nat) (P Q : Nat → Int) (v : Int), sq F s on C (L ++ [i]) P = some (Q, v) → ∃ Q' v', sq F s on C L P = some (Q', v') ∧ ((C i = -1 ∧ Q = Q') ∨ (C i ≠ -1 ∧ Q = wrtI F s on Q' i (C i)))
  | [], P, Q, v, h => by
    refine ⟨P, 0, rfl, ?_⟩
    rw [show ([] : List Nat) ++ [i] = [i] from rfl, sq_c] at h
    by_cases e : C i = -1
    · rw [if_pos e] at h
      exact Or.inl ⟨e, (congrArg (fun r => r.1) (Option.some.inj h)).symm⟩
    · rw [if_neg e] at h
      split at h
      · exact Or.inr ⟨e, (congrArg (fun r => r.1) (Option.some.inj h)).symm⟩
      · cases h
  | j :: L, P, Q, v, h => by
    rw [List.cons_append, sq_c] at h
    rw [sq_c]
    by_cases e : C j = -1
    · rw [if_pos e] at h ⊢
      exact sq_app L P Q v h
    · rw [if_neg e] at h ⊢
      by_cases m : mayI F s on P j (C j) = true
      · rw [if_pos m] at h ⊢
        cases e2 : sq F s on C (L ++ [i]) (wrtI F s on P j (C j)) with
        | none => rw [e2] at h; cases h
        | some r =>
          rw [e2] at h
          obtain ⟨Q', v', h1, h2⟩ := sq_app L _ r.1 r.2 e2
          have e3 : r.1 = Q := congrArg (fun r => r.1) (Option.some.inj h)
          rw [e3] at h2
          exact ⟨Q', F 6 j + v', by rw [h1]; rfl, h2⟩
      · rw [if_neg m] at h
        cases h
theorem wv_sq : ∀ (L : List Nat) (P : Nat → Int) (way : Nat) (v : Int), L.Nodup → wv F s on P L way = some v → ∃ C : Nat → Int, (∀ i, C i = -1 ∨ (0 ≤ C i ∧ C i ≤ 3)) ∧ ∃ Q, sq F s on C L P = some (Q, v)
  | [], P, way, v, _, h => by cases h; exact ⟨fun _ => -1, fun _ => Or.inl rfl, P, rfl⟩
  | i :: L, P, way, v, hd, h => by
    obtain ⟨h1, h2⟩ := List.nodup_cons.mp hd
    have hk : ∀ (C : Nat → Int) (d : Int), ∀ j ∈ L, gup C i d j = C j := fun C d j hj => gup_ne (fun e => h1 (by rw [← e]; exact hj))
    have hv : ∀ (C : Nat → Int) (d : Int), (d = -1 ∨ (0 ≤ d ∧ d ≤ 3)) → (∀ i, C i = -1 ∨ (0 ≤ C i ∧ C i ≤ 3)) → ∀ j, gup C i d j = -1 ∨ (0 ≤ gup C i d j ∧ gup C i d j ≤ 3) := fun C d hd hC j => by
      by_cases e : j = i
      · rw [e, gup_eq]; exact hd
      · rw [gup_ne e]; exact hC j
    rw [wv_c] at h
    by_cases e : way % 5 < 4
    · rw [if_pos e] at h
      by_cases m : mayI F s on P i (way % 5 : Nat) = true
      · rw [if_pos m] at h
        cases e2 : wv F s on (wrtI F s on P i (way % 5 : Nat)) L (way / 5) with
        | none => rw [e2] at h; cases h
        | some q =>
          rw [e2] at h
          obtain ⟨C, hC, Q, hQ⟩ := wv_sq L _ _ q h2 e2
          refine ⟨gup C i (way % 5 : Nat), hv C _ (Or.inr (by omega)) hC, Q, ?_⟩
          rw [sq_c, gup_eq, if_neg (by omega), if_pos m, sq_congr L _ (hk C _), hQ]
          cases h
          rfl
      · rw [if_neg m] at h; cases h
    · rw [if_neg e] at h
      obtain ⟨C, hC, Q, hQ⟩ := wv_sq L _ _ v h2 h
      refine ⟨gup C i (-1), hv C _ (Or.inl rfl) hC, Q, ?_⟩
      rw [sq_c, gup_eq, if_pos rfl, sq_congr L _ (hk C _), hQ]
theorem sq_wv {C : Nat → Int} (hC : ∀ i, C i = -1 ∨ (0 ≤ C i ∧ C i ≤ 3)) : ∀ (L : List Nat) (P Q : Nat → Int) (v : Int), sq F s on C L P = some (Q, v) → ∃ way, way < 5 ^ L.length ∧ wv F s on P L way = some v
  | [], P, Q, v, h => ⟨0, by decide, by cases h; rfl⟩
  | i :: L, P, Q, v, h => by
    rw [sq_c] at h
    rw [List.length_cons, Nat.pow_succ]
    rcases hC i with e | e
    · rw [if_pos e] at h
      obtain ⟨w, h1, h2⟩ := sq_wv hC L P Q v h
      refine ⟨4 + 5 * w, by omega, ?_⟩
      rw [wv_c, show (4 + 5 * w) % 5 = 4 by omega, show (4 + 5 * w) / 5 = w by omega, if_neg (by decide)]
      exact h2
    · rw [if_neg (by omega)] at h
      by_cases m : mayI F s on P i (C i) = true
      · rw [if_pos m] at h
        cases e2 : sq F s on C L (wrtI F s on P i (C i)) with
        | none => rw [e2] at h; cases h
        | some r =>
          rw [e2] at h
          obtain ⟨w, h1, h2⟩ := sq_wv hC L _ r.1 r.2 e2
          refine ⟨(C i).toNat + 5 * w, by omega, ?_⟩
          have e3 : (((C i).toNat : Nat) : Int) = C i := by omega
          rw [wv_c, show ((C i).toNat + 5 * w) % 5 = (C i).toNat by omega, show ((C i).toNat + 5 * w) / 5 = w by omega, if_pos (by omega), e3, if_pos m, h2]
          cases h
          rfl
      · rw [if_neg m] at h; cases h
theorem gfS_ge {G : (Nat → Int) → Int} {P : Nat → Int} {i : Nat} {mo : Int} {w : Nat} (hm : mayI F s on P i (w : Int) = true) : ∀ m : Nat, w < m → F 6 i + G (wrtI F s on P i (w : Int)) ≤ gfS F s on G P i mo m ∨ mo ≤ gfS F s on G P i mo m
  | 0, h => absurd h (Nat.not_lt_zero _)
  | m + 1, h => by
    rw [gfS_s]
    by_cases e : gfS F s on G P i mo m < mo
    · rw [if_pos e]
      by_cases e2 : w = m
      · subst e2
        rw [if_pos hm]
        left
        omega
      · rcases gfS_ge (G := G) (mo := mo) hm m (by omega) with q | q
        · left
          split
          · omega
          · exact q
        · omega
    · rw [if_neg e]
      right
      omega
theorem gfS_at {G : (Nat → Int) → Int} {P : Nat → Int} {i : Nat} {mo : Int} : ∀ m : Nat, gfS F s on G P i mo m = 0 ∨ ∃ w : Nat, w < m ∧ mayI F s on P i (w : Int) = true ∧ gfS F s on G P i mo m = F 6 i + G (wrtI F s on P i (w : Int))
  | 0 => Or.inl rfl
  | m + 1 => by
    have keep : gfS F s on G P i mo m = 0 ∨ ∃ w : Nat, w < m + 1 ∧ mayI F s on P i (w : Int) = true ∧ gfS F s on G P i mo m = F 6 i + G (wrtI F s on P i (w : Int)) := by
      rcases gfS_at (G := G) (P := P) (i := i) (mo := mo) m with q | ⟨w, h1, h2, h3⟩
      · exact Or.inl q
      · exact Or.inr ⟨w, by omega, h2, h3⟩
    rw [gfS_s]
    split
    · split
      · next hm =>
        by_cases e : gfS F s on G P i mo m ≤ F 6 i + G (wrtI F s on P i (m : Int))
        · rw [Int.max_eq_right e]
          exact Or.inr ⟨m, Nat.lt_succ_self m, hm, rfl⟩
        · rw [Int.max_eq_left (by omega)]
          exact keep
      · exact keep
    · exact keep
theorem gfV_ub {C : Nat → Int} (hC : ∀ i, C i = -1 ∨ (0 ≤ C i ∧ C i ≤ 3)) : ∀ (L : List Nat) (P Q : Nat → Int) (v : Int), (∀ i ∈ L, 1 ≤ F 6 i ∧ F 6 i ≤ 5) → sq F s on C L P = some (Q, v) → v ≤ gfV F s on L P ∧ v ≤ sumL F L
  | [], P, Q, v, _, h => by cases h; exact ⟨Int.le_refl _, Int.le_refl _⟩
  | i :: L, P, Q, v, hr, h => by
    have hr2 : ∀ j ∈ L, 1 ≤ F 6 j ∧ F 6 j ≤ 5 := fun j hj => hr j (List.mem_cons_of_mem _ hj)
    have h6 := hr i List.mem_cons_self
    have key : v ≤ sumL F (i :: L) ∧ (v ≤ gfV F s on L P ∨ v ≤ gfS F s on (gfV F s on L) P i (sumL F (i :: L)) 4 ∨ sumL F (i :: L) ≤ gfS F s on (gfV F s on L) P i (sumL F (i :: L)) 4) := by
      rw [sq_c] at h
      rcases hC i with e | e
      · rw [if_pos e] at h
        have := gfV_ub hC L P Q v hr2 h
        exact ⟨by unfold sumL; omega, Or.inl this.1⟩
      · rw [if_neg (by omega)] at h
        by_cases m : mayI F s on P i (C i) = true
        · rw [if_pos m] at h
          cases e2 : sq F s on C L (wrtI F s on P i (C i)) with
          | none => rw [e2] at h; cases h
          | some r =>
            rw [e2] at h
            have ih := gfV_ub hC L _ r.1 r.2 hr2 e2
            have e4 : v = F 6 i + r.2 := (congrArg (fun r => r.2) (Option.some.inj h)).symm
            have e3 : (((C i).toNat : Nat) : Int) = C i := by omega
            rw [← e3] at m ih
            refine ⟨by unfold sumL; omega, ?_⟩
            rcases gfS_ge (G := gfV F s on L) (mo := sumL F (i :: L)) m 4 (by omega) with q | q
            · exact Or.inr (Or.inl (by omega))
            · exact Or.inr (Or.inr q)
        · rw [if_neg m] at h; cases h
    refine ⟨?_, key.1⟩
    rw [gfV_c]
    obtain ⟨k1, k2⟩ := key
    split
    · rcases k2 with q | q | q <;> omega
    · omega
theorem gfV_at : ∀ (L : List Nat) (P : Nat → Int), (∀ i ∈ L, 1 ≤ F 6 i ∧ F 6 i ≤ 5) → ∃ way, way < 5 ^ L.length ∧ wv F s on P L way = some (gfV F s on L P)
  | [], P, _ => ⟨0, by decide, rfl⟩
  | i :: L, P, hr => by
    have hr2 : ∀ j ∈ L, 1 ≤ F 6 j ∧ F 6 j ≤ 5 := fun j hj => hr j (List.mem_cons_of_mem _ hj)
    have h6 := hr i List.mem_cons_self
    have hs := sumL_rng L hr2
    have hg := gfV_rng (s := s) (on := on) L hr2 P
    rw [List.length_cons, Nat.pow_succ]
    have stand : gfV F s on (i :: L) P ≠ 0 → gfV F s on (i :: L) P = gfS F s on (gfV F s on L) P i (sumL F (i :: L)) 4 → ∃ way, way < 5 ^ L.length * 5 ∧ wv F s on P (i :: L) way = some (gfV F s on (i :: L) P) := by
      intro h0 he
      rcases gfS_at (F := F) (s := s) (on := on) (G := gfV F s on L) (P := P) (i := i) (mo := sumL F (i :: L)) 4 with q | ⟨w, h1, h2, h3⟩
      · omega
      · obtain ⟨w', h4, h5⟩ := gfV_at L (wrtI F s on P i (w : Int)) hr2
        refine ⟨w + 5 * w', by omega, ?_⟩
        rw [wv_c, show (w + 5 * w') % 5 = w by omega, show (w + 5 * w') / 5 = w' by omega, if_pos h1, if_pos h2, h5, he, h3]
        rfl
    have out : gfV F s on (i :: L) P = gfV F s on L P → ∃ way, way < 5 ^ L.length * 5 ∧ wv F s on P (i :: L) way = some (gfV F s on (i :: L) P) := by
      intro he
      obtain ⟨w, h1, h2⟩ := gfV_at L P hr2
      refine ⟨4 + 5 * w, by omega, ?_⟩
      rw [wv_c, show (4 + 5 * w) % 5 = 4 by omega, show (4 + 5 * w) / 5 = w by omega, if_neg (by decide), he]
      exact h2
    have e6 : sumL F (i :: L) = F 6 i + sumL F L := rfl
    have ec := gfV_c F s on i L P
    by_cases e : gfS F s on (gfV F s on L) P i (sumL F (i :: L)) 4 < sumL F (i :: L)
    · rw [if_pos e] at ec
      by_cases e2 : gfS F s on (gfV F s on L) P i (sumL F (i :: L)) 4 ≤ gfV F s on L P
      · exact out (by rw [ec]; exact Int.max_eq_right e2)
      · rw [Int.max_eq_left (by omega)] at ec
        exact stand (by omega) ec
    · rw [if_neg e] at ec
      exact stand (by omega) ec
theorem maxW_ge {P : Nat → Int} {L : List Nat} {w : Nat} : ∀ n : Nat, w < n → wvI F s on P L w ≤ maxW F s on P L n
  | 0, h => absurd h (Nat.not_lt_zero _)
  | n + 1, h => by
    rw [maxW_s]
    by_cases e : w = n
    · subst e; split <;> omega
    · have := maxW_ge (P := P) (L := L) n (by omega : w < n)
      split <;> omega
theorem maxW_at {P : Nat → Int} {L : List Nat} : ∀ n : Nat, maxW F s on P L n = 0 ∨ ∃ w, w < n ∧ wvI F s on P L w = maxW F s on P L n
  | 0 => Or.inl rfl
  | n + 1 => by
    rw [maxW_s]
    split
    · exact Or.inr ⟨n, Nat.lt_succ_self n, rfl⟩
    · rcases maxW_at (P := P) (L := L) n with q | ⟨w, h1, h2⟩
      · exact Or.inl q
      · exact Or.inr ⟨w, by omega, h2⟩
/-- the best that the class finds is the best that the reference finds -/
theorem gfV_max {P : Nat → Int} {L L' : List Nat} (hp : L.Perm L') (hd : L.Nodup) (hr : ∀ i ∈ L, 1 ≤ F 6 i ∧ F 6 i ≤ 5) (hl : ∀ i ∈ L, ltr F on i) : maxW F s on P L' (5 ^ L'.length) = gfV F s on L P := by
  have hg := gfV_rng (s := s) (on := on) L hr P
  have hd' := hp.nodup hd
  have h1 : maxW F s on P L' (5 ^ L'.length) ≤ gfV F s on L P := by
    rcases maxW_at (F := F) (s := s) (on := on) (P := P) (L := L') (5 ^ L'.length) with q | ⟨w, h1, h2⟩
    · omega
    · rw [← h2]
      unfold wvI
      cases e : wv F s on P L' w with
      | none => show (-1 : Int) ≤ _; omega
      | some v =>
        obtain ⟨C, hC, Q, hQ⟩ := wv_sq L' P w v hd' e
        rw [← sq_perm hp hl] at hQ
        exact (gfV_ub hC L P Q v hr hQ).1
  have h2 : gfV F s on L P ≤ maxW F s on P L' (5 ^ L'.length) := by
    obtain ⟨w, h3, h4⟩ := gfV_at (s := s) (on := on) L P hr
    obtain ⟨C, hC, Q, hQ⟩ := wv_sq L P w _ hd h4
    rw [sq_perm hp hl] at hQ
    obtain ⟨w', h5, h6⟩ := sq_wv hC L' P Q _ hQ
    have := maxW_ge (F := F) (s := s) (on := on) (P := P) (L := L') _ h5
    unfold wvI at this
    rw [h6] at this
    exact this
  omega
theorem sideF_may {P : Nat → Int} {r c n : Int} (h : sideF P r c n ≠ -1) : mayB P (rowAtN r (sideF P r c n)) (colAtN c (sideF P r c n) n) n = true := by
  unfold sideF at h ⊢
  split
  · next q => exact q
  · split
    · next q => exact q
    · split
      · next q => exact q
      · split
        · next q => exact q
        · next h1 h2 h3 h4 => rw [if_neg h1, if_neg h2, if_neg h3, if_neg h4] at h; exact absurd rfl h
/-- the placing by ranks puts each name where it may stand -/
theorem ly_sq : ∀ (L : List Nat) (st : (Nat → Int) × (Nat → Int)) (C : Nat → Int), L.Nodup → (∀ i ∈ L, st.1 i = -1) → (∀ i ∈ L, C i = (lyL F s on st L).1 i) → ∃ v, sq F s on C L st.2 = some ((lyL F s on st L).2, v)
  | [], st, C, _, _, _ => ⟨0, rfl⟩
  | j :: L, st, C, hd, h1, hC => by
    obtain ⟨hj, hd2⟩ := List.nodup_cons.mp hd
    have e0 : lyL F s on st (j :: L) = lyL F s on (lay1 F s on j st) L := rfl
    rw [e0] at hC ⊢
    have hCj : C j = (lay1 F s on j st).1 j := by rw [hC j List.mem_cons_self, lyL_out L _ hj]
    obtain ⟨v, hv⟩ := ly_sq L (lay1 F s on j st) C hd2 (fun i hi => by rw [lay1_ne (fun e => hj (by rw [← e]; exact hi))]; exact h1 i (List.mem_cons_of_mem _ hi)) (fun i hi => hC i (List.mem_cons_of_mem _ hi))
    rw [sq_c]
    by_cases e : sideF st.2 (qRow F s j) (qCol F s j) (F 9 (nmOf F on j).toNat) = -1
    · have e1 : lay1 F s on j st = st := if_pos e
      rw [e1] at hCj hv ⊢
      rw [if_pos (by rw [hCj]; exact h1 j List.mem_cons_self)]
      exact ⟨v, hv⟩
    · have e1 : lay1 F s on j st = (gup st.1 j (sideF st.2 (qRow F s j) (qCol F s j) (F 9 (nmOf F on j).toNat)), wrt F st.2 (qRow F s j) (qCol F s j) (nmOf F on j) (sideF st.2 (qRow F s j) (qCol F s j) (F 9 (nmOf F on j).toNat))) := if_neg e
      have e2 : C j = sideF st.2 (qRow F s j) (qCol F s j) (F 9 (nmOf F on j).toNat) := by rw [hCj, e1]; exact gup_eq
      have e3 : mayI F s on st.2 j (C j) = true := by rw [e2]; exact sideF_may e
      have e4 : wrtI F s on st.2 j (C j) = (lay1 F s on j st).2 := by rw [e2, e1]; rfl
      rw [if_neg (by rw [e2]; exact e), if_pos e3, e4, hv]
      exact ⟨F 6 j + v, rfl⟩
theorem lay1_side {i j : Nat} {st : (Nat → Int) × (Nat → Int)} (h : -1 ≤ st.1 j ∧ st.1 j ≤ 3) : -1 ≤ (lay1 F s on i st).1 j ∧ (lay1 F s on i st).1 j ≤ 3 := by
  unfold lay1
  split
  · exact h
  · show -1 ≤ gup st.1 i _ j ∧ gup st.1 i _ j ≤ 3
    by_cases e : j = i
    · rw [e, gup_eq]; exact sideF_rng
    · rw [gup_ne e]; exact h
theorem lyL_side {j : Nat} : ∀ (L : List Nat) (st : (Nat → Int) × (Nat → Int)), (-1 ≤ st.1 j ∧ st.1 j ≤ 3) → -1 ≤ (lyL F s on st L).1 j ∧ (lyL F s on st L).1 j ≤ 3
  | [], _, h => h
  | i :: L, st, h => lyL_side L _ (lay1_side h)
end
section
variable {ad : Tg → Nat} {F : Nat → Nat → Int} {z : Nat → Int} {s np : Nat}
theorem lay0_side {on : Int} {j : Nat} : -1 ≤ (lay0 F s np on).1 j ∧ (lay0 F s np on).1 j ≤ 3 := by
  rw [← lyL_lay0 (ad := fun _ => 0)]
  exact lyL_side _ _ (by show -1 ≤ (-1 : Int) ∧ (-1 : Int) ≤ 3; decide)
theorem lay0_okP (hI : mI z F) {on : Int} (hn : np ≤ 14) : Pok (lay0 F s np on).2 := by
  rw [← lyL_lay0 (ad := fun _ => 0)]
  refine lyL_ok hI _ _ (fun i hi => ?_) (dotP_ok np)
  have h := (lsU_mem 5 (Nat.le_refl 5)).mp hi
  have h2 := h.2.2.2.2
  rw [wdA_some] at h2
  exact ⟨by omega, of_decide_eq_true h2⟩
/-- the list by ranks and the list by numbers hold the same places -/
theorem ls_perm (hI : mI z F) {on : Int} (hn : (np : Int) ≤ z 3) : (lsU F s (wdA ad F on) np 5).Perm (nmL F s on np) := by
  refine (List.perm_ext_iff_of_nodup (lsU_nodup 5 (Nat.le_refl 5)) (nmL_nodup np)).mpr (fun i => ?_)
  rw [lsU_mem 5 (Nat.le_refl 5), nmL_mem, wdA_some, decide_eq_true_iff]
  have ip := hI.2.2.2.2.2.2.1 i
  constructor
  · rintro ⟨h1, h2, h3, h4, h5⟩; exact ⟨h1, h4, h5⟩
  · rintro ⟨h1, h4, h5⟩
    have := ip (by omega)
    exact ⟨h1, by omega, by omega, h4, h5⟩
theorem ls_out {on : Int} {i : Nat} (h : i ∉ lsU F s (wdA ad F on) np 5) : (lay0 F s np on).1 i = -1 := by
  rw [← lyL_lay0 (ad := ad), lyL_out _ _ h]
theorem nm_ltr (hI : mI z F) {on : Int} {i : Nat} (hi : i < 14) (h : nmOf F on i ≠ -1) : ltr F on i := fun t ht => ((nm_ok hI hi h).2.2.2.2 t ht).1
theorem ls_ltr (hI : mI z F) {on : Int} (hn : (np : Int) ≤ z 3) : ∀ i ∈ lsU F s (wdA ad F on) np 5, ltr F on i := fun i hi => by
  have h := (lsU_mem 5 (Nat.le_refl 5)).mp hi
  have h2 := h.2.2.2.2
  rw [wdA_some] at h2
  have i3 := hI.2.2.1
  exact nm_ltr hI (by omega) (of_decide_eq_true h2)
theorem ls_rank (hI : mI z F) {on : Int} (hn : (np : Int) ≤ z 3) : ∀ i ∈ lsU F s (wdA ad F on) np 5, 1 ≤ F 6 i ∧ F 6 i ≤ 5 := fun i hi => by
  have h := (lsU_mem 5 (Nat.le_refl 5)).mp hi
  omega
theorem best_eq (hI : mI z F) (hn : (np : Int) ≤ z 3) {on : Int} {P : Nat → Int} : maxW F s on P (nmL F s on np) (5 ^ (nmL F s on np).length) = gfV F s on (lsU F s (wdA ad F on) np 5) P :=
  gfV_max (ls_perm hI hn) (lsU_nodup 5 (Nat.le_refl 5)) (ls_rank hI hn) (ls_ltr hI hn)
def lsm (f : Nat → Int) : List Nat → Int
  | [] => 0
  | i :: L => f i + lsm f L
theorem lsm_app (f : Nat → Int) (i : Nat) : ∀ L : List Nat, lsm f (L ++ [i]) = lsm f L + f i
  | [] => by show f i + 0 = 0 + f i; omega
  | j :: L => by show f j + lsm f (L ++ [i]) = f j + lsm f L + f i; rw [lsm_app f i L]; omega
theorem lsm_perm {f : Nat → Int} {L L' : List Nat} (h : L.Perm L') : lsm f L = lsm f L' := by
  induction h with
  | nil => rfl
  | cons x h ih => show f x + _ = f x + _; rw [ih]
  | swap x y l => show f y + (f x + lsm f l) = f x + (f y + lsm f l); omega
  | trans h1 h2 ih1 ih2 => rw [ih1, ih2]
theorem wsN_lsm {sd : Nat → Int} {L : List Nat} : ∀ n : Nat, n ≤ L.length → wsN F sd (fun q => L.getD q 0) n = lsm (fun i => if sd i = -1 then 0 else F 6 i) (L.take n)
  | 0, _ => by rw [List.take_zero]; rfl
  | n + 1, h => by
    rw [wsN_s, wsN_lsm n (by omega), takeT (by omega), lsm_app]
    by_cases e : sd (L.getD n 0) = -1
    · rw [if_neg (fun q => q e), if_pos e]; omega
    · rw [if_pos e, if_neg e]
theorem sumW_lsm {on : Int} {sd : Nat → Int} (h : ∀ i, i ∉ lsU F s (wdA ad F on) np 5 → sd i = -1) (hm : ∀ i, i < np → (i ∈ nmL F s on np ↔ i ∈ lsU F s (wdA ad F on) np 5)) : ∀ n : Nat, n ≤ np → sumW sd (F 6) n = lsm (fun i => if sd i = -1 then 0 else F 6 i) (nmL F s on n)
  | 0, _ => rfl
  | n + 1, hn => by
    rw [sumW_s, sumW_lsm h hm n (by omega), nmL_s]
    by_cases hc : (qOn F s n && decide (nmOf F on n ≠ -1)) = true
    · rw [if_pos hc]; exact (lsm_app _ _ _).symm
    · have : sd n = -1 := h n (fun q => hc (by have h1 := nmL_mem.mp ((hm n (by omega)).mpr q); rw [Bool.and_eq_true, decide_eq_true_iff]; exact h1.2))
      rw [if_neg hc, if_pos this]; omega
/-- the worth of the names that stand, as the class and as the reference count it -/
theorem worth_eq (hI : mI z F) (hn : (np : Int) ≤ z 3) {on : Int} : wsN F (lay0 F s np on).1 (fun q => (lsU F s (wdA ad F on) np 5).getD q 0) (lsU F s (wdA ad F on) np 5).length = sumW (lay0 F s np on).1 (F 6) np := by
  rw [wsN_lsm _ (Nat.le_refl _), List.take_of_length_le (Nat.le_refl _), sumW_lsm (ad := ad) (fun i hi => ls_out hi) (fun i _ => (ls_perm hI hn).mem_iff.symm) np (Nat.le_refl _)]
  exact lsm_perm (ls_perm hI hn)
theorem push_eq {G : Nat → Nat → Int} {i k : Nat} {on : Int} : ∀ n : Nat, pbN (lay0 G k np on).1 (lay0 F k np on).1 (i : Int) n = pushIn F G i k np on n
  | 0 => rfl
  | n + 1 => by
    rw [pbN_s, pushIn_s, push_eq n]
    by_cases h : n ≠ i ∧ (lay0 G k np on).1 n ≠ (lay0 F k np on).1 n
    · rw [if_pos h, if_pos ⟨fun q => h.1 (by omega), h.2⟩]
    · rw [if_neg h, if_neg (fun q => h ⟨fun e => q.1 (by rw [e]), q.2⟩)]; omega
end
end P0
