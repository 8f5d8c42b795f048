/-! printed pictures; what always holds is kept by every call -/
section P1
theorem putN_congr {P : Nat → Int} {b : Nat} {L L' : Nat → Int} : ∀ n : Nat, (∀ t, t < n → L t = L' t) → putN P b L n = putN P b L' n
  | 0, _ => rfl
  | n + 1, h => by
    unfold putN
    rw [putN_congr n (fun t ht => h t (by omega)), h n (by omega)]
theorem pr25_at {F : Nat → Nat → Int} {day : Int} {e i : Nat} : ∀ n : Nat, i < n → pr25 F day e n (14 * e + i) = nmOf F day i
  | 0, h => absurd h (Nat.not_lt_zero _)
  | n + 1, h => by
    show gup (pr25 F day e n) (14 * e + n) (nmOf F day n) (14 * e + i) = _
    by_cases q : i = n
    · rw [q, gup_eq]
    · rw [gup_ne (by omega)]; exact pr25_at n (by omega)
theorem pr25_out {F : Nat → Nat → Int} {day : Int} {e j : Nat} : ∀ n : Nat, (j < 14 * e ∨ 14 * e + n ≤ j) → pr25 F day e n j = F 25 j
  | 0, _ => rfl
  | n + 1, h => by
    show gup (pr25 F day e n) (14 * e + n) (nmOf F day n) j = _
    rw [gup_ne (by omega)]; exact pr25_out n (by omega)
theorem pr26i_at {F : Nat → Nat → Int} {day : Int} {np e k i : Nat} {X : Nat → Int} : ∀ n : Nat, i < n → pr26i F day np e k X n (14 * (4 * e + k) + i) = (lay0 F k np day).1 i
  | 0, h => absurd h (Nat.not_lt_zero _)
  | n + 1, h => by
    show gup (pr26i F day np e k X n) (14 * (4 * e + k) + n) ((lay0 F k np day).1 n) (14 * (4 * e + k) + i) = _
    by_cases q : i = n
    · rw [q, gup_eq]
    · rw [gup_ne (by omega)]; exact pr26i_at n (by omega)
theorem pr26i_out {F : Nat → Nat → Int} {day : Int} {np e k j : Nat} {X : Nat → Int} : ∀ n : Nat, (j < 14 * (4 * e + k) ∨ 14 * (4 * e + k) + n ≤ j) → pr26i F day np e k X n j = X j
  | 0, _ => rfl
  | n + 1, h => by
    show gup (pr26i F day np e k X n) (14 * (4 * e + k) + n) ((lay0 F k np day).1 n) j = _
    rw [gup_ne (by omega)]; exact pr26i_out n (by omega)
theorem pr26_at {F : Nat → Nat → Int} {day : Int} {np e s i : Nat} (hn : np ≤ 14) (hi : i < np) : ∀ k : Nat, s < k → pr26 F day np e k (14 * (4 * e + s) + i) = (lay0 F s np day).1 i
  | 0, h => absurd h (Nat.not_lt_zero _)
  | k + 1, h => by
    show pr26i F day np e k (pr26 F day np e k) np (14 * (4 * e + s) + i) = _
    by_cases q : s = k
    · rw [q]; exact pr26i_at np hi
    · rw [pr26i_out np (by omega)]; exact pr26_at hn hi k (by omega)
theorem pr26_out {F : Nat → Nat → Int} {day : Int} {np e j : Nat} (hn : np ≤ 14) : ∀ k : Nat, (j < 14 * (4 * e) ∨ 14 * (4 * e + k) ≤ j) → pr26 F day np e k j = F 26 j
  | 0, _ => rfl
  | k + 1, h => by
    show pr26i F day np e k (pr26 F day np e k) np j = _
    rw [pr26i_out np (by omega)]; exact pr26_out hn k (by omega)
/-- the rows G hold what the rows F hold of the first np places, ns sheets, ne editions and of all names told -/
def agr (np ns ne : Nat) (F G : Nat → Nat → Int) : Prop :=
  (∀ i : Nat, i < np → G 4 i = F 4 i ∧ G 5 i = F 5 i ∧ G 6 i = F 6 i) ∧
  (∀ s : Nat, s < ns → G 12 s = F 12 s ∧ G 13 s = F 13 s ∧ G 14 s = F 14 s) ∧
  (∀ i j : Nat, i < np → (j : Int) < F 7 i → G 8 (6 * i + j) = F 8 (6 * i + j) ∧ G 9 (6 * i + j) = F 9 (6 * i + j) ∧ ∀ t : Nat, t < 8 → G 10 (8 * (6 * i + j) + t) = F 10 (8 * (6 * i + j) + t)) ∧
  (∀ e : Nat, e < ne → G 23 e = F 23 e ∧ G 24 e = F 24 e ∧ ∀ i : Nat, i < 14 → G 25 (14 * e + i) = F 25 (14 * e + i) ∧ ∀ s : Nat, s < 4 → G 26 (14 * (4 * e + s) + i) = F 26 (14 * (4 * e + s) + i))
section
variable {np ns ne : Nat} {F G : Nat → Nat → Int} {s i : Nat}
theorem agr.o_qOn (h : agr np ns ne F G) (hi : i < np) (hs : s < ns) : qOn G s i = qOn F s i := by
  have h1 := h.1 i hi
  have h2 := h.2.1 s hs
  unfold qOn
  rw [h1.1, h1.2.1, h2.1, h2.2.1]
theorem agr.o_qRow (h : agr np ns ne F G) (hi : i < np) (hs : s < ns) : qRow G s i = qRow F s i := by
  have h1 := h.1 i hi
  have h2 := h.2.1 s hs
  unfold qRow
  rw [h1.2.1, h2.2.1]
theorem agr.o_qCol (h : agr np ns ne F G) (hi : i < np) (hs : s < ns) : qCol G s i = qCol F s i := by
  have h1 := h.1 i hi
  have h2 := h.2.1 s hs
  unfold qCol
  rw [h1.1, h1.2.1, h2.1, h2.2.1, h2.2.2]
theorem agr.o_cN (h : agr np ns ne F G) (hi : i < np) (hs : s < ns) : cN G s i = cN F s i := by
  unfold cN
  rw [h.o_qOn hi hs, h.o_qCol hi hs]
theorem agr.o_rN (h : agr np ns ne F G) (hi : i < np) (hs : s < ns) : rN G s i = rN F s i := by
  unfold rN
  rw [h.o_qOn hi hs, h.o_qRow hi hs]
theorem agr.o_dotP (h : agr np ns ne F G) (hs : s < ns) : ∀ n : Nat, n ≤ np → dotP G s n = dotP F s n
  | 0, _ => rfl
  | n + 1, hn => by
    unfold dotP
    rw [agr.o_dotP h hs n (by omega), h.o_qOn (by omega) hs, h.o_qRow (by omega) hs, h.o_qCol (by omega) hs]
end
/-- the names in an edition are names that were told -/
def eQ (z : Nat → Int) (F : Nat → Nat → Int) : Prop := ∀ e s i : Nat, (e : Int) < z 22 → (s : Int) < F 24 e → (i : Int) < F 23 e → F 26 (14 * (4 * e + s) + i) ≠ -1 → ∃ j : Nat, (j : Int) < F 7 i ∧ F 25 (14 * e + i) = 6 * (i : Int) + j
section
variable {z z' : Nat → Int} {F G : Nat → Nat → Int}
theorem agr.o_wrt {np ns ne e s i j m : Nat} (hI : mI z F) (h : agr np ns ne F G) (h3 : (np : Int) ≤ z 3) (hi : i < np) (hs : s < ns) {w : Int} {q : Int} (hq : q = 6 * (i : Int) + j) (hj : (j : Int) < F 7 i) (P : Nat → Int) : wrt G P (qRow G s i) (qCol G s i) q w = wrt F P (qRow F s i) (qCol F s i) q w := by
  have i3 := hI.2.2.1
  have h9 := hI.2.2.2.2.2.2.2.2.1 i j (by omega) hj
  obtain ⟨a1, a2, a3⟩ := h.2.2.1 i j hi hj
  unfold wrt
  rw [h.o_qRow hi hs, h.o_qCol hi hs, show q.toNat = 6 * i + j by omega, a2]
  exact putN_congr _ (fun t ht => a3 t (by omega))
theorem agr.o_recP {np ns ne e s m : Nat} (hI : mI z F) (hQ : eQ z F) (h : agr np ns ne F G) (h3 : (np : Int) ≤ z 3) (he : e < ne) (hez : (e : Int) < z 22) (hs : s < ns) (hs4 : s < 4) (hsz : (s : Int) < F 24 e) (hm : m ≤ np) : ∀ n : Nat, n ≤ np → (n : Int) ≤ F 23 e → recP G e s m n = recP F e s m n
  | 0, _, _ => h.o_dotP hs m hm
  | n + 1, hn, hn2 => by
    have i3 := hI.2.2.1
    have h4 := (h.2.2.2 e he).2.2 n (by omega)
    rw [recP_s, recP_s, h4.2 s hs4, h4.1, agr.o_recP hI hQ h h3 he hez hs hs4 hsz hm n (by omega) (by omega)]
    by_cases q : F 26 (14 * (4 * e + s) + n) = -1
    · rw [if_pos q, if_pos q]
    · rw [if_neg q, if_neg q]
      obtain ⟨j, hj, hq⟩ := hQ e s n hez hsz (by omega) q
      exact h.o_wrt (e := e) (m := m) hI h3 (by omega) hs hq hj _
/-- the editions keep what they hold -/
theorem agr.o_mE {np ns ne : Nat} (hI : mI z F) (hQ : eQ z F) (hE : mE z F) (h : agr np ns ne F G) (h3 : (np : Int) = z 3) (h11 : (ns : Int) = z 11) (h22 : (ne : Int) = z 22) (g3 : z 3 ≤ z' 3) (g11 : z 11 ≤ z' 11) (g22 : z' 22 = z 22) : mE z' G := by
  intro e he
  have he' : (e : Int) < z 22 := by omega
  obtain ⟨e1, e2, e3, e4, e5⟩ := hE e he'
  obtain ⟨a1, a2, a3⟩ := h.2.2.2 e (by omega)
  have i3 := hI.2.2.1
  have i11 := hI.2.2.2.1
  refine ⟨by rw [a1]; exact e1, by rw [a1]; omega, by rw [a2]; exact e3, by rw [a2]; omega, fun s i hs hi => ?_⟩
  rw [a2] at hs
  rw [a1] at hi
  have hi' : i < np := by omega
  have hs' : s < ns := by omega
  have a4 := a3 i (by omega)
  rw [a4.1, a4.2 s (by omega)]
  rcases e5 s i hs hi with q | q
  · exact Or.inl q
  · right
    obtain ⟨b1, b2, b3, b4, b5, b6⟩ := q
    have hne : F 26 (14 * (4 * e + s) + i) ≠ -1 := by omega
    obtain ⟨j, hj, hq⟩ := hQ e s i he' hs hi hne
    obtain ⟨c1, c2, c3⟩ := h.2.2.1 i j hi' hj
    have hqn : (F 25 (14 * e + i)).toNat = 6 * i + j := by omega
    rw [hqn] at b4 b5 b6
    refine ⟨b1, by rw [h.o_qOn hi' hs']; exact b2, b3, ?_, ?_, ?_⟩
    · rw [hqn, c2]; exact b4
    · rw [hqn, c2]
      intro t ht
      rw [c3 t (by omega)]
      exact b5 t ht
    · rw [hqn, c2, h.o_qRow hi' hs', h.o_qCol hi' hs']
      exact b6
theorem agr.o_eQ {np ns ne : Nat} (hI : mI z F) (hQ : eQ z F) (hE : mE z F) (h : agr np ns ne F G) (h3 : (np : Int) = z 3) (h11 : (ns : Int) = z 11) (h22 : (ne : Int) = z 22) (g22 : z' 22 = z 22) (g7 : ∀ i : Nat, (i : Int) < z 3 → F 7 i ≤ G 7 i) : eQ z' G := by
  intro e s i he hs hi hne
  have he' : (e : Int) < z 22 := by omega
  obtain ⟨e1, e2, e3, e4, e5⟩ := hE e he'
  obtain ⟨a1, a2, a3⟩ := h.2.2.2 e (by omega)
  have i3 := hI.2.2.1
  have i11 := hI.2.2.2.1
  rw [a2] at hs
  rw [a1] at hi
  have a4 := a3 i (by omega)
  rw [a4.2 s (by omega)] at hne
  rw [a4.1]
  obtain ⟨j, hj, hq⟩ := hQ e s i he' hs hi hne
  have := g7 i (by omega)
  exact ⟨j, by omega, hq⟩
end
section
variable {z : Nat → Int} {F : Nat → Nat → Int}
theorem agr_pr (hI : mI z F) : agr (z 3).toNat (z 11).toNat (z 22).toNat F (prF z F) := by
  have i3 := hI.2.2.1
  have i11 := hI.2.2.2.1
  have f : ∀ k, k < 23 → prF z F k = F k := fun k hk => by
    unfold prF
    rw [gup_ne (by omega), gup_ne (by omega), gup_ne (by omega), gup_ne (by omega)]
  refine ⟨fun i _ => ⟨by rw [f 4 (by decide)], by rw [f 5 (by decide)], by rw [f 6 (by decide)]⟩, fun i _ => ⟨by rw [f 12 (by decide)], by rw [f 13 (by decide)], by rw [f 14 (by decide)]⟩, fun i j _ _ => ⟨by rw [f 8 (by decide)], by rw [f 9 (by decide)], fun t _ => by rw [f 10 (by decide)]⟩, fun e he => ⟨?_, ?_, fun i hi => ⟨?_, fun s hs => ?_⟩⟩⟩
  · show gup (F 23) (z 22).toNat (z 3) e = _
    rw [gup_ne (by omega)]
  · show gup (F 24) (z 22).toNat (z 11) e = _
    rw [gup_ne (by omega)]
  · exact pr25_out _ (by omega)
  · exact pr26_out (by omega) _ (by omega)
/-- what the reference draws of an edition just printed is the sheet's picture of today -/
theorem recP_pr (hI : mI z F) {s : Nat} (hs : (s : Int) < z 11) : recP (prF z F) (z 22).toNat s (z 3).toNat (z 3).toNat = (lay0 F s (z 3).toNat (z 0)).2 := by
  have i3 := hI.2.2.1
  have i11 := hI.2.2.2.1
  have i22 := hI.2.2.2.2.1
  obtain ⟨np, hnp⟩ : ∃ np, np = (z 3).toNat := ⟨_, rfl⟩
  obtain ⟨e, he⟩ : ∃ e, e = (z 22).toNat := ⟨_, rfl⟩
  have hle : lE F (prF z F) := fun k hk => by
    unfold prF
    rw [gup_ne (by omega), gup_ne (by omega), gup_ne (by omega), gup_ne (by omega)]
  have g25 : ∀ i, i < np → prF z F 25 (14 * e + i) = nmOf F (z 0) i := fun i hi => by
    rw [he]; exact pr25_at _ (by omega)
  have g26 : ∀ i, i < np → prF z F 26 (14 * (4 * e + s) + i) = (lay0 F s np (z 0)).1 i := fun i hi => by
    rw [he, hnp]; exact pr26_at (by omega) (by omega) _ (by omega)
  rw [← hnp, ← he]
  have key : ∀ n : Nat, n ≤ np → ∀ Q v, sq F s (z 0) (lay0 F s np (z 0)).1 (nmL F s (z 0) n) (dotP F s np) = some (Q, v) → recP (prF z F) e s np n = Q := by
    intro n
    induction n with
    | zero => intro _ Q v h; cases h; exact dotP_c hle np
    | succ n ih =>
      intro hn Q v h
      rw [nmL_s] at h
      rw [recP_s, g26 n (by omega), g25 n (by omega)]
      by_cases hc : (qOn F s n && decide (nmOf F (z 0) n ≠ -1)) = true
      · rw [if_pos hc] at h
        obtain ⟨Q', v', h1, h2⟩ := sq_app _ _ _ _ h
        have ih := ih (by omega) Q' v' h1
        rcases h2 with ⟨h3, h4⟩ | ⟨h3, h4⟩
        · rw [if_pos h3, ih, h4]
        · rw [if_neg h3, ih, h4, wrt_c hle, qRow_c hle, qCol_c hle]; rfl
      · rw [if_neg hc] at h
        have hno : n ∉ lsU F s (wdA (fun _ => 0) F (z 0)) np 5 := fun q => by
          have h1 := nmL_mem.mp ((ls_perm (ad := fun _ => 0) hI (by omega)).mem_iff.mp q)
          apply hc
          rw [Bool.and_eq_true, decide_eq_true_iff]
          exact h1.2
        rw [if_pos (ls_out hno)]
        exact ih (by omega) Q v h
  obtain ⟨v, hv⟩ := ly_sq (F := F) (s := s) (on := z 0) (lsU F s (wdA (fun _ => 0) F (z 0)) np 5) (fun _ => -1, dotP F s np) (lay0 F s np (z 0)).1 (lsU_nodup 5 (Nat.le_refl 5)) (fun i _ => rfl) (fun i _ => by rw [lyL_lay0])
  rw [lyL_lay0, sq_perm (ls_perm hI (by omega)) (ls_ltr hI (by omega))] at hv
  exact key np (Nat.le_refl _) _ v hv
theorem mI_letter (hI : mI z F) {c : Int} (hc : 97 ≤ c ∧ c ≤ 122) (h1 : z 1 < 8) : mI (gup z 1 (z 1 + 1)) (gup F 2 (gup (F 2) (z 1).toNat c)) := by
  obtain ⟨i0, i1, i3, i11, i22, iw, ip, inn, inm, ish⟩ := hI
  refine ⟨i0, by show 0 ≤ z 1 + 1 ∧ z 1 + 1 ≤ 8; omega, i3, i11, i22, fun t ht => ?_, ip, inn, inm, ish⟩
  have ht' : (t : Int) < z 1 + 1 := ht
  show 97 ≤ gup (F 2) (z 1).toNat c t ∧ gup (F 2) (z 1).toNat c t ≤ 122
  by_cases e : t = (z 1).toNat
  · rw [e, gup_eq]; exact hc
  · rw [gup_ne e]; exact iw t (by omega)
theorem mI_pass (hI : mI z F) {d : Int} (hd : 1 ≤ d) (h1 : z 0 + d ≤ 10000) : mI (gup z 0 (z 0 + d)) F := by
  obtain ⟨i0, i1, i3, i11, i22, iw, ip, inn, inm, ish⟩ := hI
  refine ⟨by show 0 ≤ z 0 + d ∧ z 0 + d ≤ 10000; omega, i1, i3, i11, i22, iw, ip, inn, fun i j hi hj => ?_, ish⟩
  have := inm i j hi hj
  exact ⟨this.1, by show _ ≤ z 0 + d; omega, this.2.2⟩
theorem mI_place (hI : mI z F) {a b r : Int} (ha : -180 ≤ a ∧ a ≤ 179) (hb : -60 ≤ b ∧ b ≤ 60) (hr : 1 ≤ r ∧ r ≤ 5) (h3 : z 3 < 14) : mI (gup z 3 (z 3 + 1)) (gup (gup (gup F 4 (gup (F 4) (z 3).toNat a)) 5 (gup (F 5) (z 3).toNat b)) 6 (gup (F 6) (z 3).toNat r)) := by
  obtain ⟨i0, i1, i3, i11, i22, iw, ip, inn, inm, ish⟩ := hI
  refine ⟨i0, i1, by show 0 ≤ z 3 + 1 ∧ z 3 + 1 ≤ 14; omega, i11, i22, iw, fun i hi => ?_, fun i hi => ?_, inm, ish⟩
  · have hi' : (i : Int) < z 3 + 1 := hi
    show -180 ≤ gup (F 4) (z 3).toNat a i ∧ gup (F 4) (z 3).toNat a i ≤ 179 ∧ -60 ≤ gup (F 5) (z 3).toNat b i ∧ gup (F 5) (z 3).toNat b i ≤ 60 ∧ 1 ≤ gup (F 6) (z 3).toNat r i ∧ gup (F 6) (z 3).toNat r i ≤ 5
    by_cases e : i = (z 3).toNat
    · rw [e, gup_eq, gup_eq, gup_eq]; omega
    · rw [gup_ne e, gup_ne e, gup_ne e]; exact ip i (by omega)
  · have := inn i hi
    exact ⟨this.1, this.2.1, fun q => this.2.2 (by have q' : z 3 + 1 ≤ (i : Int) := q; omega)⟩
theorem mI_sheet (hI : mI z F) {a b r : Int} (ha : -180 ≤ a ∧ a ≤ 150) (hb : -60 ≤ b ∧ b ≤ 41) (hr : r = 0 ∨ r = 1) (h3 : z 11 < 4) : mI (gup z 11 (z 11 + 1)) (gup (gup (gup F 12 (gup (F 12) (z 11).toNat a)) 13 (gup (F 13) (z 11).toNat b)) 14 (gup (F 14) (z 11).toNat r)) := by
  obtain ⟨i0, i1, i3, i11, i22, iw, ip, inn, inm, ish⟩ := hI
  refine ⟨i0, i1, i3, by show 0 ≤ z 11 + 1 ∧ z 11 + 1 ≤ 4; omega, i22, iw, ip, inn, inm, fun i hi => ?_⟩
  have hi' : (i : Int) < z 11 + 1 := hi
  show -180 ≤ gup (F 12) (z 11).toNat a i ∧ gup (F 12) (z 11).toNat a i ≤ 150 ∧ -60 ≤ gup (F 13) (z 11).toNat b i ∧ gup (F 13) (z 11).toNat b i ≤ 41 ∧ (gup (F 14) (z 11).toNat r i = 0 ∨ gup (F 14) (z 11).toNat r i = 1)
  by_cases e : i = (z 11).toNat
  · rw [e, gup_eq, gup_eq, gup_eq]; omega
  · rw [gup_ne e, gup_ne e, gup_ne e]; exact ish i (by omega)
theorem mI_print (hI : mI z F) (h22 : z 22 < 5) : mI (gup z 22 (z 22 + 1)) (prF z F) := by
  have hle : lE F (prF z F) := fun k hk => by
    unfold prF
    rw [gup_ne (by omega), gup_ne (by omega), gup_ne (by omega), gup_ne (by omega)]
  have hI2 := mI_fc hle hI
  obtain ⟨i0, i1, i3, i11, i22, iw, ip, inn, inm, ish⟩ := hI2
  exact ⟨i0, i1, i3, i11, by show 0 ≤ z 22 + 1 ∧ z 22 + 1 ≤ 5; omega, iw, ip, inn, inm, ish⟩
/-- a name of today is that of every later day, while none is told -/
theorem nmR_pass {i : Nat} {d d' : Int} : ∀ n : Nat, (∀ j : Nat, j < n → F 8 (6 * i + j) ≤ d ∧ F 8 (6 * i + j) ≤ d') → nmR F d i n = nmR F d' i n
  | 0, _ => rfl
  | n + 1, h => by
    rw [nmR_s, nmR_s, if_pos (h n (by omega)).1, if_pos (h n (by omega)).2]
theorem nmOf_pass (hI : mI z F) {i : Nat} (hi : i < 14) {d : Int} (hd : z 0 ≤ d) : nmOf F d i = nmOf F (z 0) i := by
  have inm := hI.2.2.2.2.2.2.2.2.1
  exact nmR_pass _ (fun j hj => by have := inm i j hi (by omega); omega)
theorem wR_pass {i : Nat} {d d' : Int} {sp : Nat → Nat} : ∀ n : Nat, (∀ j : Nat, j < n → F 8 (6 * i + j) ≤ d ∧ F 8 (6 * i + j) ≤ d') → wR (fun j => F 8 (6 * i + j)) sp d n = wR (fun j => F 8 (6 * i + j)) sp d' n
  | 0, _ => rfl
  | n + 1, h => by
    rw [wR_s, wR_s, if_pos (h n (by omega)).1, if_pos (h n (by omega)).2]
theorem wdA_pass (hI : mI z F) {ad : Tg → Nat} {i : Nat} (hi : i < 14) {d : Int} (hd : z 0 ≤ d) : wdA ad F d i = wdA ad F (z 0) i := by
  have inm := hI.2.2.2.2.2.2.2.2.1
  exact wR_pass _ (fun j hj => by have := inm i j hi (by omega); omega)
end
theorem lsI_congr {F F' : Nat → Nat → Int} {k : Nat} {wo wo' : Nat → Option Nat} {h : Int} {A : List Nat} : ∀ n : Nat, (∀ i, i < n → F' 6 i = F 6 i ∧ cN F' k i = cN F k i ∧ (wo' i).isSome = (wo i).isSome) → lsI F' k wo' h A n = lsI F k wo h A n
  | 0, _ => rfl
  | n + 1, hq => by
    have h1 := hq n (by omega)
    rw [lsI_s, lsI_s, lsI_congr n (fun i hi => hq i (by omega))]
    unfold lsC
    rw [h1.1, h1.2.1, h1.2.2]
theorem lsU_congr {F F' : Nat → Nat → Int} {k np : Nat} {wo wo' : Nat → Option Nat} (h : ∀ i, i < np → F' 6 i = F 6 i ∧ cN F' k i = cN F k i ∧ (wo' i).isSome = (wo i).isSome) : ∀ m : Nat, lsU F' k wo' np m = lsU F k wo np m
  | 0 => rfl
  | m + 1 => by rw [lsU_s, lsU_s, lsU_congr h m, lsI_congr np h]
theorem lyL_day {F : Nat → Nat → Int} {s : Nat} {d d' : Int} : ∀ (L : List Nat) (st : (Nat → Int) × (Nat → Int)), (∀ i ∈ L, nmOf F d i = nmOf F d' i) → lyL F s d st L = lyL F s d' st L
  | [], _, _ => rfl
  | i :: L, st, h => by
    show lyL F s d (lay1 F s d i st) L = lyL F s d' (lay1 F s d' i st) L
    have e : lay1 F s d i st = lay1 F s d' i st := by unfold lay1; rw [h i List.mem_cons_self]
    rw [e, lyL_day L _ (fun j hj => h j (List.mem_cons_of_mem _ hj))]
theorem lay0_pass {z : Nat → Int} {F : Nat → Nat → Int} (hI : mI z F) {s np : Nat} (hn : np ≤ 14) {d : Int} (hd : z 0 ≤ d) : lay0 F s np d = lay0 F s np (z 0) := by
  rw [← lyL_lay0 (ad := fun _ => 0), ← lyL_lay0 (ad := fun _ => 0)]
  rw [lsU_congr (F' := F) (F := F) (wo := wdA (fun _ => 0) F (z 0)) (fun i hi => ⟨rfl, rfl, by rw [wdA_pass hI (by omega) hd]⟩)]
  exact lyL_day _ _ (fun i hi => nmOf_pass hI (by have := ((lsU_mem 5 (Nat.le_refl 5)).mp hi).1; omega) hd)
end P1
