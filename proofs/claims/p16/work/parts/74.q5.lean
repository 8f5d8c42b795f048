/-! p16: what the class's changes leave of what always holds, and of the law's numbers beside it -/
section Q5
/-- the law's numbers beside the rows -/
def Lw4 (z : Nat → Int) (F : Nat → Nat → Int) (G P Q E : Nat → Int) : Prop := LwG z G ∧ LwP z F P ∧ LwQ z F Q ∧ LwE z F E
section
variable {z : Nat → Int} {F : Nat → Nat → Int} {G P Q E : Nat → Int}
theorem LwP.cc {z' : Nat → Int} {F' : Nat → Nat → Int} (h : LwP z F P) (h0 : z' 0 = z 0) (h3 : z' 3 = z 3) (h4 : F' 4 = F 4) (h5 : F' 5 = F 5) (h6 : F' 6 = F 6) (h7 : F' 7 = F 7) (h8 : F' 8 = F 8) (h9 : F' 9 = F 9) : LwP z' F' P := fun i hi => by
  obtain ⟨a, b, c⟩ := h i hi
  exact ⟨by rw [h7]; exact a, by rw [h0, lnF_cc h7 h8 h9]; exact b, fun q => by rw [h4, h5, h6]; exact c (by rw [← h3]; exact q)⟩
theorem LwQ.cc {z' : Nat → Int} {F' : Nat → Nat → Int} (h : LwQ z F Q) (h11 : z' 11 = z 11) (h12 : F' 12 = F 12) (h13 : F' 13 = F 13) (h14 : F' 14 = F 14) : LwQ z' F' Q := fun s hs => by
  rw [h12, h13, h14]
  exact h s (by rw [← h11]; exact hs)
theorem ci_letter (hI : mI z F) (hE : mE z F) (hQ : eQ z F) (h10 : z 3 ≤ 10) {c : Int} (hc : 97 ≤ c ∧ c ≤ 122) (h1 : z 1 < 8) : mI (gup z 1 (z 1 + 1)) (gup F 2 (gup (F 2) (z 1).toNat c)) ∧ mE (gup z 1 (z 1 + 1)) (gup F 2 (gup (F 2) (z 1).toNat c)) ∧ eQ (gup z 1 (z 1 + 1)) (gup F 2 (gup (F 2) (z 1).toNat c)) ∧ gup z 1 (z 1 + 1) 3 ≤ 10 :=
  ⟨mI_letter hI hc h1, (ed_letter hI hE hQ).1, (ed_letter hI hE hQ).2, h10⟩
theorem lw_letter (hI : mI z F) (hE : mE z F) (hQ : eQ z F) (h : Lw4 z F G P Q E) {X : Nat → Int} : Lw4 (gup z 1 (z 1 + 1)) (gup F 2 X) (gup G 4 (z 1 + 1)) P Q E := by
  obtain ⟨⟨g0, g1, g2, g3, g4, g5⟩, hP, hQ9, hE9⟩ := h
  have i3 := hI.2.2.1
  have i11 := hI.2.2.2.1
  have i22 := hI.2.2.2.2.1
  refine ⟨⟨?_, ?_, ?_, ?_, ?_, ?_⟩, hP.cc rfl rfl rfl rfl rfl rfl rfl rfl, hQ9.cc rfl rfl rfl rfl, hE9.agr (ns := (z 11).toNat) (ne := (z 22).toNat) hI hE hQ agr_letter (by omega) (by omega) (Int.le_refl _) rfl⟩
  · rw [gup_ne (by decide)]; exact g0
  · rw [gup_ne (by decide)]; exact g1
  · rw [gup_ne (by decide)]; exact g2
  · rw [gup_ne (by decide)]; exact g3
  · rw [gup_eq]; rfl
  · rw [gup_ne (by decide)]; exact g5
theorem ci_pass (hI : mI z F) (hE : mE z F) (hQ : eQ z F) (h10 : z 3 ≤ 10) {d : Int} (hd : 1 ≤ d) (h1 : z 0 + d ≤ 10000) : mI (gup z 0 (z 0 + d)) F ∧ mE (gup z 0 (z 0 + d)) F ∧ eQ (gup z 0 (z 0 + d)) F ∧ gup z 0 (z 0 + d) 3 ≤ 10 :=
  ⟨mI_pass hI hd h1, hE, hQ, h10⟩
theorem lw_pass (hI : mI z F) (h : Lw4 z F G P Q E) {d : Int} (hd : 1 ≤ d) : Lw4 (gup z 0 (z 0 + d)) F (gup G 3 (z 0 + d)) P Q E := by
  obtain ⟨⟨g0, g1, g2, g3, g4, g5⟩, hP, hQ9, hE9⟩ := h
  refine ⟨⟨?_, ?_, ?_, ?_, ?_, ?_⟩, fun i hi => ?_, hQ9, hE9⟩
  · rw [gup_ne (by decide)]; exact g0
  · rw [gup_ne (by decide)]; exact g1
  · rw [gup_ne (by decide)]; exact g2
  · rw [gup_eq]; rfl
  · rw [gup_ne (by decide)]; exact g4
  · rw [gup_ne (by decide)]; exact g5
  · obtain ⟨a, b, c⟩ := hP i hi
    refine ⟨a, ?_, c⟩
    show P (5 * i + 4) = lnF F (z 0 + d) i
    rw [lnF_pass hI (by omega) (by omega)]
    exact b
theorem ci_place (hI : mI z F) (hE : mE z F) (hQ : eQ z F) (h10 : z 3 < 10) {a b c : Int} (ha : -180 ≤ a ∧ a ≤ 179) (hb : -60 ≤ b ∧ b ≤ 60) (hc : 1 ≤ c ∧ c ≤ 5) : mI (gup z 3 (z 3 + 1)) (plF z F a b c) ∧ mE (gup z 3 (z 3 + 1)) (plF z F a b c) ∧ eQ (gup z 3 (z 3 + 1)) (plF z F a b c) ∧ gup z 3 (z 3 + 1) 3 ≤ 10 :=
  ⟨mI_place hI ha hb hc (by omega), (ed_place hI hE hQ).1, (ed_place hI hE hQ).2, by rw [gup_eq]; omega⟩
theorem lw_place (hI : mI z F) (hE : mE z F) (hQ : eQ z F) (h : Lw4 z F G P Q E) {a b c : Int} {n : Nat} (hn : z 3 = (n : Int)) (h10 : n < 10) : Lw4 (gup z 3 (z 3 + 1)) (plF z F a b c) (gup G 0 ((n : Int) + 1)) (gup (gup (gup P (5 * n) a) (5 * n + 1) b) (5 * n + 2) c) Q E := by
  obtain ⟨⟨g0, g1, g2, g3, g4, g5⟩, hP, hQ9, hE9⟩ := h
  have i3 := hI.2.2.1
  have i11 := hI.2.2.2.1
  have i22 := hI.2.2.2.2.1
  have en : (z 3).toNat = n := by omega
  have f7 : plF z F a b c 7 = F 7 := plF_ne (by decide)
  have f8 : plF z F a b c 8 = F 8 := plF_ne (by decide)
  have f9 : plF z F a b c 9 = F 9 := plF_ne (by decide)
  refine ⟨⟨?_, ?_, ?_, ?_, ?_, ?_⟩, fun i hi => ?_, hQ9.cc rfl (plF_ne (by decide)) (plF_ne (by decide)) (plF_ne (by decide)), hE9.agr (ns := (z 11).toNat) (ne := (z 22).toNat) hI hE hQ agr_place (by omega) (by omega) (Int.le_refl _) rfl⟩
  · rw [gup_eq, ← hn]; rfl
  · rw [gup_ne (by decide)]; exact g1
  · rw [gup_ne (by decide)]; exact g2
  · rw [gup_ne (by decide)]; exact g3
  · rw [gup_ne (by decide)]; exact g4
  · rw [gup_ne (by decide)]; exact g5
  · obtain ⟨a1, b1, c1⟩ := hP i hi
    refine ⟨?_, ?_, fun q => ?_⟩
    · rw [gup_ne (by omega), gup_ne (by omega), gup_ne (by omega), f7]; exact a1
    · rw [gup_ne (by omega), gup_ne (by omega), gup_ne (by omega), lnF_cc f7 f8 f9]; exact b1
    · have q2 : (i : Int) < z 3 + 1 := q
      have e4 : plF z F a b c 4 = gup (F 4) n a := by rw [← en]; rfl
      have e5 : plF z F a b c 5 = gup (F 5) n b := by rw [← en]; rfl
      have e6 : plF z F a b c 6 = gup (F 6) n c := by rw [← en]; rfl
      rw [e4, e5, e6]
      by_cases e : i = n
      · subst e
        refine ⟨?_, ?_, ?_⟩
        · rw [gup_ne (by omega), gup_ne (by omega), gup_eq, gup_eq]
        · rw [gup_ne (by omega), gup_eq, gup_eq]
        · rw [gup_eq, gup_eq]
      · rw [gup_ne e, gup_ne e, gup_ne e]
        obtain ⟨c2, c3, c4⟩ := c1 (by omega)
        refine ⟨?_, ?_, ?_⟩
        · rw [gup_ne (by omega), gup_ne (by omega), gup_ne (by omega)]; exact c2
        · rw [gup_ne (by omega), gup_ne (by omega), gup_ne (by omega)]; exact c3
        · rw [gup_ne (by omega), gup_ne (by omega), gup_ne (by omega)]; exact c4
theorem ci_sheet (hI : mI z F) (hE : mE z F) (hQ : eQ z F) (h10 : z 3 ≤ 10) (h4 : z 11 < 4) {a b c : Int} (ha : -180 ≤ a ∧ a ≤ 150) (hb : -60 ≤ b ∧ b ≤ 41) (hc : 0 ≤ c ∧ c ≤ 1) : mI (gup z 11 (z 11 + 1)) (shF z F a b c) ∧ mE (gup z 11 (z 11 + 1)) (shF z F a b c) ∧ eQ (gup z 11 (z 11 + 1)) (shF z F a b c) ∧ gup z 11 (z 11 + 1) 3 ≤ 10 :=
  ⟨mI_sheet hI ha hb (by omega) h4, (ed_sheet hI hE hQ).1, (ed_sheet hI hE hQ).2, h10⟩
theorem lw_sheet (hI : mI z F) (hE : mE z F) (hQ : eQ z F) (h : Lw4 z F G P Q E) {a b c : Int} {n : Nat} (hn : z 11 = (n : Int)) : Lw4 (gup z 11 (z 11 + 1)) (shF z F a b c) (gup G 1 ((n : Int) + 1)) P (gup (gup (gup Q (3 * n) a) (3 * n + 1) b) (3 * n + 2) c) E := by
  obtain ⟨⟨g0, g1, g2, g3, g4, g5⟩, hP, hQ9, hE9⟩ := h
  have i3 := hI.2.2.1
  have i11 := hI.2.2.2.1
  have i22 := hI.2.2.2.2.1
  have en : (z 11).toNat = n := by omega
  refine ⟨⟨?_, ?_, ?_, ?_, ?_, ?_⟩, hP.cc rfl rfl (shF_ne (by decide)) (shF_ne (by decide)) (shF_ne (by decide)) (shF_ne (by decide)) (shF_ne (by decide)) (shF_ne (by decide)), fun s hs => ?_, hE9.agr (ns := (z 11).toNat) (ne := (z 22).toNat) hI hE hQ agr_sheet (by omega) (by omega) (by show z 11 ≤ z 11 + 1; omega) rfl⟩
  · rw [gup_ne (by decide)]; exact g0
  · rw [gup_eq, ← hn]; rfl
  · rw [gup_ne (by decide)]; exact g2
  · rw [gup_ne (by decide)]; exact g3
  · rw [gup_ne (by decide)]; exact g4
  · rw [gup_ne (by decide)]; exact g5
  · have q2 : (s : Int) < z 11 + 1 := hs
    have e4 : shF z F a b c 12 = gup (F 12) n a := by rw [← en]; rfl
    have e5 : shF z F a b c 13 = gup (F 13) n b := by rw [← en]; rfl
    have e6 : shF z F a b c 14 = gup (F 14) n c := by rw [← en]; rfl
    rw [e4, e5, e6]
    by_cases e : s = n
    · subst e
      refine ⟨?_, ?_, ?_⟩
      · rw [gup_ne (by omega), gup_ne (by omega), gup_eq, gup_eq]
      · rw [gup_ne (by omega), gup_eq, gup_eq]
      · rw [gup_eq, gup_eq]
    · rw [gup_ne e, gup_ne e, gup_ne e]
      obtain ⟨c2, c3, c4⟩ := hQ9 s (by omega)
      refine ⟨?_, ?_, ?_⟩
      · rw [gup_ne (by omega), gup_ne (by omega), gup_ne (by omega)]; exact c2
      · rw [gup_ne (by omega), gup_ne (by omega), gup_ne (by omega)]; exact c3
      · rw [gup_ne (by omega), gup_ne (by omega), gup_ne (by omega)]; exact c4
theorem ci_name (hI : mI z F) (hE : mE z F) (hQ : eQ z F) (h10 : z 3 ≤ 10) {i : Nat} (hi : (i : Int) < z 3) (h1 : 0 < z 1) (h6 : F 7 i < 6) : mI (gup z 1 0) (namF z F i) ∧ mE (gup z 1 0) (namF z F i) ∧ eQ (gup z 1 0) (namF z F i) ∧ gup z 1 0 3 ≤ 10 :=
  ⟨mI_name hI hi h1 h6 rfl rfl rfl rfl rfl, (ed_name hI hE hQ hi h6).1, (ed_name hI hE hQ hi h6).2, h10⟩
theorem lw_name (hI : mI z F) (hE : mE z F) (hQ : eQ z F) (h : Lw4 z F G P Q E) {i : Nat} (hi : (i : Int) < z 3) (h10 : z 3 ≤ 10) (h6 : F 7 i < 6) : Lw4 (gup z 1 0) (namF z F i) (gup G 4 0) (gup (gup P (5 * i + 3) (F 7 i + 1)) (5 * i + 4) (z 1)) Q E := by
  obtain ⟨⟨g0, g1, g2, g3, g4, g5⟩, hP, hQ9, hE9⟩ := h
  have i3 := hI.2.2.1
  have i11 := hI.2.2.2.1
  have i22 := hI.2.2.2.2.1
  refine ⟨⟨?_, ?_, ?_, ?_, ?_, ?_⟩, fun k hk => ?_, hQ9.cc rfl rfl rfl rfl, hE9.agr (ns := (z 11).toNat) (ne := (z 22).toNat) hI hE hQ (agr_name hI hi h6) (by omega) (by omega) (Int.le_refl _) rfl⟩
  · rw [gup_ne (by decide)]; exact g0
  · rw [gup_ne (by decide)]; exact g1
  · rw [gup_ne (by decide)]; exact g2
  · rw [gup_ne (by decide)]; exact g3
  · rw [gup_eq]; rfl
  · rw [gup_ne (by decide)]; exact g5
  · obtain ⟨a1, b1, c1⟩ := hP k hk
    show _ = _ ∧ _ = lnF (namF z F i) (z 0) k ∧ ((k : Int) < z 3 → _ = F 4 k ∧ _ = F 5 k ∧ _ = F 6 k)
    by_cases e : k = i
    · subst e
      refine ⟨?_, ?_, fun q => ?_⟩
      · rw [gup_ne (by omega), gup_eq]; exact gup_eq.symm
      · rw [gup_eq, nam_ln hI (by omega) h6]
      · rw [gup_ne (by omega), gup_ne (by omega), gup_ne (by omega), gup_ne (by omega), gup_ne (by omega), gup_ne (by omega)]
        exact c1 q
    · have h7 := nam_ne (on := z 0) hI hi (k := k) (by omega) e h6
      refine ⟨?_, ?_, fun q => ?_⟩
      · rw [gup_ne (by omega), gup_ne (by omega), h7.2]; exact a1
      · rw [gup_ne (by omega), gup_ne (by omega), h7.1]; exact b1
      · rw [gup_ne (by omega), gup_ne (by omega), gup_ne (by omega), gup_ne (by omega), gup_ne (by omega), gup_ne (by omega)]
        exact c1 q
theorem prF_lt {k : Nat} (h : k < 23) : prF z F k = F k := by
  unfold prF
  rw [gup_ne (by omega), gup_ne (by omega), gup_ne (by omega), gup_ne (by omega)]
theorem ci_print (hI : mI z F) (hE : mE z F) (hQ : eQ z F) (h10 : z 3 ≤ 10) (h5 : z 22 < 5) : mI (gup z 22 (z 22 + 1)) (prF z F) ∧ mE (gup z 22 (z 22 + 1)) (prF z F) ∧ eQ (gup z 22 (z 22 + 1)) (prF z F) ∧ gup z 22 (z 22 + 1) 3 ≤ 10 :=
  ⟨mI_print hI h5, (ed_print hI hE hQ).1, (ed_print hI hE hQ).2, h10⟩
theorem lw_print (hI : mI z F) (hE : mE z F) (hQ : eQ z F) (h : Lw4 z F G P Q E) {n t : Nat} (hn : z 22 = (n : Int)) (ht : (t : Int) < z 11) {a c : Int} (ha : 0 ≤ a ∧ a ≤ 23) (hc : 0 ≤ c ∧ c ≤ 39) : Lw4 (gup z 22 (z 22 + 1)) (prF z F) (gup G 2 ((n : Int) + 1)) P Q (gup (gup (gup (gup E (4 * n) (t : Int)) (4 * n + 1) a) (4 * n + 2) c) (4 * n + 3) ((lay0 F t (z 3).toNat (z 0)).2 (40 * a + c).toNat)) := by
  obtain ⟨⟨g0, g1, g2, g3, g4, g5⟩, hP, hQ9, hE9⟩ := h
  have i3 := hI.2.2.1
  have i11 := hI.2.2.2.1
  have i22 := hI.2.2.2.2.1
  have en : (z 22).toNat = n := by omega
  refine ⟨⟨?_, ?_, ?_, ?_, ?_, ?_⟩, hP.cc rfl rfl (prF_lt (by decide)) (prF_lt (by decide)) (prF_lt (by decide)) (prF_lt (by decide)) (prF_lt (by decide)) (prF_lt (by decide)), hQ9.cc rfl (prF_lt (by decide)) (prF_lt (by decide)) (prF_lt (by decide)), fun e he => ?_⟩
  · rw [gup_ne (by decide)]; exact g0
  · rw [gup_ne (by decide)]; exact g1
  · rw [gup_eq, ← hn]; rfl
  · rw [gup_ne (by decide)]; exact g3
  · rw [gup_ne (by decide)]; exact g4
  · rw [gup_ne (by decide)]; exact g5
  · have he2 : (e : Int) < z 22 + 1 := he
    show (0 ≤ _ ∧ _ < z 11) ∧ _
    by_cases q : e = n
    · subst q
      have e0 : (gup (gup (gup (gup E (4 * e) (t : Int)) (4 * e + 1) a) (4 * e + 2) c) (4 * e + 3) ((lay0 F t (z 3).toNat (z 0)).2 (40 * a + c).toNat)) (4 * e) = (t : Int) := by rw [gup_ne (by omega), gup_ne (by omega), gup_ne (by omega), gup_eq]
      have e1 : (gup (gup (gup (gup E (4 * e) (t : Int)) (4 * e + 1) a) (4 * e + 2) c) (4 * e + 3) ((lay0 F t (z 3).toNat (z 0)).2 (40 * a + c).toNat)) (4 * e + 1) = a := by rw [gup_ne (by omega), gup_ne (by omega), gup_eq]
      have e2 : (gup (gup (gup (gup E (4 * e) (t : Int)) (4 * e + 1) a) (4 * e + 2) c) (4 * e + 3) ((lay0 F t (z 3).toNat (z 0)).2 (40 * a + c).toNat)) (4 * e + 2) = c := by rw [gup_ne (by omega), gup_eq]
      rw [e0, e1, e2]
      refine ⟨⟨by omega, ht⟩, ha, hc, ?_⟩
      rw [gup_eq, ← en, Int.toNat_natCast, pv_new hI ht]
    · have h1 := hE9 e (by omega)
      have h2 := (agr_pr hI).o_pv hI hE hQ (e := e) (t := (E (4 * e)).toNat) (r := E (4 * e + 1)) (c := E (4 * e + 2)) (by omega) (by omega) (by omega) (by omega)
      rw [gup_ne (by omega), gup_ne (by omega), gup_ne (by omega), gup_ne (by omega), gup_ne (by omega), gup_ne (by omega), gup_ne (by omega), gup_ne (by omega), gup_ne (by omega), gup_ne (by omega), gup_ne (by omega), gup_ne (by omega), gup_ne (by omega), gup_ne (by omega), gup_ne (by omega), gup_ne (by omega), h2]
      exact h1
theorem lw_five (h : Lw4 z F G P Q E) : Lw4 z F (gup G 5 (G 5 + 1)) P Q E := by
  obtain ⟨⟨g0, g1, g2, g3, g4, g5⟩, hP, hQ9, hE9⟩ := h
  refine ⟨⟨?_, ?_, ?_, ?_, ?_, ?_⟩, hP, hQ9, hE9⟩
  · rw [gup_ne (by decide)]; exact g0
  · rw [gup_ne (by decide)]; exact g1
  · rw [gup_ne (by decide)]; exact g2
  · rw [gup_ne (by decide)]; exact g3
  · rw [gup_ne (by decide)]; exact g4
  · rw [gup_eq]; omega
end
end Q5
