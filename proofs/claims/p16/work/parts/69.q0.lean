/-! p16: what stays of the class's state; the editions; what the law keeps from act to act -/
section Q0
theorem lw_at {w : Cond} (i : Nat) (h : tables_1[i]? = some w) : w ∈ lw_tbl := by unfold lw_tbl; exact List.mem_append_right _ (List.mem_of_getElem? h)
/-- the class's state looks at its own names alone -/
theorem ST.fr {ad : Tg → Nat} {z : Nat → Int} {F : Nat → Nat → Int} {ct ct' : Tg → Option gC} (h : ST ad z F ct) (hc : ∀ t : Tg, 2 ≤ t.1 → t.1 < 24 → ct' t = ct t) : ST ad z F ct' := by
  obtain ⟨h1, ⟨ml, B, b1, b2, b3⟩, h3, h4, h5, h6, h7, h8⟩ := h
  have e : ∀ a b c : Nat, 2 ≤ a → a < 24 → ct' (a, b, c) = ct (a, b, c) := fun a b c h1 h2 => hc (a, b, c) h1 h2
  refine ⟨by rw [e _ _ _ (by decide) (by decide)]; exact h1, ⟨ml, B, by rw [e _ _ _ (by decide) (by decide)]; exact b1, by rw [e _ _ _ (by decide) (by decide)]; exact b2, b3⟩, by rw [e _ _ _ (by decide) (by decide)]; exact h3, by rw [e _ _ _ (by decide) (by decide)]; exact h4, by rw [e _ _ _ (by decide) (by decide)]; exact h5, fun i hi => (h6 i hi).fr (fun a b c ha hb => e a b c (by omega) (by omega)), fun k hk => ?_, fun e9 he => (h8 e9 he).cg (fun a b ha hb => ⟨e a e9 b (by omega) (by omega), rfl⟩) ⟨rfl, rfl⟩ (fun _ _ => rfl)⟩
  obtain ⟨ah, N, T, hs⟩ := h7 k hk
  exact ⟨ah, N, T, hs.fr (fun t ht => by obtain ⟨a, b, c⟩ := t; have q1 := ht.1; have q2 := ht.2.1; simp only at q1 q2; exact e a b c (by omega) (by omega))⟩
section
variable {z : Nat → Int} {F : Nat → Nat → Int}
theorem ed_letter (hI : mI z F) (hE : mE z F) (hQ : eQ z F) {v : Int} {X : Nat → Int} : mE (gup z 1 v) (gup F 2 X) ∧ eQ (gup z 1 v) (gup F 2 X) := by
  have i3 := hI.2.2.1
  have i11 := hI.2.2.2.1
  have i22 := hI.2.2.2.2.1
  have ha : agr (z 3).toNat (z 11).toNat (z 22).toNat F (gup F 2 X) := agr_letter
  exact ⟨ha.o_mE hI hQ hE (by omega) (by omega) (by omega) (Int.le_refl _) (Int.le_refl _) rfl, ha.o_eQ hI hQ hE (by omega) (by omega) (by omega) rfl (fun _ _ => Int.le_refl _)⟩
theorem ed_place (hI : mI z F) (hE : mE z F) (hQ : eQ z F) {a b r : Int} : mE (gup z 3 (z 3 + 1)) (plF z F a b r) ∧ eQ (gup z 3 (z 3 + 1)) (plF z F a b r) := by
  have i3 := hI.2.2.1
  have i11 := hI.2.2.2.1
  have i22 := hI.2.2.2.2.1
  have ha : agr (z 3).toNat (z 11).toNat (z 22).toNat F (plF z F a b r) := agr_place
  exact ⟨ha.o_mE hI hQ hE (by omega) (by omega) (by omega) (by show z 3 ≤ z 3 + 1; omega) (Int.le_refl _) rfl, ha.o_eQ hI hQ hE (by omega) (by omega) (by omega) rfl (fun _ _ => by rw [plF_ne (k := 7) (by decide)]; exact Int.le_refl _)⟩
theorem ed_sheet (hI : mI z F) (hE : mE z F) (hQ : eQ z F) {a b r : Int} : mE (gup z 11 (z 11 + 1)) (shF z F a b r) ∧ eQ (gup z 11 (z 11 + 1)) (shF z F a b r) := by
  have i3 := hI.2.2.1
  have i11 := hI.2.2.2.1
  have i22 := hI.2.2.2.2.1
  have ha : agr (z 3).toNat (z 11).toNat (z 22).toNat F (shF z F a b r) := agr_sheet
  exact ⟨ha.o_mE hI hQ hE (by omega) (by omega) (by omega) (Int.le_refl _) (by show z 11 ≤ z 11 + 1; omega) rfl, ha.o_eQ hI hQ hE (by omega) (by omega) (by omega) rfl (fun _ _ => by rw [shF_ne (k := 7) (by decide)]; exact Int.le_refl _)⟩
theorem ed_name (hI : mI z F) (hE : mE z F) (hQ : eQ z F) {i : Nat} (hi : (i : Int) < z 3) (h6 : F 7 i < 6) : mE (gup z 1 0) (namF z F i) ∧ eQ (gup z 1 0) (namF z F i) := by
  have i3 := hI.2.2.1
  have i11 := hI.2.2.2.1
  have i22 := hI.2.2.2.2.1
  have ha : agr (z 3).toNat (z 11).toNat (z 22).toNat F (namF z F i) := agr_name hI hi h6
  refine ⟨ha.o_mE hI hQ hE (by omega) (by omega) (by omega) (Int.le_refl _) (Int.le_refl _) rfl, ha.o_eQ hI hQ hE (by omega) (by omega) (by omega) rfl (fun j _ => ?_)⟩
  show F 7 j ≤ gup (F 7) i (F 7 i + 1) j
  by_cases e : j = i
  · rw [e, gup_eq]; omega
  · rw [gup_ne e]; exact Int.le_refl _
/-- a name that stands lies within the sheet -/
theorem ly_fit {s : Nat} {on : Int} {i : Nat} (L : List Nat) : ∀ (st : (Nat → Int) × (Nat → Int)), (st.1 i = -1 ∨ fitB (rowAtN (qRow F s i) (st.1 i)) (colAtN (qCol F s i) (st.1 i) (nmn F on i)) (nmn F on i) = true) → ((lyL F s on st L).1 i = -1 ∨ fitB (rowAtN (qRow F s i) ((lyL F s on st L).1 i)) (colAtN (qCol F s i) ((lyL F s on st L).1 i) (nmn F on i)) (nmn F on i) = true) := by
  induction L with
  | nil =>
    intro st h
    have e : lyL F s on st [] = st := by unfold lyL; rw [List.foldl_nil]
    rw [e]
    exact h
  | cons j L ih =>
    intro st h
    rw [lyL_cons]
    refine ih _ ?_
    by_cases e : i = j
    · subst e
      by_cases q : sideF st.2 (qRow F s i) (qCol F s i) (F 9 (nmOf F on i).toNat) = -1
      · have e1 : lay1 F s on i st = st := if_pos q
        rw [e1]; exact h
      · right
        have e1 : (lay1 F s on i st).1 i = sideF st.2 (qRow F s i) (qCol F s i) (F 9 (nmOf F on i).toNat) := by
          unfold lay1
          rw [if_neg q]
          exact gup_eq
        rw [e1]
        exact mayB_fit (sideF_may q)
    · rw [lay1_ne e]; exact h
theorem lay0_ed (hI : mI z F) {s np i : Nat} (hn : (np : Int) ≤ z 3) (hi : i < np) (h : (lay0 F s np (z 0)).1 i ≠ -1) : edOk F s i (nmOf F (z 0) i) ((lay0 F s np (z 0)).1 i) ∧ ∃ j : Nat, (j : Int) < F 7 i ∧ nmOf F (z 0) i = 6 * (i : Int) + j := by
  have i3 := hI.2.2.1
  have hL : i ∈ lsU F s (wdA (fun _ => 0) F (z 0)) np 5 := Classical.byContradiction (fun q => h (ls_out q))
  have hm := (lsU_mem 5 (Nat.le_refl 5)).mp hL
  have hw := hm.2.2.2.2
  rw [wdA_some] at hw
  have hnm : nmOf F (z 0) i ≠ -1 := of_decide_eq_true hw
  have hok := nm_ok hI (on := z 0) (i := i) (by omega) hnm
  have hsd := lay0_side (F := F) (s := s) (np := np) (on := z 0) (j := i)
  have hfit := ly_fit (F := F) (s := s) (on := z 0) (i := i) (lsU F s (wdA (fun _ => 0) F (z 0)) np 5) (fun _ => -1, dotP F s np) (Or.inl rfl)
  rw [lyL_lay0] at hfit
  obtain ⟨j, h1, h2, h3, h4⟩ := (nmOf_rng hI (on := z 0) (i := i) (by omega)).resolve_left hnm
  refine ⟨⟨by omega, hm.2.2.2.1, by omega, ⟨hok.2.2.1, hok.2.2.2.1⟩, hok.2.2.2.2, hfit.resolve_left h⟩, j, h2, h3⟩
theorem ed_print (hI : mI z F) (hE : mE z F) (hQ : eQ z F) : mE (gup z 22 (z 22 + 1)) (prF z F) ∧ eQ (gup z 22 (z 22 + 1)) (prF z F) := by
  have i3 := hI.2.2.1
  have i11 := hI.2.2.2.1
  have i22 := hI.2.2.2.2.1
  have ha := agr_pr hI
  have hle : lE F (prF z F) := fun k hk => by
    unfold prF
    rw [gup_ne (by omega), gup_ne (by omega), gup_ne (by omega), gup_ne (by omega)]
  have hE1 : mE z (prF z F) := ha.o_mE hI hQ hE (by omega) (by omega) (by omega) (Int.le_refl _) (Int.le_refl _) rfl
  have hQ1 : eQ z (prF z F) := ha.o_eQ hI hQ hE (by omega) (by omega) (by omega) rfl (fun _ _ => by rw [hle.at7]; exact Int.le_refl _)
  have v23 : prF z F 23 (z 22).toNat = z 3 := by show gup (F 23) (z 22).toNat (z 3) (z 22).toNat = z 3; rw [gup_eq]
  have v24 : prF z F 24 (z 22).toNat = z 11 := by show gup (F 24) (z 22).toNat (z 11) (z 22).toNat = z 11; rw [gup_eq]
  have v25 : ∀ i : Nat, (i : Int) < z 3 → prF z F 25 (14 * (z 22).toNat + i) = nmOf F (z 0) i := fun i hi => pr25_at _ (by omega)
  have v26 : ∀ s i : Nat, (s : Int) < z 11 → (i : Int) < z 3 → prF z F 26 (14 * (4 * (z 22).toNat + s) + i) = (lay0 F s (z 3).toNat (z 0)).1 i := fun s i hs hi => pr26_at (by omega) (by omega) _ (by omega)
  constructor
  · intro e he
    have he2 : (e : Int) < z 22 + 1 := he
    by_cases q : (e : Int) < z 22
    · exact hE1 e q
    · have e1 : e = (z 22).toNat := by omega
      rw [e1, v23, v24]
      refine ⟨i3.1, Int.le_refl _, i11.1, Int.le_refl _, fun s i hs hi => ?_⟩
      rw [v25 i hi, v26 s i hs hi]
      by_cases h : (lay0 F s (z 3).toNat (z 0)).1 i = -1
      · exact Or.inl h
      · right
        have := (lay0_ed hI (s := s) (np := (z 3).toNat) (by omega) (by omega) h).1
        obtain ⟨a1, a2, a3, a4, a5, a6⟩ := this
        exact ⟨a1, by rw [qOn_c hle]; exact a2, a3, by rw [hle.at9]; exact a4, by rw [hle.at9, hle.at10]; exact a5, by rw [hle.at9, qRow_c hle, qCol_c hle]; exact a6⟩
  · intro e s i he hs hi hne
    have he2 : (e : Int) < z 22 + 1 := he
    by_cases q : (e : Int) < z 22
    · exact hQ1 e s i q hs hi hne
    · have e1 : e = (z 22).toNat := by omega
      rw [e1] at hs hi hne ⊢
      rw [v24] at hs
      rw [v23] at hi
      rw [v26 s i hs hi] at hne
      rw [v25 i hi, hle.at7]
      exact (lay0_ed hI (s := s) (np := (z 3).toNat) (by omega) (by omega) hne).2
end
theorem cl16 : Cond.classLink RL 16 "java/lang/IllegalArgumentException" ∈ gwA := gwA_at 374 (by decide +kernel) rfl
theorem ca_iae : Cond.castable "java/lang/IllegalArgumentException" "java/lang/IllegalArgumentException" ∈ lw_tbl := lw_at 384 (by decide +kernel)
theorem cl19 : Cond.classLink RL 19 "java/lang/IllegalStateException" ∈ gwA := gwA_at 223 (by decide +kernel) rfl
theorem ca_ise : Cond.castable "java/lang/IllegalStateException" "java/lang/IllegalStateException" ∈ lw_tbl := lw_at 230 (by decide +kernel)
theorem cl30 : Cond.classLink RL 30 "java/lang/IndexOutOfBoundsException" ∈ gwA := gwA_at 110 (by decide +kernel) rfl
theorem ca_iob : Cond.castable "java/lang/IndexOutOfBoundsException" "java/lang/IndexOutOfBoundsException" ∈ lw_tbl := lw_at 125 (by decide +kernel)
theorem gk_RL_7 : Cond.constant RL 7 (1742332403 : Int32) ∈ gwA := gwA_at 102 (by decide +kernel) rfl
theorem gk_RL_8 : Cond.constant RL 8 (1002821609 : Int32) ∈ gwA := gwA_at 103 (by decide +kernel) rfl
theorem gk_RL_32 : Cond.constant RL 32 (-1000001 : Int32) ∈ gwA := gwA_at 198 (by decide +kernel) rfl
theorem gk_RL_21 : Cond.constant RL 21 (-1000003 : Int32) ∈ gwA := gwA_at 363 (by decide +kernel) rfl
theorem gk_RL_9 : Cond.constant RL 9 (2147483647 : Int32) ∈ gwA := gwA_at 370 (by decide +kernel) rfl
theorem gk_RL_18 : Cond.constant RL 18 (-1000002 : Int32) ∈ gwA := gwA_at 528 (by decide +kernel) rfl
theorem gcw_68 : gCsW RL 68 yL_dot cL_dot 5 (some Jvm.ClassFile.FieldType.int) [((0 : Nat), (7 : Nat), (8 : Nat), (30 : Nat))] 4 := ⟨gwA_at 109 (by decide +kernel) rfl, gwA_at 107 (by decide +kernel) rfl, gwA_at 0 (by decide +kernel) rfl, gwA_at 108 (by decide +kernel) rfl, by decide +kernel, by decide +kernel, by decide +kernel⟩
theorem gcw_73 : gCsW RL 73 yL_side cL_side 4 (some Jvm.ClassFile.FieldType.int) [((0 : Nat), (6 : Nat), (7 : Nat), (30 : Nat))] 3 := ⟨gwA_at 201 (by decide +kernel) rfl, gwA_at 199 (by decide +kernel) rfl, gwA_at 0 (by decide +kernel) rfl, gwA_at 200 (by decide +kernel) rfl, by decide +kernel, by decide +kernel, by decide +kernel⟩
theorem gcw_80 : gCsW RL 80 yL_worth cL_worth 3 (some Jvm.ClassFile.FieldType.int) [((0 : Nat), (5 : Nat), (6 : Nat), (30 : Nat))] 2 := ⟨gwA_at 211 (by decide +kernel) rfl, gwA_at 209 (by decide +kernel) rfl, gwA_at 0 (by decide +kernel) rfl, gwA_at 210 (by decide +kernel) rfl, by decide +kernel, by decide +kernel, by decide +kernel⟩
theorem gcw_83 : gCsW RL 83 yL_best cL_best 3 (some Jvm.ClassFile.FieldType.int) [((0 : Nat), (5 : Nat), (6 : Nat), (30 : Nat)), ((0 : Nat), (5 : Nat), (10 : Nat), (19 : Nat))] 2 := ⟨gwA_at 222 (by decide +kernel) rfl, gwA_at 220 (by decide +kernel) rfl, gwA_at 0 (by decide +kernel) rfl, gwA_at 221 (by decide +kernel) rfl, by decide +kernel, by decide +kernel, by decide +kernel⟩
theorem gcw_98 : gCsW RL 98 yL_sheet cL_sheet 5 (some Jvm.ClassFile.FieldType.int) [((0 : Nat), (7 : Nat), (8 : Nat), (16 : Nat)), ((0 : Nat), (7 : Nat), (13 : Nat), (19 : Nat))] 4 := ⟨gwA_at 373 (by decide +kernel) rfl, gwA_at 371 (by decide +kernel) rfl, gwA_at 0 (by decide +kernel) rfl, gwA_at 372 (by decide +kernel) rfl, by decide +kernel, by decide +kernel, by decide +kernel⟩
theorem gcw_100 : gCsW RL 100 yL_place cL_place 5 (some Jvm.ClassFile.FieldType.int) [((0 : Nat), (7 : Nat), (8 : Nat), (16 : Nat)), ((0 : Nat), (7 : Nat), (13 : Nat), (19 : Nat))] 4 := ⟨gwA_at 531 (by decide +kernel) rfl, gwA_at 529 (by decide +kernel) rfl, gwA_at 0 (by decide +kernel) rfl, gwA_at 530 (by decide +kernel) rfl, by decide +kernel, by decide +kernel, by decide +kernel⟩
theorem gcw_88 : gCsW RL 88 yL_spelled cL_spelled 5 (some Jvm.ClassFile.FieldType.int) [((0 : Nat), (7 : Nat), (8 : Nat), (30 : Nat)), ((0 : Nat), (7 : Nat), (13 : Nat), (16 : Nat))] 4 := ⟨gwA_at 570 (by decide +kernel) rfl, gwA_at 568 (by decide +kernel) rfl, gwA_at 0 (by decide +kernel) rfl, gwA_at 569 (by decide +kernel) rfl, by decide +kernel, by decide +kernel, by decide +kernel⟩
theorem gcw_105 : gCsW RL 105 yL_printed cL_printed 6 (some Jvm.ClassFile.FieldType.int) [((0 : Nat), (9 : Nat), (10 : Nat), (30 : Nat))] 5 := ⟨gwA_at 589 (by decide +kernel) rfl, gwA_at 587 (by decide +kernel) rfl, gwA_at 0 (by decide +kernel) rfl, gwA_at 588 (by decide +kernel) rfl, by decide +kernel, by decide +kernel, by decide +kernel⟩
theorem gcw_93 : gCsW RL 93 yL_letter cL_letter 3 (some Jvm.ClassFile.FieldType.int) [((0 : Nat), (5 : Nat), (6 : Nat), (16 : Nat)), ((0 : Nat), (5 : Nat), (10 : Nat), (19 : Nat))] 2 := ⟨gwA_at 614 (by decide +kernel) rfl, gwA_at 612 (by decide +kernel) rfl, gwA_at 0 (by decide +kernel) rfl, gwA_at 613 (by decide +kernel) rfl, by decide +kernel, by decide +kernel, by decide +kernel⟩
theorem gcw_96 : gCsW RL 96 yL_name cL_name 3 (some Jvm.ClassFile.FieldType.int) [((0 : Nat), (5 : Nat), (6 : Nat), (30 : Nat)), ((0 : Nat), (5 : Nat), (10 : Nat), (19 : Nat))] 2 := ⟨gwA_at 706 (by decide +kernel) rfl, gwA_at 704 (by decide +kernel) rfl, gwA_at 0 (by decide +kernel) rfl, gwA_at 705 (by decide +kernel) rfl, by decide +kernel, by decide +kernel, by decide +kernel⟩
theorem gcw_120 : gCsW RL 120 yL_pass cL_pass 3 (some Jvm.ClassFile.FieldType.int) [((0 : Nat), (5 : Nat), (6 : Nat), (16 : Nat)), ((0 : Nat), (5 : Nat), (10 : Nat), (19 : Nat))] 2 := ⟨gwA_at 935 (by decide +kernel) rfl, gwA_at 933 (by decide +kernel) rfl, gwA_at 0 (by decide +kernel) rfl, gwA_at 934 (by decide +kernel) rfl, by decide +kernel, by decide +kernel, by decide +kernel⟩
theorem gcw_85 : gCsW RL 85 yL_drawn cL_drawn 5 (some Jvm.ClassFile.FieldType.int) [((0 : Nat), (7 : Nat), (8 : Nat), (30 : Nat))] 4 := ⟨gwA_at 947 (by decide +kernel) rfl, gwA_at 945 (by decide +kernel) rfl, gwA_at 0 (by decide +kernel) rfl, gwA_at 946 (by decide +kernel) rfl, by decide +kernel, by decide +kernel, by decide +kernel⟩
theorem gcw_102 : gCsW RL 102 yL_print cL_print 2 (some Jvm.ClassFile.FieldType.int) [((0 : Nat), (4 : Nat), (5 : Nat), (19 : Nat))] 1 := ⟨gwA_at 956 (by decide +kernel) rfl, gwA_at 954 (by decide +kernel) rfl, gwA_at 0 (by decide +kernel) rfl, gwA_at 955 (by decide +kernel) rfl, by decide +kernel, by decide +kernel, by decide +kernel⟩
/-- how many letters the name of a place has on a day; 0 without a name -/
def lnF (F : Nat → Nat → Int) (d : Int) (i : Nat) : Int := if nmOf F d i = -1 then 0 else nmn F d i
/-- the law's own numbers beside the class's -/
def LwG (z G : Nat → Int) : Prop := G 0 = z 3 ∧ G 1 = z 11 ∧ G 2 = z 22 ∧ G 3 = z 0 ∧ G 4 = z 1 ∧ 0 ≤ G 5
def LwP (z : Nat → Int) (F : Nat → Nat → Int) (P : Nat → Int) : Prop := ∀ i : Nat, i < 10 → P (5 * i + 3) = F 7 i ∧ P (5 * i + 4) = lnF F (z 0) i ∧ ((i : Int) < z 3 → P (5 * i) = F 4 i ∧ P (5 * i + 1) = F 5 i ∧ P (5 * i + 2) = F 6 i)
def LwQ (z : Nat → Int) (F : Nat → Nat → Int) (Q : Nat → Int) : Prop := ∀ s : Nat, (s : Int) < z 11 → Q (3 * s) = F 12 s ∧ Q (3 * s + 1) = F 13 s ∧ Q (3 * s + 2) = F 14 s
def LwE (z : Nat → Int) (F : Nat → Nat → Int) (E : Nat → Int) : Prop := ∀ e : Nat, (e : Int) < z 22 → (0 ≤ E (4 * e) ∧ E (4 * e) < z 11) ∧ (0 ≤ E (4 * e + 1) ∧ E (4 * e + 1) ≤ 23) ∧ (0 ≤ E (4 * e + 2) ∧ E (4 * e + 2) ≤ 39) ∧ E (4 * e + 3) = printedV F e (E (4 * e)).toNat (E (4 * e + 1)) (E (4 * e + 2))
/-- the class's rows alone -/
def CI (ad : Tg → Nat) (z : Nat → Int) (F : Nat → Nat → Int) (ct : Tg → Option gC) : Prop := ST ad z F ct ∧ mI z F ∧ mE z F ∧ eQ z F ∧ z 3 ≤ 10
def LI (ad : Tg → Nat) (z : Nat → Int) (F : Nat → Nat → Int) (ct : Tg → Option gC) (G P Q E : Nat → Int) : Prop :=
  CI ad z F ct ∧ (ct (30, 0, 0) = some (gI 1 6 G) ∧ ct (31, 0, 0) = some (gI 1 50 P) ∧ ct (32, 0, 0) = some (gI 1 12 Q) ∧ ct (33, 0, 0) = some (gI 1 20 E)) ∧ LwG z G ∧ LwP z F P ∧ LwQ z F Q ∧ LwE z F E
/-- where the objects lie that the law holds -/
def lA (ad : Tg → Nat) (oa ga pa qa ea : Nat) : Prop := ad (2, 0, 0) = oa ∧ ad (30, 0, 0) = ga ∧ ad (31, 0, 0) = pa ∧ ad (32, 0, 0) = qa ∧ ad (33, 0, 0) = ea
theorem lA.x {ad ad' : Tg → Nat} {ct ct' : Tg → Option gC} {oa ga pa qa ea : Nat} (hA : lA ad oa ga pa qa ea) (h : xF ad ct ad' ct') : lA ad' oa ga pa qa ea := ⟨h.2.trans hA.1, (h.1 _ (Or.inr (by decide))).2.trans hA.2.1, (h.1 _ (Or.inr (by decide))).2.trans hA.2.2.1, (h.1 _ (Or.inr (by decide))).2.trans hA.2.2.2.1, (h.1 _ (Or.inr (by decide))).2.trans hA.2.2.2.2⟩
theorem CI.put {ad : Tg → Nat} {z : Nat → Int} {F : Nat → Nat → Int} {ct : Tg → Option gC} (h : CI ad z F ct) (t : Tg) (ht : 24 ≤ t.1) (c : gC) : CI ad z F (cup ct t c) := ⟨h.1.fr (fun u h1 h2 => cup_ne (fun e => by rw [e] at h2; omega)), h.2⟩
/-- what an act of the law leaves: the day at most d, the sixth number at most c -/
def LO (oa ga pa qa ea : Nat) (z : Nat → Int) (d c : Int) (gh : gH) : Prop := ∃ (ad' : Tg → Nat) (ct' : Tg → Option gC) (z' : Nat → Int) (F' : Nat → Nat → Int) (G P Q E : Nat → Int), cR ad' ct' gh ∧ LI ad' z' F' ct' G P Q E ∧ lA ad' oa ga pa qa ea ∧ z 3 ≤ z' 3 ∧ z 11 ≤ z' 11 ∧ z' 0 ≤ d ∧ G 5 ≤ c
theorem LO.mono {oa ga pa qa ea : Nat} {z z2 : Nat → Int} {d c d' c' : Int} {gh : gH} (h : LO oa ga pa qa ea z2 d c gh) (h1 : d ≤ d') (h2 : c ≤ c') (h3 : z 3 ≤ z2 3) (h4 : z 11 ≤ z2 11) : LO oa ga pa qa ea z d' c' gh := by
  obtain ⟨a, b, z1, f, g, p, q, e, x1, x2, x3, x4, x5, x6, x7⟩ := h
  exact ⟨a, b, z1, f, g, p, q, e, x1, x2, x3, by omega, by omega, by omega, by omega⟩
end Q0
