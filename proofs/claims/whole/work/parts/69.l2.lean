/-! the law's invariant: the class's state beside the reference's, and what always holds -/
section L2
theorem MRP.fr {ad ad' : Tg → Nat} {z : Nat → Int} {F : Nat → Nat → Int} {ct ct' : Tg → Option gC} (h : MRP ad z F ct) (hc : ∀ t : Tg, t.1 ≤ 1 → ct' t = ct t ∧ ad' t = ad t) : MRP ad' z F ct' := by
  obtain ⟨h1, h2⟩ := h
  have e : ∀ k : Nat, ad' (1, k, 0) = ad (1, k, 0) := fun k => (hc (1, k, 0) (Nat.le_refl 1)).2
  refine ⟨?_, fun k hk hm => by rw [(hc (1, k, 0) (Nat.le_refl 1)).1]; exact h2 k hk hm⟩
  rw [(hc (0, 0, 0) (Nat.zero_le 1)).1, h1]
  congr 2
  congr 1
  funext k
  exact (e k).symm
theorem mSc_up {z : Nat → Int} {F : Nat → Nat → Int} {j : Nat} {v g : Int} : mSc (gup z j v) F (gup (gup z 27 g) j v) F := ⟨fun k h _ => by
    unfold gup
    by_cases e : k = j
    · rw [if_pos e, if_pos e]
    · rw [if_neg e, if_neg e, if_neg h], fun _ _ _ _ _ _ _ => rfl⟩
theorem mSc.fe {z z' : Nat → Int} {F F' : Nat → Nat → Int} (h : mSc z F z' F') : fEq F F' := h.2
theorem fEq.agr {np ns ne : Nat} {F F' : Nat → Nat → Int} (h : fEq F F') : agr np ns ne F F' :=
  ⟨fun i _ => ⟨by rw [h.at4], by rw [h.at5], by rw [h.at6]⟩, fun i _ => ⟨by rw [h.at12], by rw [h.at13], by rw [h.at14]⟩, fun i j _ _ => ⟨by rw [h.at8], by rw [h.at9], fun t _ => by rw [h.at10]⟩, fun e _ => ⟨by rw [h.at23], by rw [h.at24], fun i _ => ⟨by rw [h.at25], fun s _ => by rw [h.at26]⟩⟩⟩
/-- what the law keeps from call to call -/
def LI (ad : Tg → Nat) (z : Nat → Int) (F : Nat → Nat → Int) (ct : Tg → Option gC) : Prop := ST ad z F ct ∧ MRP ad z F ct ∧ mI z F ∧ mE z F ∧ eQ z F ∧ ∃ f : Nat → Int64, ct (30, 0, 0) = some (gL 3 1 f)
/-- the class's rows beside the reference's, which has used its scratch rows -/
theorem LI.mk {ad : Tg → Nat} {z z' : Nat → Int} {F F' : Nat → Nat → Int} {ct : Tg → Option gC} (hS : ST ad z F ct) (hM : MRP ad z' F' ct) (hI : mI z F) (hE : mE z F) (hQ : eQ z F) (hs : mSc z F z' F') (ho : ∃ f : Nat → Int64, ct (30, 0, 0) = some (gL 3 1 f)) : LI ad z' F' ct := by
  have i3 := hI.2.2.1
  have i11 := hI.2.2.2.1
  have i22 := hI.2.2.2.2.1
  have e0 := hs.1 0 (by decide) (by decide)
  have e1 := hs.1 1 (by decide) (by decide)
  have e3 := hs.1 3 (by decide) (by decide)
  have e11 := hs.1 11 (by decide) (by decide)
  have e22 := hs.1 22 (by decide) (by decide)
  have ha : agr (z 3).toNat (z 11).toNat (z 22).toNat F F' := hs.fe.agr
  refine ⟨hS.cg hs.fe ⟨e0, e1, e3, e11, e22⟩, hM, mI_c hs.fe.le hs.1 hI, ?_, ?_, ho⟩
  · exact ha.o_mE hI hQ hE (by omega) (by omega) (by omega) (by omega) (by omega) e22
  · exact ha.o_eQ hI hQ hE (by omega) (by omega) (by omega) e22 (fun i _ => by rw [hs.fe.at7]; exact Int.le_refl _)
section
variable {z : Nat → Int} {F : Nat → Nat → Int}
theorem ed_letter (hI : mI z F) (hE : mE z F) (hQ : eQ z F) {v : Int} {X : Nat → Int} : mE (gup z 1 v) (gup F 2 X) ∧ eQ (gup z 1 v) (gup F 2 X) := by
  have i3 := hI.2.2.1
  have i11 := hI.2.2.2.1
  have i22 := hI.2.2.2.2.1
  have ha : agr (z 3).toNat (z 11).toNat (z 22).toNat F (gup F 2 X) := agr_letter
  exact ⟨ha.o_mE hI hQ hE (by omega) (by omega) (by omega) (Int.le_refl _) (Int.le_refl _) rfl, ha.o_eQ hI hQ hE (by omega) (by omega) (by omega) rfl (fun _ _ => Int.le_refl _)⟩
theorem ed_place (hI : mI z F) (hE : mE z F) (hQ : eQ z F) {a b r : Int} : mE (gup z 3 (z 3 + 1)) (plF z F a b r) ∧ eQ (gup z 3 (z 3 + 1)) (plF z F a b r) := by
  have i3 := hI.2.2.1
  have i11 := hI.2.2.2.1
  have i22 := hI.2.2.2.2.1
  have ha : agr (z 3).toNat (z 11).toNat (z 22).toNat F (plF z F a b r) := agr_place
  exact ⟨ha.o_mE hI hQ hE (by omega) (by omega) (by omega) (by show z 3 ≤ z 3 + 1; omega) (Int.le_refl _) rfl, ha.o_eQ hI hQ hE (by omega) (by omega) (by omega) rfl (fun _ _ => by rw [plF_ne (k := 7) (by decide)]; exact Int.le_refl _)⟩
theorem ed_sheet (hI : mI z F) (hE : mE z F) (hQ : eQ z F) {a b r : Int} : mE (gup z 11 (z 11 + 1)) (shF z F a b r) ∧ eQ (gup z 11 (z 11 + 1)) (shF z F a b r) := by
  have i3 := hI.2.2.1
  have i11 := hI.2.2.2.1
  have i22 := hI.2.2.2.2.1
  have ha : agr (z 3).toNat (z 11).toNat (z 22).toNat F (shF z F a b r) := agr_sheet
  exact ⟨ha.o_mE hI hQ hE (by omega) (by omega) (by omega) (Int.le_refl _) (by show z 11 ≤ z 11 + 1; omega) rfl, ha.o_eQ hI hQ hE (by omega) (by omega) (by omega) rfl (fun _ _ => by rw [shF_ne (k := 7) (by decide)]; exact Int.le_refl _)⟩
theorem ed_name (hI : mI z F) (hE : mE z F) (hQ : eQ z F) {i : Nat} (hi : (i : Int) < z 3) (h6 : F 7 i < 6) : mE (gup z 1 0) (namF z F i) ∧ eQ (gup z 1 0) (namF z F i) := by
  have i3 := hI.2.2.1
  have i11 := hI.2.2.2.1
  have i22 := hI.2.2.2.2.1
  have ha : agr (z 3).toNat (z 11).toNat (z 22).toNat F (namF z F i) := agr_name hI hi h6
  refine ⟨ha.o_mE hI hQ hE (by omega) (by omega) (by omega) (Int.le_refl _) (Int.le_refl _) rfl, ha.o_eQ hI hQ hE (by omega) (by omega) (by omega) rfl (fun j _ => ?_)⟩
  show F 7 j ≤ gup (F 7) i (F 7 i + 1) j
  by_cases e : j = i
  · rw [e, gup_eq]; omega
  · rw [gup_ne e]; exact Int.le_refl _
/-- a name that stands lies within the sheet -/
theorem ly_fit {s : Nat} {on : Int} {i : Nat} (L : List Nat) : ∀ (st : (Nat → Int) × (Nat → Int)), (st.1 i = -1 ∨ fitB (rowAtN (qRow F s i) (st.1 i)) (colAtN (qCol F s i) (st.1 i) (nmn F on i)) (nmn F on i) = true) → ((lyL F s on st L).1 i = -1 ∨ fitB (rowAtN (qRow F s i) ((lyL F s on st L).1 i)) (colAtN (qCol F s i) ((lyL F s on st L).1 i) (nmn F on i)) (nmn F on i) = true) := by
  induction L with
  | nil =>
    intro st h
    have e : lyL F s on st [] = st := by unfold lyL; rw [List.foldl_nil]
    rw [e]
    exact h
  | cons j L ih =>
    intro st h
    rw [lyL_cons]
    refine ih _ ?_
    by_cases e : i = j
    · subst e
      by_cases q : sideF st.2 (qRow F s i) (qCol F s i) (F 9 (nmOf F on i).toNat) = -1
      · have e1 : lay1 F s on i st = st := if_pos q
        rw [e1]; exact h
      · right
        have e1 : (lay1 F s on i st).1 i = sideF st.2 (qRow F s i) (qCol F s i) (F 9 (nmOf F on i).toNat) := by
          unfold lay1
          rw [if_neg q]
          exact gup_eq
        rw [e1]
        exact mayB_fit (sideF_may q)
    · rw [lay1_ne e]; exact h
theorem lay0_ed (hI : mI z F) {s np i : Nat} (hn : (np : Int) ≤ z 3) (hi : i < np) (h : (lay0 F s np (z 0)).1 i ≠ -1) : edOk F s i (nmOf F (z 0) i) ((lay0 F s np (z 0)).1 i) ∧ ∃ j : Nat, (j : Int) < F 7 i ∧ nmOf F (z 0) i = 6 * (i : Int) + j := by
  have i3 := hI.2.2.1
  have hL : i ∈ lsU F s (wdA (fun _ => 0) F (z 0)) np 5 := Classical.byContradiction (fun q => h (ls_out q))
  have hm := (lsU_mem 5 (Nat.le_refl 5)).mp hL
  have hw := hm.2.2.2.2
  rw [wdA_some] at hw
  have hnm : nmOf F (z 0) i ≠ -1 := of_decide_eq_true hw
  have hok := nm_ok hI (on := z 0) (i := i) (by omega) hnm
  have hsd := lay0_side (F := F) (s := s) (np := np) (on := z 0) (j := i)
  have hfit := ly_fit (F := F) (s := s) (on := z 0) (i := i) (lsU F s (wdA (fun _ => 0) F (z 0)) np 5) (fun _ => -1, dotP F s np) (Or.inl rfl)
  rw [lyL_lay0] at hfit
  obtain ⟨j, h1, h2, h3, h4⟩ := (nmOf_rng hI (on := z 0) (i := i) (by omega)).resolve_left hnm
  refine ⟨⟨by omega, hm.2.2.2.1, by omega, ⟨hok.2.2.1, hok.2.2.2.1⟩, hok.2.2.2.2, hfit.resolve_left h⟩, j, h2, h3⟩
theorem ed_print (hI : mI z F) (hE : mE z F) (hQ : eQ z F) : mE (gup z 22 (z 22 + 1)) (prF z F) ∧ eQ (gup z 22 (z 22 + 1)) (prF z F) := by
  have i3 := hI.2.2.1
  have i11 := hI.2.2.2.1
  have i22 := hI.2.2.2.2.1
  have ha := agr_pr hI
  have hle : lE F (prF z F) := fun k hk => by
    unfold prF
    rw [gup_ne (by omega), gup_ne (by omega), gup_ne (by omega), gup_ne (by omega)]
  have hE1 : mE z (prF z F) := ha.o_mE hI hQ hE (by omega) (by omega) (by omega) (Int.le_refl _) (Int.le_refl _) rfl
  have hQ1 : eQ z (prF z F) := ha.o_eQ hI hQ hE (by omega) (by omega) (by omega) rfl (fun _ _ => by rw [hle.at7]; exact Int.le_refl _)
  have v23 : prF z F 23 (z 22).toNat = z 3 := by show gup (F 23) (z 22).toNat (z 3) (z 22).toNat = z 3; rw [gup_eq]
  have v24 : prF z F 24 (z 22).toNat = z 11 := by show gup (F 24) (z 22).toNat (z 11) (z 22).toNat = z 11; rw [gup_eq]
  have v25 : ∀ i : Nat, (i : Int) < z 3 → prF z F 25 (14 * (z 22).toNat + i) = nmOf F (z 0) i := fun i hi => pr25_at _ (by omega)
  have v26 : ∀ s i : Nat, (s : Int) < z 11 → (i : Int) < z 3 → prF z F 26 (14 * (4 * (z 22).toNat + s) + i) = (lay0 F s (z 3).toNat (z 0)).1 i := fun s i hs hi => pr26_at (by omega) (by omega) _ (by omega)
  constructor
  · intro e he
    have he2 : (e : Int) < z 22 + 1 := he
    by_cases q : (e : Int) < z 22
    · exact hE1 e q
    · have e1 : e = (z 22).toNat := by omega
      rw [e1, v23, v24]
      refine ⟨i3.1, Int.le_refl _, i11.1, Int.le_refl _, fun s i hs hi => ?_⟩
      rw [v25 i hi, v26 s i hs hi]
      by_cases h : (lay0 F s (z 3).toNat (z 0)).1 i = -1
      · exact Or.inl h
      · right
        have := (lay0_ed hI (s := s) (np := (z 3).toNat) (by omega) (by omega) h).1
        obtain ⟨a1, a2, a3, a4, a5, a6⟩ := this
        exact ⟨a1, by rw [qOn_c hle]; exact a2, a3, by rw [hle.at9]; exact a4, by rw [hle.at9, hle.at10]; exact a5, by rw [hle.at9, qRow_c hle, qCol_c hle]; exact a6⟩
  · intro e s i he hs hi hne
    have he2 : (e : Int) < z 22 + 1 := he
    by_cases q : (e : Int) < z 22
    · exact hQ1 e s i q hs hi hne
    · have e1 : e = (z 22).toNat := by omega
      rw [e1] at hs hi hne ⊢
      rw [v24] at hs
      rw [v23] at hi
      rw [v26 s i hs hi] at hne
      rw [v25 i hi, hle.at7]
      exact (lay0_ed hI (s := s) (np := (z 3).toNat) (by omega) (by omega) hne).2
end
end L2
