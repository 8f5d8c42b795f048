/-! what a change of some rows leaves alone: names, placings, sheets -/
section P3
section
variable {z : Nat → Int} {np ns ne : Nat} {F G : Nat → Nat → Int}
theorem agr.o_nmR (h : agr np ns ne F G) {i : Nat} (hi : i < np) {on : Int} : ∀ n : Nat, (n : Int) ≤ F 7 i → nmR G on i n = nmR F on i n
  | 0, _ => rfl
  | n + 1, hn => by rw [nmR_s, nmR_s, agr.o_nmR h hi n (by omega), (h.2.2.1 i n hi (by omega)).1]
theorem agr.o_nm (h : agr np ns ne F G) {i : Nat} (hi : i < np) (h0 : 0 ≤ F 7 i) (h7 : G 7 i = F 7 i) {on : Int} : nmOf G on i = nmOf F on i := by
  unfold nmOf
  rw [h7]
  exact h.o_nmR hi _ (by omega)
theorem agr.o_wR (h : agr np ns ne F G) {i : Nat} (hi : i < np) {on : Int} {sp : Nat → Nat} : ∀ n : Nat, (n : Int) ≤ F 7 i → wR (fun j => G 8 (6 * i + j)) sp on n = wR (fun j => F 8 (6 * i + j)) sp on n
  | 0, _ => rfl
  | n + 1, hn => by rw [wR_s, wR_s, agr.o_wR h hi n (by omega), (h.2.2.1 i n hi (by omega)).1]
theorem agr.o_wd (h : agr np ns ne F G) {i : Nat} (hi : i < np) (h0 : 0 ≤ F 7 i) (h7 : G 7 i = F 7 i) {ad : Tg → Nat} {on : Int} : wdA ad G on i = wdA ad F on i := by
  unfold wdA
  rw [h7]
  exact h.o_wR hi _ (by omega)
theorem agr.o_lay1 (hI : mI z F) (h : agr np ns ne F G) (h3 : (np : Int) ≤ z 3) {i s : Nat} (hi : i < np) (hs : s < ns) (h7 : G 7 i = F 7 i) {on : Int} (hn : nmOf F on i ≠ -1) {st : (Nat → Int) × (Nat → Int)} : lay1 G s on i st = lay1 F s on i st := by
  have i3 := hI.2.2.1
  have inn := hI.2.2.2.2.2.2.2.1 i (by omega)
  obtain ⟨j, h1, h2, h4, h5⟩ := (nmOf_rng hI (on := on) (i := i) (by omega)).resolve_left hn
  have e9 := (h.2.2.1 i j hi h2).2.1
  unfold lay1
  rw [h.o_qRow hi hs, h.o_qCol hi hs, h.o_nm hi inn.1 h7, h5, e9, ← h.o_qRow hi hs, ← h.o_qCol hi hs, h.o_wrt (e := 0) (m := 0) hI h3 hi hs h4 h2, h.o_qRow hi hs, h.o_qCol hi hs]
theorem lyL_cons {F : Nat → Nat → Int} {s : Nat} {on : Int} {st : (Nat → Int) × (Nat → Int)} {i : Nat} {L : List Nat} : lyL F s on st (i :: L) = lyL F s on (lay1 F s on i st) L := by
  unfold lyL
  rw [List.foldl_cons]
theorem agr.o_lyL (hI : mI z F) (h : agr np ns ne F G) (h3 : (np : Int) ≤ z 3) {s : Nat} (hs : s < ns) {on : Int} (L : List Nat) : ∀ (st : (Nat → Int) × (Nat → Int)), (∀ i ∈ L, i < np ∧ G 7 i = F 7 i ∧ nmOf F on i ≠ -1) → lyL G s on st L = lyL F s on st L := by
  induction L with
  | nil =>
    intro st _
    unfold lyL
    rw [List.foldl_nil, List.foldl_nil]
  | cons i L ih =>
    intro st hL
    have h1 := hL i List.mem_cons_self
    have e1 := h.o_lay1 hI h3 h1.1 hs h1.2.1 h1.2.2 (on := on) (st := st)
    have e2 := ih (lay1 F s on i st) (fun j hj => hL j (List.mem_cons_of_mem _ hj))
    rw [lyL_cons, lyL_cons, e1, e2]
theorem agr.o_lsU (hI : mI z F) (h : agr np ns ne F G) (h3 : (np : Int) ≤ z 3) {s : Nat} (hs : s < ns) (h7 : ∀ i, i < np → G 7 i = F 7 i) {ad : Tg → Nat} {on : Int} {m : Nat} : lsU G s (wdA ad G on) np m = lsU F s (wdA ad F on) np m := by
  have i3 := hI.2.2.1
  exact lsU_congr (fun i hi => ⟨(h.1 i hi).2.2, h.o_cN hi hs, by rw [h.o_wd hi (hI.2.2.2.2.2.2.2.1 i (by omega)).1 (h7 i hi)]⟩) m
theorem agr.o_lay0 (hI : mI z F) (h : agr np ns ne F G) (h3 : (np : Int) ≤ z 3) {s : Nat} (hs : s < ns) (h7 : ∀ i, i < np → G 7 i = F 7 i) {on : Int} : lay0 G s np on = lay0 F s np on := by
  rw [← lyL_lay0 (ad := fun _ => 0), ← lyL_lay0 (ad := fun _ => 0), h.o_lsU hI h3 hs h7, h.o_dotP hs np (Nat.le_refl _)]
  refine h.o_lyL hI h3 hs _ _ (fun i hi => ?_)
  have h1 := (lsU_mem 5 (Nat.le_refl 5)).mp hi
  have h2 := h1.2.2.2.2
  rw [wdA_some] at h2
  exact ⟨h1.1, h7 i h1.1, of_decide_eq_true h2⟩
theorem SHS.agr (hI : mI z F) (h : agr np ns ne F G) (h3 : (np : Int) ≤ z 3) {k : Nat} (hk : k < ns) (h7 : ∀ i, i < np → G 7 i = F 7 i) {ad : Tg → Nat} {d : Int} {ct : Tg → Option gC} (hs : SHS ad F d np k ct) : SHS ad G d np k ct := by
  have i3 := hI.2.2.1
  obtain ⟨ah, N, T, hs⟩ := hs
  refine ⟨ah, N, T, ?_⟩
  rw [h.o_lay0 hI h3 hk h7, h.o_lsU hI h3 hk h7]
  exact hs.cg (fun _ _ => rfl) (fun _ _ => rfl) (fun _ _ => rfl) (h.2.1 k hk) (fun i hi => ⟨(h.1 i hi).2.2, h.o_cN hi hk, h.o_rN hi hk, h.o_wd hi (hI.2.2.2.2.2.2.2.1 i (by omega)).1 (h7 i hi), rfl, rfl⟩)
end
section
variable {z : Nat → Int} {F : Nat → Nat → Int}
theorem agr_letter {np ns ne : Nat} {X : Nat → Int} : agr np ns ne F (gup F 2 X) := by
  have f : ∀ k, k ≠ 2 → gup F 2 X k = F k := fun k h => gup_ne h
  exact ⟨fun i _ => ⟨by rw [f 4 (by decide)], by rw [f 5 (by decide)], by rw [f 6 (by decide)]⟩, fun i _ => ⟨by rw [f 12 (by decide)], by rw [f 13 (by decide)], by rw [f 14 (by decide)]⟩, fun i j _ _ => ⟨by rw [f 8 (by decide)], by rw [f 9 (by decide)], fun t _ => by rw [f 10 (by decide)]⟩, fun e _ => ⟨by rw [f 23 (by decide)], by rw [f 24 (by decide)], fun i _ => ⟨by rw [f 25 (by decide)], fun s _ => by rw [f 26 (by decide)]⟩⟩⟩
def plF (z : Nat → Int) (F : Nat → Nat → Int) (a b r : Int) : Nat → Nat → Int := gup (gup (gup F 4 (gup (F 4) (z 3).toNat a)) 5 (gup (F 5) (z 3).toNat b)) 6 (gup (F 6) (z 3).toNat r)
def shF (z : Nat → Int) (F : Nat → Nat → Int) (a b r : Int) : Nat → Nat → Int := gup (gup (gup F 12 (gup (F 12) (z 11).toNat a)) 13 (gup (F 13) (z 11).toNat b)) 14 (gup (F 14) (z 11).toNat r)
theorem plF_ne {a b r : Int} {k : Nat} (h : k ≠ 4 ∧ k ≠ 5 ∧ k ≠ 6) : plF z F a b r k = F k := by
  unfold plF
  rw [gup_ne h.2.2, gup_ne h.2.1, gup_ne h.1]
theorem shF_ne {a b r : Int} {k : Nat} (h : k ≠ 12 ∧ k ≠ 13 ∧ k ≠ 14) : shF z F a b r k = F k := by
  unfold shF
  rw [gup_ne h.2.2, gup_ne h.2.1, gup_ne h.1]
theorem agr_place {ns ne : Nat} {a b r : Int} : agr (z 3).toNat ns ne F (plF z F a b r) := by
  refine ⟨fun i hi => ⟨?_, ?_, ?_⟩, fun i _ => ⟨by rw [plF_ne (by decide)], by rw [plF_ne (by decide)], by rw [plF_ne (by decide)]⟩, fun i j _ _ => ⟨by rw [plF_ne (by decide)], by rw [plF_ne (by decide)], fun t _ => by rw [plF_ne (by decide)]⟩, fun e _ => ⟨by rw [plF_ne (by decide)], by rw [plF_ne (by decide)], fun i _ => ⟨by rw [plF_ne (by decide)], fun s _ => by rw [plF_ne (by decide)]⟩⟩⟩
  · show gup (F 4) (z 3).toNat a i = _; exact gup_ne (by omega)
  · show gup (F 5) (z 3).toNat b i = _; exact gup_ne (by omega)
  · show gup (F 6) (z 3).toNat r i = _; exact gup_ne (by omega)
theorem agr_sheet {np ne : Nat} {a b r : Int} : agr np (z 11).toNat ne F (shF z F a b r) := by
  refine ⟨fun i _ => ⟨by rw [shF_ne (by decide)], by rw [shF_ne (by decide)], by rw [shF_ne (by decide)]⟩, fun i hi => ⟨?_, ?_, ?_⟩, fun i j _ _ => ⟨by rw [shF_ne (by decide)], by rw [shF_ne (by decide)], fun t _ => by rw [shF_ne (by decide)]⟩, fun e _ => ⟨by rw [shF_ne (by decide)], by rw [shF_ne (by decide)], fun i _ => ⟨by rw [shF_ne (by decide)], fun s _ => by rw [shF_ne (by decide)]⟩⟩⟩
  · show gup (F 12) (z 11).toNat a i = _; exact gup_ne (by omega)
  · show gup (F 13) (z 11).toNat b i = _; exact gup_ne (by omega)
  · show gup (F 14) (z 11).toNat r i = _; exact gup_ne (by omega)
theorem agr_name (hI : mI z F) {i : Nat} (hi : (i : Int) < z 3) (h6 : F 7 i < 6) {ns ne : Nat} : agr (z 3).toNat ns ne F (namF z F i) := by
  obtain ⟨i0, i1, i3, i11, i22, iw, ip, inn, inm, ish⟩ := hI
  have f : ∀ k, k ≠ 7 → k ≠ 8 → k ≠ 9 → k ≠ 10 → namF z F i k = F k := fun k a b c d => by
    unfold namF
    rw [gup_ne a, gup_ne d, gup_ne c, gup_ne b]
  have h0 := inn i (by omega)
  refine ⟨fun i _ => ⟨by rw [f 4 (by decide) (by decide) (by decide) (by decide)], by rw [f 5 (by decide) (by decide) (by decide) (by decide)], by rw [f 6 (by decide) (by decide) (by decide) (by decide)]⟩, fun i _ => ⟨by rw [f 12 (by decide) (by decide) (by decide) (by decide)], by rw [f 13 (by decide) (by decide) (by decide) (by decide)], by rw [f 14 (by decide) (by decide) (by decide) (by decide)]⟩, fun i' j hi' hj => ?_, fun e _ => ⟨by rw [f 23 (by decide) (by decide) (by decide) (by decide)], by rw [f 24 (by decide) (by decide) (by decide) (by decide)], fun i _ => ⟨by rw [f 25 (by decide) (by decide) (by decide) (by decide)], fun s _ => by rw [f 26 (by decide) (by decide) (by decide) (by decide)]⟩⟩⟩
  have h7 := inn i' (by omega)
  have hne : 6 * i' + j ≠ 6 * i + (F 7 i).toNat := fun e => by
    have e1 : i' = i := by omega
    subst e1
    omega
  refine ⟨?_, ?_, fun t ht => ?_⟩
  · show gup (F 8) _ _ _ = _; exact gup_ne hne
  · show gup (F 9) _ _ _ = _; exact gup_ne hne
  · show putN (F 10) _ _ _ _ = _
    exact putN_out (by omega)
end
end P3
