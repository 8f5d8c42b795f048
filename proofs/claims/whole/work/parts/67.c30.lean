/-! the law's own methods: a call of the class, its answer or what it throws -/
section C30
theorem cl13 : Cond.classLink RL 13 "java/lang/IllegalArgumentException" ∈ gwA := gwA_at 103 (by decide +kernel) rfl
theorem cl15 : Cond.classLink RL 15 "java/lang/IllegalStateException" ∈ gwA := gwA_at 104 (by decide +kernel) rfl
theorem cl25 : Cond.classLink RL 25 "java/lang/IndexOutOfBoundsException" ∈ gwA := gwA_at 500 (by decide +kernel) rfl
theorem lw_at {w : Cond} (i : Nat) (h : tables_1[i]? = some w) : w ∈ lw_tbl := by unfold lw_tbl; exact List.mem_append_right _ (List.mem_of_getElem? h)
theorem ca_iae : Cond.castable "java/lang/IllegalArgumentException" "java/lang/IllegalArgumentException" ∈ lw_tbl := lw_at 111 (by decide +kernel)
theorem ca_ise : Cond.castable "java/lang/IllegalStateException" "java/lang/IllegalStateException" ∈ lw_tbl := lw_at 187 (by decide +kernel)
theorem ca_iob : Cond.castable "java/lang/IndexOutOfBoundsException" "java/lang/IndexOutOfBoundsException" ∈ lw_tbl := lw_at 511 (by decide +kernel)
/-- the class's state looks at its own names alone -/
theorem ST.fr {ad : Tg → Nat} {z : Nat → Int} {F : Nat → Nat → Int} {ct ct' : Tg → Option gC} (h : ST ad z F ct) (hc : ∀ t : Tg, 2 ≤ t.1 → t.1 < 24 → ct' t = ct t) : ST ad z F ct' := by
  obtain ⟨h1, ⟨ml, B, b1, b2, b3⟩, h3, h4, h5, h6, h7, h8⟩ := h
  have e : ∀ a b c : Nat, 2 ≤ a → a < 24 → ct' (a, b, c) = ct (a, b, c) := fun a b c h1 h2 => hc (a, b, c) h1 h2
  refine ⟨by rw [e _ _ _ (by decide) (by decide)]; exact h1, ⟨ml, B, by rw [e _ _ _ (by decide) (by decide)]; exact b1, by rw [e _ _ _ (by decide) (by decide)]; exact b2, b3⟩, by rw [e _ _ _ (by decide) (by decide)]; exact h3, by rw [e _ _ _ (by decide) (by decide)]; exact h4, by rw [e _ _ _ (by decide) (by decide)]; exact h5, fun i hi => (h6 i hi).fr (fun a b c ha hb => e a b c (by omega) (by omega)), fun k hk => ?_, fun e9 he => (h8 e9 he).cg (fun a b ha hb => ⟨e a e9 b (by omega) (by omega), rfl⟩) ⟨rfl, rfl⟩ (fun _ _ => rfl)⟩
  obtain ⟨ah, N, T, hs⟩ := h7 k hk
  exact ⟨ah, N, T, hs.fr (fun t ht => by obtain ⟨a, b, c⟩ := t; have q1 := ht.1; have q2 := ht.2.1; simp only at q1 q2; exact e a b c (by omega) (by omega))⟩
set_option maxHeartbeats 4000000 in
set_option maxRecDepth 100000 in
theorem kL_letter {l : Launch} (hl : l.stackTraces = false) {D : gD} {base : Nat}  {ad : Tg → Nat} {z : Nat → Int} {F : Nat → Nat → Int} {ct : Tg → Option gC} (hI : mI z F) (hS : ST ad z F ct) (hE : mE z F) (hQ : eQ z F) (c : Int) (hc : 0 ≤ c ∧ c < 65536) {f0 : Nat → Int64} (ho : ct (30, 0, 0) = some (gL 3 1 f0)) (gh : gH) (hR : cR ad ct gh) : gMW l D base yL_letter cL_letter 4 (some Jvm.ClassFile.FieldType.int) [((0 : Nat), (9 : Nat), (12 : Nat), (13 : Nat)), ((0 : Nat), (9 : Nat), (15 : Nat), (15 : Nat))] 7 103 1 6 [.ref (ad (2, 0, 0)), vi (c), .ref (ad (30, 0, 0))] gh (fun rr gh' => rr = some (vi (goesN (inB c 97 122) (decide (z 1 < 8)) true)) ∧ ∃ (ad' : Tg → Nat) (ct' : Tg → Option gC) (f1 : Nat → Int64), cR ad' ct' gh' ∧ (∀ t : Tg, t.1 ≤ 1 → ct' t = ct t ∧ ad' t = ad t) ∧ ad' (2, 0, 0) = ad (2, 0, 0) ∧ ad' (30, 0, 0) = ad (30, 0, 0) ∧ ct' (30, 0, 0) = some (gL 3 1 f1) ∧ (if ((inB c 97 122) && (decide (z 1 < 8)) && true) = true then ST ad' (gup z 1 (z 1 + 1)) (gup F 2 (gup (F 2) (z 1).toNat c)) ct' ∧ f1 0 = (iI (z 1 + 1)).toInt64 else ST ad' z F ct')) := by
  refine gMW.of hl (by decide) (by simp [Value.category]) (Nat.le_of_ble_eq_true rfl) [some (.ref (ad (2, 0, 0))), some (vi (c)), some (.ref (ad (30, 0, 0))), none] rfl (fun x hC hq => ?_)
  have f1 : gh (ad (2, 0, 0)) = some (gO 10 [.ref (ad (2, 1, 0)), .ref (ad (2, 3, 0)), .ref (ad (2, 4, 0)), .ref (ad (2, 5, 0)), vi (z 3), vi (z 11), vi (z 22), vi (z 0)]) := hR.1 _ _ (hS.1)
  refine g_ald_n hC dL_letter_0 rfl ?_
  refine g_iconst hC dL_letter_1 rfl ?_
  refine g_ald_n hC dL_letter_2 rfl ?_
  refine g_iload_n hC dL_letter_3 rfl ?_
  refine g_callVX (rest := [vi (0), .ref (ad (30, 0, 0))]) hC (kX6_letter hl hI hS hE hQ c hc gh hR) gc_RL_7 rfl f1 rfl ⟨by decide, by decide⟩ ⟨by decide, by decide⟩ (Nat.le_of_ble_eq_true rfl) rfl dL_letter_4 (fun E g hx => ?_) (fun r0 g hp => ?_)
  · obtain ⟨hg, hx⟩ := hx
    rw [hg]
    rcases hx with ⟨h1, rfl⟩ | ⟨h1, h2, rfl⟩
    · refine g_catch1 hC hq rfl (by decide) cl13 ca_iae (fun q => ?_)
      refine g_ast_n (lv' := [some (.ref (ad (2, 0, 0))), some (vi (c)), some (.ref (ad (30, 0, 0))), some (.ref q)]) hC dL_letter_12 (by decide) rfl ?_
      refine g_iconst hC dL_letter_13 rfl ?_
      exact g_iretW hC hq dL_letter_14 (by decide) (by decide) ⟨by rw [h1]; rfl, ad, ct, f0, hR, fun _ _ => ⟨rfl, rfl⟩, rfl, rfl, ho, by rw [if_neg (by rw [h1]; simp)]; exact hS⟩
    · have h2b := h2
      refine g_catch2 hC hq rfl (by decide) (by decide) cl13 (by decide) cl15 ca_ise (fun q => ?_)
      refine g_ast_n (lv' := [some (.ref (ad (2, 0, 0))), some (vi (c)), some (.ref (ad (30, 0, 0))), some (.ref q)]) hC dL_letter_15 (by decide) rfl ?_
      refine g_iconst hC dL_letter_16 rfl ?_
      exact g_iretW hC hq dL_letter_17 (by decide) (by decide) ⟨by rw [h2b, h1]; rfl, ad, ct, f0, hR, fun _ _ => ⟨rfl, rfl⟩, rfl, rfl, ho, by rw [if_neg (by rw [h2b, h1]; simp)]; exact hS⟩
  · obtain ⟨rfl, hA, hB, ad2, ct2, h2R, hS2, hx2⟩ := hp
    have hBb := hB
    have e30 := hx2.1 (30, 0, 0) (Or.inr (by decide))
    have ho2 : g (ad (30, 0, 0)) = some (gL 3 1 f0) := by have h9_ := h2R.1 (30, 0, 0) _ (e30.1.trans ho); rw [e30.2] at h9_; exact h9_
    refine gV.eqs (st' := [vi (z 1 + 1), vi (0), .ref (ad (30, 0, 0))]) rfl rfl rfl ?_
    refine g_i2l hC dL_letter_7 ?_
    refine g_last hC dL_letter_8 ho2 (by decide) (by decide) ?_
    have h3R := h2R.put (t := (30, 0, 0)) (e30.1.trans ho) (gL 3 1 (gup f0 (0 : Int).toNat (iI (z 1 + 1)).toInt64))
    rw [e30.2] at h3R
    refine g_goto (tgt := 18) hC dL_letter_9 (by decide) ?_
    refine g_iconst hC dL_letter_18 rfl ?_
    refine g_iretW hC hq dL_letter_19 (by decide) (by decide) ⟨by rw [hBb, hA]; rfl, ad2, _, _, h3R, fun t ht => ⟨?_, (hx2.1 t (Or.inl ht)).2⟩, hx2.2, e30.2, cup_eq, ?_⟩
    · rw [cup_ne (fun e => by rw [e] at ht; exact absurd ht (by decide))]; exact (hx2.1 t (Or.inl ht)).1
    · rw [if_pos (by rw [hBb, hA]; rfl)]
      exact ⟨hS2.fr (fun t h1 h2 => cup_ne (fun e => by rw [e] at h2; exact absurd h2 (by decide))), rfl⟩

set_option maxHeartbeats 4000000 in
set_option maxRecDepth 100000 in
theorem kL_place {l : Launch} (hl : l.stackTraces = false) {D : gD} {base : Nat}  {ad : Tg → Nat} {z : Nat → Int} {F : Nat → Nat → Int} {ct : Tg → Option gC} (hI : mI z F) (hS : ST ad z F ct) (hE : mE z F) (hQ : eQ z F) (a b r : Int) (r_a : -2147483648 ≤ a ∧ a < 2147483648) (r_b : -2147483648 ≤ b ∧ b < 2147483648) (r_r : -2147483648 ≤ r ∧ r < 2147483648) {f0 : Nat → Int64} (ho : ct (30, 0, 0) = some (gL 3 1 f0)) (gh : gH) (hR : cR ad ct gh) : gMW l D base yL_place cL_place 6 (some Jvm.ClassFile.FieldType.int) [((0 : Nat), (12 : Nat), (15 : Nat), (13 : Nat)), ((0 : Nat), (12 : Nat), (19 : Nat), (15 : Nat))] 10 223 6 39 [.ref (ad (2, 0, 0)), vi (a), vi (b), vi (r), .ref (ad (30, 0, 0))] gh (fun rr gh' => rr = some (vi (goesN (inB a (-180) 179 && inB b (-60) 60 && inB r (1) 5) (decide (z 3 < 14)) true)) ∧ ∃ (ad' : Tg → Nat) (ct' : Tg → Option gC) (f1 : Nat → Int64), cR ad' ct' gh' ∧ (∀ t : Tg, t.1 ≤ 1 → ct' t = ct t ∧ ad' t = ad t) ∧ ad' (2, 0, 0) = ad (2, 0, 0) ∧ ad' (30, 0, 0) = ad (30, 0, 0) ∧ ct' (30, 0, 0) = some (gL 3 1 f1) ∧ (if ((inB a (-180) 179 && inB b (-60) 60 && inB r (1) 5) && (decide (z 3 < 14)) && true) = true then ST ad' (gup z 3 (z 3 + 1)) (plF z F a b r) ct' ∧ f1 0 = (iI (z 3)).toInt64 else ST ad' z F ct')) := by
  refine gMW.of hl (by decide) (by simp [Value.category]) (Nat.le_of_ble_eq_true rfl) [some (.ref (ad (2, 0, 0))), some (vi (a)), some (vi (b)), some (vi (r)), some (.ref (ad (30, 0, 0))), none] rfl (fun x hC hq => ?_)
  have f1 : gh (ad (2, 0, 0)) = some (gO 10 [.ref (ad (2, 1, 0)), .ref (ad (2, 3, 0)), .ref (ad (2, 4, 0)), .ref (ad (2, 5, 0)), vi (z 3), vi (z 11), vi (z 22), vi (z 0)]) := hR.1 _ _ (hS.1)
  refine g_ald hC dL_place_0 rfl ?_
  refine g_iconst hC dL_place_2 rfl ?_
  refine g_ald_n hC dL_place_3 rfl ?_
  refine g_iload_n hC dL_place_4 rfl ?_
  refine g_iload_n hC dL_place_5 rfl ?_
  refine g_iload_n hC dL_place_6 rfl ?_
  refine g_callVX (rest := [vi (0), .ref (ad (30, 0, 0))]) hC (kX6_place hl hI hS hE hQ a b r r_a r_b r_r gh hR) gc_RL_17 rfl f1 rfl ⟨by decide, by decide⟩ ⟨by decide, by decide⟩ (Nat.le_of_ble_eq_true rfl) rfl dL_place_7 (fun E g hx => ?_) (fun r0 g hp => ?_)
  · obtain ⟨hg, hx⟩ := hx
    rw [hg]
    rcases hx with ⟨h1, rfl⟩ | ⟨h1, h2, rfl⟩
    · refine g_catch1 hC hq rfl (by decide) cl13 ca_iae (fun q => ?_)
      refine g_ast (lv' := [some (.ref (ad (2, 0, 0))), some (vi (a)), some (vi (b)), some (vi (r)), some (.ref (ad (30, 0, 0))), some (.ref q)]) hC dL_place_15 (by decide) rfl ?_
      refine g_iconst hC dL_place_17 rfl ?_
      exact g_iretW hC hq dL_place_18 (by decide) (by decide) ⟨by rw [h1]; rfl, ad, ct, f0, hR, fun _ _ => ⟨rfl, rfl⟩, rfl, rfl, ho, by rw [if_neg (by rw [h1]; simp)]; exact hS⟩
    · have h2b := h2
      refine g_catch2 hC hq rfl (by decide) (by decide) cl13 (by decide) cl15 ca_ise (fun q => ?_)
      refine g_ast (lv' := [some (.ref (ad (2, 0, 0))), some (vi (a)), some (vi (b)), some (vi (r)), some (.ref (ad (30, 0, 0))), some (.ref q)]) hC dL_place_19 (by decide) rfl ?_
      refine g_iconst hC dL_place_21 rfl ?_
      exact g_iretW hC hq dL_place_22 (by decide) (by decide) ⟨by rw [h2b, h1]; rfl, ad, ct, f0, hR, fun _ _ => ⟨rfl, rfl⟩, rfl, rfl, ho, by rw [if_neg (by rw [h2b, h1]; simp)]; exact hS⟩
  · obtain ⟨rfl, hA, hB, ad2, ct2, h2R, hS2, hx2⟩ := hp
    have hBb := hB
    have e30 := hx2.1 (30, 0, 0) (Or.inr (by decide))
    have ho2 : g (ad (30, 0, 0)) = some (gL 3 1 f0) := by have h9_ := h2R.1 (30, 0, 0) _ (e30.1.trans ho); rw [e30.2] at h9_; exact h9_
    refine gV.eqs (st' := [vi (z 3), vi (0), .ref (ad (30, 0, 0))]) rfl rfl rfl ?_
    refine g_i2l hC dL_place_10 ?_
    refine g_last hC dL_place_11 ho2 (by decide) (by decide) ?_
    have h3R := h2R.put (t := (30, 0, 0)) (e30.1.trans ho) (gL 3 1 (gup f0 (0 : Int).toNat (iI (z 3)).toInt64))
    rw [e30.2] at h3R
    refine g_goto (tgt := 23) hC dL_place_12 (by decide) ?_
    refine g_iconst hC dL_place_23 rfl ?_
    refine g_iretW hC hq dL_place_24 (by decide) (by decide) ⟨by rw [hBb, hA]; rfl, ad2, _, _, h3R, fun t ht => ⟨?_, (hx2.1 t (Or.inl ht)).2⟩, hx2.2, e30.2, cup_eq, ?_⟩
    · rw [cup_ne (fun e => by rw [e] at ht; exact absurd ht (by decide))]; exact (hx2.1 t (Or.inl ht)).1
    · rw [if_pos (by rw [hBb, hA]; rfl)]
      exact ⟨hS2.fr (fun t h1 h2 => cup_ne (fun e => by rw [e] at h2; exact absurd h2 (by decide))), rfl⟩

set_option maxHeartbeats 4000000 in
set_option maxRecDepth 100000 in
theorem kL_name {l : Launch} (hl : l.stackTraces = false) {D : gD} {base : Nat}  {ad : Tg → Nat} {z : Nat → Int} {F : Nat → Nat → Int} {ct : Tg → Option gC} (hI : mI z F) (hS : ST ad z F ct) (hE : mE z F) (hQ : eQ z F) (i : Int) (r_i : -2147483648 ≤ i ∧ i < 2147483648) {f0 : Nat → Int64} (ho : ct (30, 0, 0) = some (gL 3 1 f0)) (gh : gH) (hR : cR ad ct gh) : gMW l D base yL_name cL_name 4 (some Jvm.ClassFile.FieldType.int) [((0 : Nat), (9 : Nat), (12 : Nat), (25 : Nat)), ((0 : Nat), (9 : Nat), (15 : Nat), (15 : Nat))] 10 222 4 28 [.ref (ad (2, 0, 0)), vi (i), .ref (ad (30, 0, 0))] gh (fun rr gh' => rr = some (vi (goesN (inB i 0 (z 3 - 1)) (decide (0 < z 1) && decide (F 7 (if inB i 0 (z 3 - 1) = true then i.toNat else 0) < 6)) true)) ∧ ∃ (ad' : Tg → Nat) (ct' : Tg → Option gC) (f1 : Nat → Int64), cR ad' ct' gh' ∧ (∀ t : Tg, t.1 ≤ 1 → ct' t = ct t ∧ ad' t = ad t) ∧ ad' (2, 0, 0) = ad (2, 0, 0) ∧ ad' (30, 0, 0) = ad (30, 0, 0) ∧ ct' (30, 0, 0) = some (gL 3 1 f1) ∧ (if ((inB i 0 (z 3 - 1)) && (decide (0 < z 1) && decide (F 7 (if inB i 0 (z 3 - 1) = true then i.toNat else 0) < 6)) && true) = true then ST ad' (gup z 1 0) (namF z F i.toNat) ct' ∧ f1 0 = (iI (pushUp F (namF z F i.toNat) i.toNat (z 3).toNat (z 0) (z 11).toNat)).toInt64 else ST ad' z F ct')) := by
  refine gMW.of hl (by decide) (by simp [Value.category]) (Nat.le_of_ble_eq_true rfl) [some (.ref (ad (2, 0, 0))), some (vi (i)), some (.ref (ad (30, 0, 0))), none] rfl (fun x hC hq => ?_)
  have f1 : gh (ad (2, 0, 0)) = some (gO 10 [.ref (ad (2, 1, 0)), .ref (ad (2, 3, 0)), .ref (ad (2, 4, 0)), .ref (ad (2, 5, 0)), vi (z 3), vi (z 11), vi (z 22), vi (z 0)]) := hR.1 _ _ (hS.1)
  refine g_ald_n hC dL_name_0 rfl ?_
  refine g_iconst hC dL_name_1 rfl ?_
  refine g_ald_n hC dL_name_2 rfl ?_
  refine g_iload_n hC dL_name_3 rfl ?_
  refine g_callVX (rest := [vi (0), .ref (ad (30, 0, 0))]) hC (kX6_name hl hI hS hE hQ i r_i gh hR) gc_RL_21 rfl f1 rfl ⟨by decide, by decide⟩ ⟨by decide, by decide⟩ (Nat.le_of_ble_eq_true rfl) rfl dL_name_4 (fun E g hx => ?_) (fun r0 g hp => ?_)
  · obtain ⟨hg, hx⟩ := hx
    rw [hg]
    rcases hx with ⟨h1, rfl⟩ | ⟨h1, h2, rfl⟩
    · refine g_catch1 hC hq rfl (by decide) cl25 ca_iob (fun q => ?_)
      refine g_ast_n (lv' := [some (.ref (ad (2, 0, 0))), some (vi (i)), some (.ref (ad (30, 0, 0))), some (.ref q)]) hC dL_name_12 (by decide) rfl ?_
      refine g_iconst hC dL_name_13 rfl ?_
      exact g_iretW hC hq dL_name_14 (by decide) (by decide) ⟨by rw [h1]; rfl, ad, ct, f0, hR, fun _ _ => ⟨rfl, rfl⟩, rfl, rfl, ho, by rw [if_neg (by rw [h1]; simp)]; exact hS⟩
    · have h2b : (decide (0 < z 1) && decide (F 7 (if inB i 0 (z 3 - 1) = true then i.toNat else 0) < 6)) = false := by rw [if_pos h1]; exact h2
      refine g_catch2 hC hq rfl (by decide) (by decide) cl25 (by decide) cl15 ca_ise (fun q => ?_)
      refine g_ast_n (lv' := [some (.ref (ad (2, 0, 0))), some (vi (i)), some (.ref (ad (30, 0, 0))), some (.ref q)]) hC dL_name_15 (by decide) rfl ?_
      refine g_iconst hC dL_name_16 rfl ?_
      exact g_iretW hC hq dL_name_17 (by decide) (by decide) ⟨by rw [h2b, h1]; rfl, ad, ct, f0, hR, fun _ _ => ⟨rfl, rfl⟩, rfl, rfl, ho, by rw [if_neg (by rw [h2b, h1]; simp)]; exact hS⟩
  · obtain ⟨rfl, hA, hB, ad2, ct2, h2R, hS2, hx2⟩ := hp
    have hBb : (decide (0 < z 1) && decide (F 7 (if inB i 0 (z 3 - 1) = true then i.toNat else 0) < 6)) = true := by rw [if_pos hA]; exact hB
    have e30 := hx2.1 (30, 0, 0) (Or.inr (by decide))
    have ho2 : g (ad (30, 0, 0)) = some (gL 3 1 f0) := by have h9_ := h2R.1 (30, 0, 0) _ (e30.1.trans ho); rw [e30.2] at h9_; exact h9_
    refine gV.eqs (st' := [vi (pushUp F (namF z F i.toNat) i.toNat (z 3).toNat (z 0) (z 11).toNat), vi (0), .ref (ad (30, 0, 0))]) rfl rfl rfl ?_
    refine g_i2l hC dL_name_7 ?_
    refine g_last hC dL_name_8 ho2 (by decide) (by decide) ?_
    have h3R := h2R.put (t := (30, 0, 0)) (e30.1.trans ho) (gL 3 1 (gup f0 (0 : Int).toNat (iI (pushUp F (namF z F i.toNat) i.toNat (z 3).toNat (z 0) (z 11).toNat)).toInt64))
    rw [e30.2] at h3R
    refine g_goto (tgt := 18) hC dL_name_9 (by decide) ?_
    refine g_iconst hC dL_name_18 rfl ?_
    refine g_iretW hC hq dL_name_19 (by decide) (by decide) ⟨by rw [hBb, hA]; rfl, ad2, _, _, h3R, fun t ht => ⟨?_, (hx2.1 t (Or.inl ht)).2⟩, hx2.2, e30.2, cup_eq, ?_⟩
    · rw [cup_ne (fun e => by rw [e] at ht; exact absurd ht (by decide))]; exact (hx2.1 t (Or.inl ht)).1
    · rw [if_pos (by rw [hBb, hA]; rfl)]
      exact ⟨hS2.fr (fun t h1 h2 => cup_ne (fun e => by rw [e] at h2; exact absurd h2 (by decide))), rfl⟩

set_option maxHeartbeats 4000000 in
set_option maxRecDepth 100000 in
theorem kL_spelled {l : Launch} (hl : l.stackTraces = false) {D : gD} {base : Nat}  {ad : Tg → Nat} {z : Nat → Int} {F : Nat → Nat → Int} {ct : Tg → Option gC} (hI : mI z F) (hS : ST ad z F ct) (hE : mE z F) (hQ : eQ z F) (i on wh : Int) (r_i : -2147483648 ≤ i ∧ i < 2147483648) (r_on : -2147483648 ≤ on ∧ on < 2147483648) (r_wh : -2147483648 ≤ wh ∧ wh < 2147483648) {f0 : Nat → Int64} (ho : ct (30, 0, 0) = some (gL 3 1 f0)) (gh : gH) (hR : cR ad ct gh) : gMW l D base yL_spelled cL_spelled 6 (some Jvm.ClassFile.FieldType.int) [((0 : Nat), (12 : Nat), (15 : Nat), (25 : Nat)), ((0 : Nat), (12 : Nat), (19 : Nat), (13 : Nat))] 8 128 2 12 [.ref (ad (2, 0, 0)), vi (i), vi (on), vi (wh), .ref (ad (30, 0, 0))] gh (fun rr gh' => rr = some (vi (goesN (inB i 0 (z 3 - 1) && decide (0 ≤ wh)) (inB on 0 10000) true)) ∧ ∃ (ad' : Tg → Nat) (ct' : Tg → Option gC) (f1 : Nat → Int64), cR ad' ct' gh' ∧ (∀ t : Tg, t.1 ≤ 1 → ct' t = ct t ∧ ad' t = ad t) ∧ ad' (2, 0, 0) = ad (2, 0, 0) ∧ ad' (30, 0, 0) = ad (30, 0, 0) ∧ ct' (30, 0, 0) = some (gL 3 1 f1) ∧ (if ((inB i 0 (z 3 - 1) && decide (0 ≤ wh)) && (inB on 0 10000) && true) = true then ST ad' (z) (F) ct' ∧ f1 0 = (iI (spV F on wh i.toNat)).toInt64 else ST ad' z F ct')) := by
  refine gMW.of hl (by decide) (by simp [Value.category]) (Nat.le_of_ble_eq_true rfl) [some (.ref (ad (2, 0, 0))), some (vi (i)), some (vi (on)), some (vi (wh)), some (.ref (ad (30, 0, 0))), none] rfl (fun x hC hq => ?_)
  have f1 : gh (ad (2, 0, 0)) = some (gO 10 [.ref (ad (2, 1, 0)), .ref (ad (2, 3, 0)), .ref (ad (2, 4, 0)), .ref (ad (2, 5, 0)), vi (z 3), vi (z 11), vi (z 22), vi (z 0)]) := hR.1 _ _ (hS.1)
  refine g_ald hC dL_spelled_0 rfl ?_
  refine g_iconst hC dL_spelled_2 rfl ?_
  refine g_ald_n hC dL_spelled_3 rfl ?_
  refine g_iload_n hC dL_spelled_4 rfl ?_
  refine g_iload_n hC dL_spelled_5 rfl ?_
  refine g_iload_n hC dL_spelled_6 rfl ?_
  refine g_callVX (rest := [vi (0), .ref (ad (30, 0, 0))]) hC (kX6_spelled hl hI hS i on wh r_i r_on r_wh gh hR) gc_RL_27 rfl f1 rfl ⟨by decide, by decide⟩ ⟨by decide, by decide⟩ (Nat.le_of_ble_eq_true rfl) rfl dL_spelled_7 (fun E g hx => ?_) (fun r0 g hp => ?_)
  · obtain ⟨hg, hx⟩ := hx
    rw [hg]
    rcases hx with ⟨h1, rfl⟩ | ⟨h1, h2, rfl⟩
    · refine g_catch1 hC hq rfl (by decide) cl25 ca_iob (fun q => ?_)
      refine g_ast (lv' := [some (.ref (ad (2, 0, 0))), some (vi (i)), some (vi (on)), some (vi (wh)), some (.ref (ad (30, 0, 0))), some (.ref q)]) hC dL_spelled_15 (by decide) rfl ?_
      refine g_iconst hC dL_spelled_17 rfl ?_
      exact g_iretW hC hq dL_spelled_18 (by decide) (by decide) ⟨by rw [h1]; rfl, ad, ct, f0, hR, fun _ _ => ⟨rfl, rfl⟩, rfl, rfl, ho, by rw [if_neg (by rw [h1]; simp)]; exact hS⟩
    · have h2b := h2
      refine g_catch2 hC hq rfl (by decide) (by decide) cl25 (by decide) cl13 ca_iae (fun q => ?_)
      refine g_ast (lv' := [some (.ref (ad (2, 0, 0))), some (vi (i)), some (vi (on)), some (vi (wh)), some (.ref (ad (30, 0, 0))), some (.ref q)]) hC dL_spelled_19 (by decide) rfl ?_
      refine g_iconst hC dL_spelled_21 rfl ?_
      exact g_iretW hC hq dL_spelled_22 (by decide) (by decide) ⟨by rw [h2b, h1]; rfl, ad, ct, f0, hR, fun _ _ => ⟨rfl, rfl⟩, rfl, rfl, ho, by rw [if_neg (by rw [h2b, h1]; simp)]; exact hS⟩
  · obtain ⟨rfl, hg, hA, hB⟩ := hp
    rw [hg]
    obtain ⟨ad2, ct2, h2R, hS2, hx2⟩ : xOK ad ct z F gh := ⟨ad, ct, hR, hS, xF.rf⟩
    have hBb := hB
    have e30 := hx2.1 (30, 0, 0) (Or.inr (by decide))
    have ho2 : gh (ad (30, 0, 0)) = some (gL 3 1 f0) := by have h9_ := h2R.1 (30, 0, 0) _ (e30.1.trans ho); rw [e30.2] at h9_; exact h9_
    refine gV.eqs (st' := [vi (spV F on wh i.toNat), vi (0), .ref (ad (30, 0, 0))]) rfl rfl rfl ?_
    refine g_i2l hC dL_spelled_10 ?_
    refine g_last hC dL_spelled_11 ho2 (by decide) (by decide) ?_
    have h3R := h2R.put (t := (30, 0, 0)) (e30.1.trans ho) (gL 3 1 (gup f0 (0 : Int).toNat (iI (spV F on wh i.toNat)).toInt64))
    rw [e30.2] at h3R
    refine g_goto (tgt := 23) hC dL_spelled_12 (by decide) ?_
    refine g_iconst hC dL_spelled_23 rfl ?_
    refine g_iretW hC hq dL_spelled_24 (by decide) (by decide) ⟨by rw [hBb, hA]; rfl, ad2, _, _, h3R, fun t ht => ⟨?_, (hx2.1 t (Or.inl ht)).2⟩, hx2.2, e30.2, cup_eq, ?_⟩
    · rw [cup_ne (fun e => by rw [e] at ht; exact absurd ht (by decide))]; exact (hx2.1 t (Or.inl ht)).1
    · rw [if_pos (by rw [hBb, hA]; rfl)]
      exact ⟨hS2.fr (fun t h1 h2 => cup_ne (fun e => by rw [e] at h2; exact absurd h2 (by decide))), rfl⟩

set_option maxHeartbeats 4000000 in
set_option maxRecDepth 100000 in
theorem kL_pass {l : Launch} (hl : l.stackTraces = false) {D : gD} {base : Nat}  {ad : Tg → Nat} {z : Nat → Int} {F : Nat → Nat → Int} {ct : Tg → Option gC} (hI : mI z F) (hS : ST ad z F ct) (hE : mE z F) (hQ : eQ z F) (d : Int) (r_d : -2147483648 ≤ d ∧ d < 2147483648) {f0 : Nat → Int64} (ho : ct (30, 0, 0) = some (gL 3 1 f0)) (gh : gH) (hR : cR ad ct gh) : gMW l D base yL_pass cL_pass 4 (some Jvm.ClassFile.FieldType.int) [((0 : Nat), (9 : Nat), (12 : Nat), (13 : Nat)), ((0 : Nat), (9 : Nat), (15 : Nat), (15 : Nat))] 7 103 1 6 [.ref (ad (2, 0, 0)), vi (d), .ref (ad (30, 0, 0))] gh (fun rr gh' => rr = some (vi (goesN (inB d 1 1000) (decide (iI (z 0 + d) ≤ iI 10000)) true)) ∧ ∃ (ad' : Tg → Nat) (ct' : Tg → Option gC) (f1 : Nat → Int64), cR ad' ct' gh' ∧ (∀ t : Tg, t.1 ≤ 1 → ct' t = ct t ∧ ad' t = ad t) ∧ ad' (2, 0, 0) = ad (2, 0, 0) ∧ ad' (30, 0, 0) = ad (30, 0, 0) ∧ ct' (30, 0, 0) = some (gL 3 1 f1) ∧ (if ((inB d 1 1000) && (decide (iI (z 0 + d) ≤ iI 10000)) && true) = true then ST ad' (gup z 0 (z 0 + d)) (F) ct' ∧ f1 0 = (iI (z 0 + d)).toInt64 else ST ad' z F ct')) := by
  refine gMW.of hl (by decide) (by simp [Value.category]) (Nat.le_of_ble_eq_true rfl) [some (.ref (ad (2, 0, 0))), some (vi (d)), some (.ref (ad (30, 0, 0))), none] rfl (fun x hC hq => ?_)
  have f1 : gh (ad (2, 0, 0)) = some (gO 10 [.ref (ad (2, 1, 0)), .ref (ad (2, 3, 0)), .ref (ad (2, 4, 0)), .ref (ad (2, 5, 0)), vi (z 3), vi (z 11), vi (z 22), vi (z 0)]) := hR.1 _ _ (hS.1)
  refine g_ald_n hC dL_pass_0 rfl ?_
  refine g_iconst hC dL_pass_1 rfl ?_
  refine g_ald_n hC dL_pass_2 rfl ?_
  refine g_iload_n hC dL_pass_3 rfl ?_
  refine g_callVX (rest := [vi (0), .ref (ad (30, 0, 0))]) hC (kX6_pass hl hI hS d r_d gh hR) gc_RL_31 rfl f1 rfl ⟨by decide, by decide⟩ ⟨by decide, by decide⟩ (Nat.le_of_ble_eq_true rfl) rfl dL_pass_4 (fun E g hx => ?_) (fun r0 g hp => ?_)
  · obtain ⟨hg, hx⟩ := hx
    rw [hg]
    rcases hx with ⟨h1, rfl⟩ | ⟨h1, h2, rfl⟩
    · refine g_catch1 hC hq rfl (by decide) cl13 ca_iae (fun q => ?_)
      refine g_ast_n (lv' := [some (.ref (ad (2, 0, 0))), some (vi (d)), some (.ref (ad (30, 0, 0))), some (.ref q)]) hC dL_pass_12 (by decide) rfl ?_
      refine g_iconst hC dL_pass_13 rfl ?_
      exact g_iretW hC hq dL_pass_14 (by decide) (by decide) ⟨by rw [h1]; rfl, ad, ct, f0, hR, fun _ _ => ⟨rfl, rfl⟩, rfl, rfl, ho, by rw [if_neg (by rw [h1]; simp)]; exact hS⟩
    · have h2b : (decide (iI (z 0 + d) ≤ iI 10000)) = false := by rw [← h2]; have h3 := inB_t h1; have i0 := hI.1; exact decide_eq_decide.mpr (iI_le (by omega) (by decide))
      refine g_catch2 hC hq rfl (by decide) (by decide) cl13 (by decide) cl15 ca_ise (fun q => ?_)
      refine g_ast_n (lv' := [some (.ref (ad (2, 0, 0))), some (vi (d)), some (.ref (ad (30, 0, 0))), some (.ref q)]) hC dL_pass_15 (by decide) rfl ?_
      refine g_iconst hC dL_pass_16 rfl ?_
      exact g_iretW hC hq dL_pass_17 (by decide) (by decide) ⟨by rw [h2b, h1]; rfl, ad, ct, f0, hR, fun _ _ => ⟨rfl, rfl⟩, rfl, rfl, ho, by rw [if_neg (by rw [h2b, h1]; simp)]; exact hS⟩
  · obtain ⟨rfl, hA, hB, ad2, ct2, h2R, hS2, hx2⟩ := hp
    have hBb : (decide (iI (z 0 + d) ≤ iI 10000)) = true := by rw [← hB]; have h3 := inB_t hA; have i0 := hI.1; exact decide_eq_decide.mpr (iI_le (by omega) (by decide))
    have e30 := hx2.1 (30, 0, 0) (Or.inr (by decide))
    have ho2 : g (ad (30, 0, 0)) = some (gL 3 1 f0) := by have h9_ := h2R.1 (30, 0, 0) _ (e30.1.trans ho); rw [e30.2] at h9_; exact h9_
    refine gV.eqs (st' := [vi (z 0 + d), vi (0), .ref (ad (30, 0, 0))]) rfl rfl rfl ?_
    refine g_i2l hC dL_pass_7 ?_
    refine g_last hC dL_pass_8 ho2 (by decide) (by decide) ?_
    have h3R := h2R.put (t := (30, 0, 0)) (e30.1.trans ho) (gL 3 1 (gup f0 (0 : Int).toNat (iI (z 0 + d)).toInt64))
    rw [e30.2] at h3R
    refine g_goto (tgt := 18) hC dL_pass_9 (by decide) ?_
    refine g_iconst hC dL_pass_18 rfl ?_
    refine g_iretW hC hq dL_pass_19 (by decide) (by decide) ⟨by rw [hBb, hA]; rfl, ad2, _, _, h3R, fun t ht => ⟨?_, (hx2.1 t (Or.inl ht)).2⟩, hx2.2, e30.2, cup_eq, ?_⟩
    · rw [cup_ne (fun e => by rw [e] at ht; exact absurd ht (by decide))]; exact (hx2.1 t (Or.inl ht)).1
    · rw [if_pos (by rw [hBb, hA]; rfl)]
      exact ⟨hS2.fr (fun t h1 h2 => cup_ne (fun e => by rw [e] at h2; exact absurd h2 (by decide))), rfl⟩

set_option maxHeartbeats 4000000 in
set_option maxRecDepth 100000 in
theorem kL_sheet {l : Launch} (hl : l.stackTraces = false) {D : gD} {base : Nat}  {ad : Tg → Nat} {z : Nat → Int} {F : Nat → Nat → Int} {ct : Tg → Option gC} (hI : mI z F) (hS : ST ad z F ct) (hE : mE z F) (hQ : eQ z F) (a b r : Int) (r_a : -2147483648 ≤ a ∧ a < 2147483648) (r_b : -2147483648 ≤ b ∧ b < 2147483648) (r_r : -2147483648 ≤ r ∧ r < 2147483648) {f0 : Nat → Int64} (ho : ct (30, 0, 0) = some (gL 3 1 f0)) (gh : gH) (hR : cR ad ct gh) : gMW l D base yL_sheet cL_sheet 6 (some Jvm.ClassFile.FieldType.int) [((0 : Nat), (12 : Nat), (15 : Nat), (13 : Nat)), ((0 : Nat), (12 : Nat), (19 : Nat), (15 : Nat))] 9 201 21 2057 [.ref (ad (2, 0, 0)), vi (a), vi (b), vi (r), .ref (ad (30, 0, 0))] gh (fun rr gh' => rr = some (vi (goesN (inB a (-180) 150 && inB b (-60) 41 && inB r (0) 1) (decide (z 11 < 4)) true)) ∧ ∃ (ad' : Tg → Nat) (ct' : Tg → Option gC) (f1 : Nat → Int64), cR ad' ct' gh' ∧ (∀ t : Tg, t.1 ≤ 1 → ct' t = ct t ∧ ad' t = ad t) ∧ ad' (2, 0, 0) = ad (2, 0, 0) ∧ ad' (30, 0, 0) = ad (30, 0, 0) ∧ ct' (30, 0, 0) = some (gL 3 1 f1) ∧ (if ((inB a (-180) 150 && inB b (-60) 41 && inB r (0) 1) && (decide (z 11 < 4)) && true) = true then ST ad' (gup z 11 (z 11 + 1)) (shF z F a b r) ct' ∧ f1 0 = (iI (z 11)).toInt64 else ST ad' z F ct')) := by
  refine gMW.of hl (by decide) (by simp [Value.category]) (Nat.le_of_ble_eq_true rfl) [some (.ref (ad (2, 0, 0))), some (vi (a)), some (vi (b)), some (vi (r)), some (.ref (ad (30, 0, 0))), none] rfl (fun x hC hq => ?_)
  have f1 : gh (ad (2, 0, 0)) = some (gO 10 [.ref (ad (2, 1, 0)), .ref (ad (2, 3, 0)), .ref (ad (2, 4, 0)), .ref (ad (2, 5, 0)), vi (z 3), vi (z 11), vi (z 22), vi (z 0)]) := hR.1 _ _ (hS.1)
  refine g_ald hC dL_sheet_0 rfl ?_
  refine g_iconst hC dL_sheet_2 rfl ?_
  refine g_ald_n hC dL_sheet_3 rfl ?_
  refine g_iload_n hC dL_sheet_4 rfl ?_
  refine g_iload_n hC dL_sheet_5 rfl ?_
  refine g_iload_n hC dL_sheet_6 rfl ?_
  refine g_callVX (rest := [vi (0), .ref (ad (30, 0, 0))]) hC (kX6_sheet hl hI hS hE hQ a b r r_a r_b r_r gh hR) gc_RL_34 rfl f1 rfl ⟨by decide, by decide⟩ ⟨by decide, by decide⟩ (Nat.le_of_ble_eq_true rfl) rfl dL_sheet_7 (fun E g hx => ?_) (fun r0 g hp => ?_)
  · obtain ⟨hg, hx⟩ := hx
    rw [hg]
    rcases hx with ⟨h1, rfl⟩ | ⟨h1, h2, rfl⟩
    · refine g_catch1 hC hq rfl (by decide) cl13 ca_iae (fun q => ?_)
      refine g_ast (lv' := [some (.ref (ad (2, 0, 0))), some (vi (a)), some (vi (b)), some (vi (r)), some (.ref (ad (30, 0, 0))), some (.ref q)]) hC dL_sheet_15 (by decide) rfl ?_
      refine g_iconst hC dL_sheet_17 rfl ?_
      exact g_iretW hC hq dL_sheet_18 (by decide) (by decide) ⟨by rw [h1]; rfl, ad, ct, f0, hR, fun _ _ => ⟨rfl, rfl⟩, rfl, rfl, ho, by rw [if_neg (by rw [h1]; simp)]; exact hS⟩
    · have h2b := h2
      refine g_catch2 hC hq rfl (by decide) (by decide) cl13 (by decide) cl15 ca_ise (fun q => ?_)
      refine g_ast (lv' := [some (.ref (ad (2, 0, 0))), some (vi (a)), some (vi (b)), some (vi (r)), some (.ref (ad (30, 0, 0))), some (.ref q)]) hC dL_sheet_19 (by decide) rfl ?_
      refine g_iconst hC dL_sheet_21 rfl ?_
      exact g_iretW hC hq dL_sheet_22 (by decide) (by decide) ⟨by rw [h2b, h1]; rfl, ad, ct, f0, hR, fun _ _ => ⟨rfl, rfl⟩, rfl, rfl, ho, by rw [if_neg (by rw [h2b, h1]; simp)]; exact hS⟩
  · obtain ⟨rfl, hA, hB, ad2, ct2, h2R, hS2, hx2⟩ := hp
    have hBb := hB
    have e30 := hx2.1 (30, 0, 0) (Or.inr (by decide))
    have ho2 : g (ad (30, 0, 0)) = some (gL 3 1 f0) := by have h9_ := h2R.1 (30, 0, 0) _ (e30.1.trans ho); rw [e30.2] at h9_; exact h9_
    refine gV.eqs (st' := [vi (z 11), vi (0), .ref (ad (30, 0, 0))]) rfl rfl rfl ?_
    refine g_i2l hC dL_sheet_10 ?_
    refine g_last hC dL_sheet_11 ho2 (by decide) (by decide) ?_
    have h3R := h2R.put (t := (30, 0, 0)) (e30.1.trans ho) (gL 3 1 (gup f0 (0 : Int).toNat (iI (z 11)).toInt64))
    rw [e30.2] at h3R
    refine g_goto (tgt := 23) hC dL_sheet_12 (by decide) ?_
    refine g_iconst hC dL_sheet_23 rfl ?_
    refine g_iretW hC hq dL_sheet_24 (by decide) (by decide) ⟨by rw [hBb, hA]; rfl, ad2, _, _, h3R, fun t ht => ⟨?_, (hx2.1 t (Or.inl ht)).2⟩, hx2.2, e30.2, cup_eq, ?_⟩
    · rw [cup_ne (fun e => by rw [e] at ht; exact absurd ht (by decide))]; exact (hx2.1 t (Or.inl ht)).1
    · rw [if_pos (by rw [hBb, hA]; rfl)]
      exact ⟨hS2.fr (fun t h1 h2 => cup_ne (fun e => by rw [e] at h2; exact absurd h2 (by decide))), rfl⟩

set_option maxHeartbeats 4000000 in
set_option maxRecDepth 100000 in
theorem kL_dot {l : Launch} (hl : l.stackTraces = false) {D : gD} {base : Nat}  {ad : Tg → Nat} {z : Nat → Int} {F : Nat → Nat → Int} {ct : Tg → Option gC} (hI : mI z F) (hS : ST ad z F ct) (hE : mE z F) (hQ : eQ z F) (s p : Int) (b : Bool) (r_s : -2147483648 ≤ s ∧ s < 2147483648) (r_p : -2147483648 ≤ p ∧ p < 2147483648) {f0 : Nat → Int64} (ho : ct (30, 0, 0) = some (gL 3 1 f0)) (gh : gH) (hR : cR ad ct gh) : gMW l D base yL_dot cL_dot 6 (some Jvm.ClassFile.FieldType.int) [((0 : Nat), (12 : Nat), (15 : Nat), (25 : Nat))] 9 150 2 12 [.ref (ad (2, 0, 0)), vi (s), vi (p), vi (b2i (b)), .ref (ad (30, 0, 0))] gh (fun rr gh' => rr = some (vi (goesN (inB s 0 (z 11 - 1) && inB p 0 (z 3 - 1)) (true) true)) ∧ ∃ (ad' : Tg → Nat) (ct' : Tg → Option gC) (f1 : Nat → Int64), cR ad' ct' gh' ∧ (∀ t : Tg, t.1 ≤ 1 → ct' t = ct t ∧ ad' t = ad t) ∧ ad' (2, 0, 0) = ad (2, 0, 0) ∧ ad' (30, 0, 0) = ad (30, 0, 0) ∧ ct' (30, 0, 0) = some (gL 3 1 f1) ∧ (if ((inB s 0 (z 11 - 1) && inB p 0 (z 3 - 1)) && (true) && true) = true then ST ad' (z) (F) ct' ∧ f1 0 = (iI (dotV F s.toNat p.toNat b)).toInt64 else ST ad' z F ct')) := by
  refine gMW.of hl (by decide) (by simp [Value.category]) (Nat.le_of_ble_eq_true rfl) [some (.ref (ad (2, 0, 0))), some (vi (s)), some (vi (p)), some (vi (b2i (b))), some (.ref (ad (30, 0, 0))), none] rfl (fun x hC hq => ?_)
  have f1 : gh (ad (2, 0, 0)) = some (gO 10 [.ref (ad (2, 1, 0)), .ref (ad (2, 3, 0)), .ref (ad (2, 4, 0)), .ref (ad (2, 5, 0)), vi (z 3), vi (z 11), vi (z 22), vi (z 0)]) := hR.1 _ _ (hS.1)
  refine g_ald hC dL_dot_0 rfl ?_
  refine g_iconst hC dL_dot_2 rfl ?_
  refine g_ald_n hC dL_dot_3 rfl ?_
  refine g_iload_n hC dL_dot_4 rfl ?_
  refine g_iload_n hC dL_dot_5 rfl ?_
  refine g_iload_n hC dL_dot_6 rfl ?_
  refine g_callVX (rest := [vi (0), .ref (ad (30, 0, 0))]) hC (kX6_dot hl hI hS s p b r_s r_p gh hR) gc_RL_37 rfl f1 rfl ⟨by decide, by decide⟩ ⟨by decide, by decide⟩ (Nat.le_of_ble_eq_true rfl) rfl dL_dot_7 (fun E g hx => ?_) (fun r0 g hp => ?_)
  · obtain ⟨hg, hx⟩ := hx
    rw [hg]
    obtain ⟨h1, rfl⟩ := hx
    refine g_catch1 hC hq rfl (by decide) cl25 ca_iob (fun q => ?_)
    refine g_ast (lv' := [some (.ref (ad (2, 0, 0))), some (vi (s)), some (vi (p)), some (vi (b2i (b))), some (.ref (ad (30, 0, 0))), some (.ref q)]) hC dL_dot_15 (by decide) rfl ?_
    refine g_iconst hC dL_dot_17 rfl ?_
    exact g_iretW hC hq dL_dot_18 (by decide) (by decide) ⟨by rw [h1]; rfl, ad, ct, f0, hR, fun _ _ => ⟨rfl, rfl⟩, rfl, rfl, ho, by rw [if_neg (by rw [h1]; simp)]; exact hS⟩
  · obtain ⟨rfl, hg, hA⟩ := hp
    rw [hg]
    obtain ⟨ad2, ct2, h2R, hS2, hx2⟩ : xOK ad ct z F gh := ⟨ad, ct, hR, hS, xF.rf⟩
    have e30 := hx2.1 (30, 0, 0) (Or.inr (by decide))
    have ho2 : gh (ad (30, 0, 0)) = some (gL 3 1 f0) := by have h9_ := h2R.1 (30, 0, 0) _ (e30.1.trans ho); rw [e30.2] at h9_; exact h9_
    refine gV.eqs (st' := [vi (dotV F s.toNat p.toNat b), vi (0), .ref (ad (30, 0, 0))]) rfl rfl rfl ?_
    refine g_i2l hC dL_dot_10 ?_
    refine g_last hC dL_dot_11 ho2 (by decide) (by decide) ?_
    have h3R := h2R.put (t := (30, 0, 0)) (e30.1.trans ho) (gL 3 1 (gup f0 (0 : Int).toNat (iI (dotV F s.toNat p.toNat b)).toInt64))
    rw [e30.2] at h3R
    refine g_goto (tgt := 19) hC dL_dot_12 (by decide) ?_
    refine g_iconst hC dL_dot_19 rfl ?_
    refine g_iretW hC hq dL_dot_20 (by decide) (by decide) ⟨by rw [hA]; rfl, ad2, _, _, h3R, fun t ht => ⟨?_, (hx2.1 t (Or.inl ht)).2⟩, hx2.2, e30.2, cup_eq, ?_⟩
    · rw [cup_ne (fun e => by rw [e] at ht; exact absurd ht (by decide))]; exact (hx2.1 t (Or.inl ht)).1
    · rw [if_pos (by rw [hA]; rfl)]
      exact ⟨hS2.fr (fun t h1 h2 => cup_ne (fun e => by rw [e] at h2; exact absurd h2 (by decide))), rfl⟩

set_option maxHeartbeats 4000000 in
set_option maxRecDepth 100000 in
theorem kL_side {l : Launch} (hl : l.stackTraces = false) {D : gD} {base : Nat}  {ad : Tg → Nat} {z : Nat → Int} {F : Nat → Nat → Int} {ct : Tg → Option gC} (hI : mI z F) (hS : ST ad z F ct) (hE : mE z F) (hQ : eQ z F) (s p : Int) (r_s : -2147483648 ≤ s ∧ s < 2147483648) (r_p : -2147483648 ≤ p ∧ p < 2147483648) {f0 : Nat → Int64} (ho : ct (30, 0, 0) = some (gL 3 1 f0)) (gh : gH) (hR : cR ad ct gh) : gMW l D base yL_side cL_side 5 (some Jvm.ClassFile.FieldType.int) [((0 : Nat), (10 : Nat), (13 : Nat), (25 : Nat))] 9 148 2 12 [.ref (ad (2, 0, 0)), vi (s), vi (p), .ref (ad (30, 0, 0))] gh (fun rr gh' => rr = some (vi (goesN (inB s 0 (z 11 - 1) && inB p 0 (z 3 - 1)) (true) true)) ∧ ∃ (ad' : Tg → Nat) (ct' : Tg → Option gC) (f1 : Nat → Int64), cR ad' ct' gh' ∧ (∀ t : Tg, t.1 ≤ 1 → ct' t = ct t ∧ ad' t = ad t) ∧ ad' (2, 0, 0) = ad (2, 0, 0) ∧ ad' (30, 0, 0) = ad (30, 0, 0) ∧ ct' (30, 0, 0) = some (gL 3 1 f1) ∧ (if ((inB s 0 (z 11 - 1) && inB p 0 (z 3 - 1)) && (true) && true) = true then ST ad' (z) (F) ct' ∧ f1 0 = (iI ((lay0 F s.toNat (z 3).toNat (z 0)).1 p.toNat)).toInt64 else ST ad' z F ct')) := by
  refine gMW.of hl (by decide) (by simp [Value.category]) (Nat.le_of_ble_eq_true rfl) [some (.ref (ad (2, 0, 0))), some (vi (s)), some (vi (p)), some (.ref (ad (30, 0, 0))), none] rfl (fun x hC hq => ?_)
  have f1 : gh (ad (2, 0, 0)) = some (gO 10 [.ref (ad (2, 1, 0)), .ref (ad (2, 3, 0)), .ref (ad (2, 4, 0)), .ref (ad (2, 5, 0)), vi (z 3), vi (z 11), vi (z 22), vi (z 0)]) := hR.1 _ _ (hS.1)
  refine g_ald_n hC dL_side_0 rfl ?_
  refine g_iconst hC dL_side_1 rfl ?_
  refine g_ald_n hC dL_side_2 rfl ?_
  refine g_iload_n hC dL_side_3 rfl ?_
  refine g_iload_n hC dL_side_4 rfl ?_
  refine g_callVX (rest := [vi (0), .ref (ad (30, 0, 0))]) hC (kX6_side hl hI hS s p r_s r_p gh hR) gc_RL_41 rfl f1 rfl ⟨by decide, by decide⟩ ⟨by decide, by decide⟩ (Nat.le_of_ble_eq_true rfl) rfl dL_side_5 (fun E g hx => ?_) (fun r0 g hp => ?_)
  · obtain ⟨hg, hx⟩ := hx
    rw [hg]
    obtain ⟨h1, rfl⟩ := hx
    refine g_catch1 hC hq rfl (by decide) cl25 ca_iob (fun q => ?_)
    refine g_ast (lv' := [some (.ref (ad (2, 0, 0))), some (vi (s)), some (vi (p)), some (.ref (ad (30, 0, 0))), some (.ref q)]) hC dL_side_13 (by decide) rfl ?_
    refine g_iconst hC dL_side_15 rfl ?_
    exact g_iretW hC hq dL_side_16 (by decide) (by decide) ⟨by rw [h1]; rfl, ad, ct, f0, hR, fun _ _ => ⟨rfl, rfl⟩, rfl, rfl, ho, by rw [if_neg (by rw [h1]; simp)]; exact hS⟩
  · obtain ⟨rfl, hg, hA⟩ := hp
    rw [hg]
    obtain ⟨ad2, ct2, h2R, hS2, hx2⟩ : xOK ad ct z F gh := ⟨ad, ct, hR, hS, xF.rf⟩
    have e30 := hx2.1 (30, 0, 0) (Or.inr (by decide))
    have ho2 : gh (ad (30, 0, 0)) = some (gL 3 1 f0) := by have h9_ := h2R.1 (30, 0, 0) _ (e30.1.trans ho); rw [e30.2] at h9_; exact h9_
    refine gV.eqs (st' := [vi ((lay0 F s.toNat (z 3).toNat (z 0)).1 p.toNat), vi (0), .ref (ad (30, 0, 0))]) rfl rfl rfl ?_
    refine g_i2l hC dL_side_8 ?_
    refine g_last hC dL_side_9 ho2 (by decide) (by decide) ?_
    have h3R := h2R.put (t := (30, 0, 0)) (e30.1.trans ho) (gL 3 1 (gup f0 (0 : Int).toNat (iI ((lay0 F s.toNat (z 3).toNat (z 0)).1 p.toNat)).toInt64))
    rw [e30.2] at h3R
    refine g_goto (tgt := 17) hC dL_side_10 (by decide) ?_
    refine g_iconst hC dL_side_17 rfl ?_
    refine g_iretW hC hq dL_side_18 (by decide) (by decide) ⟨by rw [hA]; rfl, ad2, _, _, h3R, fun t ht => ⟨?_, (hx2.1 t (Or.inl ht)).2⟩, hx2.2, e30.2, cup_eq, ?_⟩
    · rw [cup_ne (fun e => by rw [e] at ht; exact absurd ht (by decide))]; exact (hx2.1 t (Or.inl ht)).1
    · rw [if_pos (by rw [hA]; rfl)]
      exact ⟨hS2.fr (fun t h1 h2 => cup_ne (fun e => by rw [e] at h2; exact absurd h2 (by decide))), rfl⟩

set_option maxHeartbeats 4000000 in
set_option maxRecDepth 100000 in
theorem kL_drawn {l : Launch} (hl : l.stackTraces = false) {D : gD} {base : Nat}  {ad : Tg → Nat} {z : Nat → Int} {F : Nat → Nat → Int} {ct : Tg → Option gC} (hI : mI z F) (hS : ST ad z F ct) (hE : mE z F) (hQ : eQ z F) (s r c : Int) (r_s : -2147483648 ≤ s ∧ s < 2147483648) (r_r : -2147483648 ≤ r ∧ r < 2147483648) (r_c : -2147483648 ≤ c ∧ c < 2147483648) {f0 : Nat → Int64} (ho : ct (30, 0, 0) = some (gL 3 1 f0)) (gh : gH) (hR : cR ad ct gh) : gMW l D base yL_drawn cL_drawn 6 (some Jvm.ClassFile.FieldType.int) [((0 : Nat), (12 : Nat), (15 : Nat), (25 : Nat))] 8 127 2 12 [.ref (ad (2, 0, 0)), vi (s), vi (r), vi (c), .ref (ad (30, 0, 0))] gh (fun rr gh' => rr = some (vi (goesN (inB s 0 (z 11 - 1) && (inB r 0 23 && inB c 0 39)) (true) true)) ∧ ∃ (ad' : Tg → Nat) (ct' : Tg → Option gC) (f1 : Nat → Int64), cR ad' ct' gh' ∧ (∀ t : Tg, t.1 ≤ 1 → ct' t = ct t ∧ ad' t = ad t) ∧ ad' (2, 0, 0) = ad (2, 0, 0) ∧ ad' (30, 0, 0) = ad (30, 0, 0) ∧ ct' (30, 0, 0) = some (gL 3 1 f1) ∧ (if ((inB s 0 (z 11 - 1) && (inB r 0 23 && inB c 0 39)) && (true) && true) = true then ST ad' (z) (F) ct' ∧ f1 0 = (iI ((lay0 F s.toNat (z 3).toNat (z 0)).2 (40 * r + c).toNat)).toInt64 else ST ad' z F ct')) := by
  refine gMW.of hl (by decide) (by simp [Value.category]) (Nat.le_of_ble_eq_true rfl) [some (.ref (ad (2, 0, 0))), some (vi (s)), some (vi (r)), some (vi (c)), some (.ref (ad (30, 0, 0))), none] rfl (fun x hC hq => ?_)
  have f1 : gh (ad (2, 0, 0)) = some (gO 10 [.ref (ad (2, 1, 0)), .ref (ad (2, 3, 0)), .ref (ad (2, 4, 0)), .ref (ad (2, 5, 0)), vi (z 3), vi (z 11), vi (z 22), vi (z 0)]) := hR.1 _ _ (hS.1)
  refine g_ald hC dL_drawn_0 rfl ?_
  refine g_iconst hC dL_drawn_2 rfl ?_
  refine g_ald_n hC dL_drawn_3 rfl ?_
  refine g_iload_n hC dL_drawn_4 rfl ?_
  refine g_iload_n hC dL_drawn_5 rfl ?_
  refine g_iload_n hC dL_drawn_6 rfl ?_
  refine g_callVX (rest := [vi (0), .ref (ad (30, 0, 0))]) hC (kX6_drawn hl hI hS s r c r_s r_r r_c gh hR) gc_RL_45 rfl f1 rfl ⟨by decide, by decide⟩ ⟨by decide, by decide⟩ (Nat.le_of_ble_eq_true rfl) rfl dL_drawn_7 (fun E g hx => ?_) (fun r0 g hp => ?_)
  · obtain ⟨hg, hx⟩ := hx
    rw [hg]
    obtain ⟨h1, rfl⟩ := hx
    refine g_catch1 hC hq rfl (by decide) cl25 ca_iob (fun q => ?_)
    refine g_ast (lv' := [some (.ref (ad (2, 0, 0))), some (vi (s)), some (vi (r)), some (vi (c)), some (.ref (ad (30, 0, 0))), some (.ref q)]) hC dL_drawn_15 (by decide) rfl ?_
    refine g_iconst hC dL_drawn_17 rfl ?_
    exact g_iretW hC hq dL_drawn_18 (by decide) (by decide) ⟨by rw [h1]; rfl, ad, ct, f0, hR, fun _ _ => ⟨rfl, rfl⟩, rfl, rfl, ho, by rw [if_neg (by rw [h1]; simp)]; exact hS⟩
  · obtain ⟨rfl, hg, hA⟩ := hp
    rw [hg]
    obtain ⟨ad2, ct2, h2R, hS2, hx2⟩ : xOK ad ct z F gh := ⟨ad, ct, hR, hS, xF.rf⟩
    have e30 := hx2.1 (30, 0, 0) (Or.inr (by decide))
    have ho2 : gh (ad (30, 0, 0)) = some (gL 3 1 f0) := by have h9_ := h2R.1 (30, 0, 0) _ (e30.1.trans ho); rw [e30.2] at h9_; exact h9_
    refine gV.eqs (st' := [vi ((lay0 F s.toNat (z 3).toNat (z 0)).2 (40 * r + c).toNat), vi (0), .ref (ad (30, 0, 0))]) rfl rfl rfl ?_
    refine g_i2l hC dL_drawn_10 ?_
    refine g_last hC dL_drawn_11 ho2 (by decide) (by decide) ?_
    have h3R := h2R.put (t := (30, 0, 0)) (e30.1.trans ho) (gL 3 1 (gup f0 (0 : Int).toNat (iI ((lay0 F s.toNat (z 3).toNat (z 0)).2 (40 * r + c).toNat)).toInt64))
    rw [e30.2] at h3R
    refine g_goto (tgt := 19) hC dL_drawn_12 (by decide) ?_
    refine g_iconst hC dL_drawn_19 rfl ?_
    refine g_iretW hC hq dL_drawn_20 (by decide) (by decide) ⟨by rw [hA]; rfl, ad2, _, _, h3R, fun t ht => ⟨?_, (hx2.1 t (Or.inl ht)).2⟩, hx2.2, e30.2, cup_eq, ?_⟩
    · rw [cup_ne (fun e => by rw [e] at ht; exact absurd ht (by decide))]; exact (hx2.1 t (Or.inl ht)).1
    · rw [if_pos (by rw [hA]; rfl)]
      exact ⟨hS2.fr (fun t h1 h2 => cup_ne (fun e => by rw [e] at h2; exact absurd h2 (by decide))), rfl⟩

set_option maxHeartbeats 4000000 in
set_option maxRecDepth 100000 in
theorem kL_worth {l : Launch} (hl : l.stackTraces = false) {D : gD} {base : Nat}  {ad : Tg → Nat} {z : Nat → Int} {F : Nat → Nat → Int} {ct : Tg → Option gC} (hI : mI z F) (hS : ST ad z F ct) (hE : mE z F) (hQ : eQ z F) (s : Int) (r_s : -2147483648 ≤ s ∧ s < 2147483648) {f0 : Nat → Int64} (ho : ct (30, 0, 0) = some (gL 3 1 f0)) (gh : gH) (hR : cR ad ct gh) : gMW l D base yL_worth cL_worth 4 (some Jvm.ClassFile.FieldType.int) [((0 : Nat), (9 : Nat), (12 : Nat), (25 : Nat))] 8 124 2 12 [.ref (ad (2, 0, 0)), vi (s), .ref (ad (30, 0, 0))] gh (fun rr gh' => rr = some (vi (goesN (inB s 0 (z 11 - 1)) (true) true)) ∧ ∃ (ad' : Tg → Nat) (ct' : Tg → Option gC) (f1 : Nat → Int64), cR ad' ct' gh' ∧ (∀ t : Tg, t.1 ≤ 1 → ct' t = ct t ∧ ad' t = ad t) ∧ ad' (2, 0, 0) = ad (2, 0, 0) ∧ ad' (30, 0, 0) = ad (30, 0, 0) ∧ ct' (30, 0, 0) = some (gL 3 1 f1) ∧ (if ((inB s 0 (z 11 - 1)) && (true) && true) = true then ST ad' (z) (F) ct' ∧ f1 0 = (iI (sumW (lay0 F s.toNat (z 3).toNat (z 0)).1 (F 6) (z 3).toNat)).toInt64 else ST ad' z F ct')) := by
  refine gMW.of hl (by decide) (by simp [Value.category]) (Nat.le_of_ble_eq_true rfl) [some (.ref (ad (2, 0, 0))), some (vi (s)), some (.ref (ad (30, 0, 0))), none] rfl (fun x hC hq => ?_)
  have f1 : gh (ad (2, 0, 0)) = some (gO 10 [.ref (ad (2, 1, 0)), .ref (ad (2, 3, 0)), .ref (ad (2, 4, 0)), .ref (ad (2, 5, 0)), vi (z 3), vi (z 11), vi (z 22), vi (z 0)]) := hR.1 _ _ (hS.1)
  refine g_ald_n hC dL_worth_0 rfl ?_
  refine g_iconst hC dL_worth_1 rfl ?_
  refine g_ald_n hC dL_worth_2 rfl ?_
  refine g_iload_n hC dL_worth_3 rfl ?_
  refine g_callVX (rest := [vi (0), .ref (ad (30, 0, 0))]) hC (kX6_worth hl hI hS s r_s gh hR) gc_RL_48 rfl f1 rfl ⟨by decide, by decide⟩ ⟨by decide, by decide⟩ (Nat.le_of_ble_eq_true rfl) rfl dL_worth_4 (fun E g hx => ?_) (fun r0 g hp => ?_)
  · obtain ⟨hg, hx⟩ := hx
    rw [hg]
    obtain ⟨h1, rfl⟩ := hx
    refine g_catch1 hC hq rfl (by decide) cl25 ca_iob (fun q => ?_)
    refine g_ast_n (lv' := [some (.ref (ad (2, 0, 0))), some (vi (s)), some (.ref (ad (30, 0, 0))), some (.ref q)]) hC dL_worth_12 (by decide) rfl ?_
    refine g_iconst hC dL_worth_13 rfl ?_
    exact g_iretW hC hq dL_worth_14 (by decide) (by decide) ⟨by rw [h1]; rfl, ad, ct, f0, hR, fun _ _ => ⟨rfl, rfl⟩, rfl, rfl, ho, by rw [if_neg (by rw [h1]; simp)]; exact hS⟩
  · obtain ⟨rfl, hg, hA⟩ := hp
    rw [hg]
    obtain ⟨ad2, ct2, h2R, hS2, hx2⟩ : xOK ad ct z F gh := ⟨ad, ct, hR, hS, xF.rf⟩
    have e30 := hx2.1 (30, 0, 0) (Or.inr (by decide))
    have ho2 : gh (ad (30, 0, 0)) = some (gL 3 1 f0) := by have h9_ := h2R.1 (30, 0, 0) _ (e30.1.trans ho); rw [e30.2] at h9_; exact h9_
    refine gV.eqs (st' := [vi (sumW (lay0 F s.toNat (z 3).toNat (z 0)).1 (F 6) (z 3).toNat), vi (0), .ref (ad (30, 0, 0))]) rfl rfl rfl ?_
    refine g_i2l hC dL_worth_7 ?_
    refine g_last hC dL_worth_8 ho2 (by decide) (by decide) ?_
    have h3R := h2R.put (t := (30, 0, 0)) (e30.1.trans ho) (gL 3 1 (gup f0 (0 : Int).toNat (iI (sumW (lay0 F s.toNat (z 3).toNat (z 0)).1 (F 6) (z 3).toNat)).toInt64))
    rw [e30.2] at h3R
    refine g_goto (tgt := 15) hC dL_worth_9 (by decide) ?_
    refine g_iconst hC dL_worth_15 rfl ?_
    refine g_iretW hC hq dL_worth_16 (by decide) (by decide) ⟨by rw [hA]; rfl, ad2, _, _, h3R, fun t ht => ⟨?_, (hx2.1 t (Or.inl ht)).2⟩, hx2.2, e30.2, cup_eq, ?_⟩
    · rw [cup_ne (fun e => by rw [e] at ht; exact absurd ht (by decide))]; exact (hx2.1 t (Or.inl ht)).1
    · rw [if_pos (by rw [hA]; rfl)]
      exact ⟨hS2.fr (fun t h1 h2 => cup_ne (fun e => by rw [e] at h2; exact absurd h2 (by decide))), rfl⟩

set_option maxHeartbeats 4000000 in
set_option maxRecDepth 100000 in
theorem kL_best {l : Launch} (hl : l.stackTraces = false) {D : gD} {base : Nat}  {ad : Tg → Nat} {z : Nat → Int} {F : Nat → Nat → Int} {ct : Tg → Option gC} (hI : mI z F) (hS : ST ad z F ct) (hE : mE z F) (hQ : eQ z F) (s : Int) (r_s : -2147483648 ≤ s ∧ s < 2147483648) {f0 : Nat → Int64} (ho : ct (30, 0, 0) = some (gL 3 1 f0)) (gh : gH) (hR : cR ad ct gh) : gMW l D base yL_best cL_best 4 (some Jvm.ClassFile.FieldType.int) [((0 : Nat), (9 : Nat), (12 : Nat), (25 : Nat)), ((0 : Nat), (9 : Nat), (15 : Nat), (15 : Nat))] 12 285 2 12 [.ref (ad (2, 0, 0)), vi (s), .ref (ad (30, 0, 0))] gh (fun rr gh' => rr = some (vi (goesN (inB s 0 (z 11 - 1)) (inB s 0 (z 11 - 1) && decide ((nmL F s.toNat (z 0) (z 3).toNat).length ≤ 4)) true)) ∧ ∃ (ad' : Tg → Nat) (ct' : Tg → Option gC) (f1 : Nat → Int64), cR ad' ct' gh' ∧ (∀ t : Tg, t.1 ≤ 1 → ct' t = ct t ∧ ad' t = ad t) ∧ ad' (2, 0, 0) = ad (2, 0, 0) ∧ ad' (30, 0, 0) = ad (30, 0, 0) ∧ ct' (30, 0, 0) = some (gL 3 1 f1) ∧ (if ((inB s 0 (z 11 - 1)) && (inB s 0 (z 11 - 1) && decide ((nmL F s.toNat (z 0) (z 3).toNat).length ≤ 4)) && true) = true then ST ad' (z) (F) ct' ∧ f1 0 = (iI (maxW F s.toNat (z 0) (dotP F s.toNat (z 3).toNat) (nmL F s.toNat (z 0) (z 3).toNat) (5 ^ (nmL F s.toNat (z 0) (z 3).toNat).length))).toInt64 else ST ad' z F ct')) := by
  refine gMW.of hl (by decide) (by simp [Value.category]) (Nat.le_of_ble_eq_true rfl) [some (.ref (ad (2, 0, 0))), some (vi (s)), some (.ref (ad (30, 0, 0))), none] rfl (fun x hC hq => ?_)
  have f1 : gh (ad (2, 0, 0)) = some (gO 10 [.ref (ad (2, 1, 0)), .ref (ad (2, 3, 0)), .ref (ad (2, 4, 0)), .ref (ad (2, 5, 0)), vi (z 3), vi (z 11), vi (z 22), vi (z 0)]) := hR.1 _ _ (hS.1)
  refine g_ald_n hC dL_best_0 rfl ?_
  refine g_iconst hC dL_best_1 rfl ?_
  refine g_ald_n hC dL_best_2 rfl ?_
  refine g_iload_n hC dL_best_3 rfl ?_
  refine g_callVX (rest := [vi (0), .ref (ad (30, 0, 0))]) hC (kX6_best hl hI hS s r_s gh hR) gc_RL_51 rfl f1 rfl ⟨by decide, by decide⟩ ⟨by decide, by decide⟩ (Nat.le_of_ble_eq_true rfl) rfl dL_best_4 (fun E g hx => ?_) (fun r0 g hp => ?_)
  · obtain ⟨hg, hx⟩ := hx
    rw [hg]
    rcases hx with ⟨h1, rfl⟩ | ⟨h1, h2, rfl⟩
    · refine g_catch1 hC hq rfl (by decide) cl25 ca_iob (fun q => ?_)
      refine g_ast_n (lv' := [some (.ref (ad (2, 0, 0))), some (vi (s)), some (.ref (ad (30, 0, 0))), some (.ref q)]) hC dL_best_12 (by decide) rfl ?_
      refine g_iconst hC dL_best_13 rfl ?_
      exact g_iretW hC hq dL_best_14 (by decide) (by decide) ⟨by rw [h1]; rfl, ad, ct, f0, hR, fun _ _ => ⟨rfl, rfl⟩, rfl, rfl, ho, by rw [if_neg (by rw [h1]; simp)]; exact hS⟩
    · have h2b := h2
      refine g_catch2 hC hq rfl (by decide) (by decide) cl25 (by decide) cl15 ca_ise (fun q => ?_)
      refine g_ast_n (lv' := [some (.ref (ad (2, 0, 0))), some (vi (s)), some (.ref (ad (30, 0, 0))), some (.ref q)]) hC dL_best_15 (by decide) rfl ?_
      refine g_iconst hC dL_best_16 rfl ?_
      exact g_iretW hC hq dL_best_17 (by decide) (by decide) ⟨by rw [h2b, h1]; rfl, ad, ct, f0, hR, fun _ _ => ⟨rfl, rfl⟩, rfl, rfl, ho, by rw [if_neg (by rw [h2b, h1]; simp)]; exact hS⟩
  · obtain ⟨rfl, hB, ad2, ct2, h2R, hS2, hx2⟩ := hp
    have hA := ((Bool.and_eq_true _ _).mp hB).1
    have hBb := hB
    have e30 := hx2.1 (30, 0, 0) (Or.inr (by decide))
    have ho2 : g (ad (30, 0, 0)) = some (gL 3 1 f0) := by have h9_ := h2R.1 (30, 0, 0) _ (e30.1.trans ho); rw [e30.2] at h9_; exact h9_
    refine gV.eqs (st' := [vi (maxW F s.toNat (z 0) (dotP F s.toNat (z 3).toNat) (nmL F s.toNat (z 0) (z 3).toNat) (5 ^ (nmL F s.toNat (z 0) (z 3).toNat).length)), vi (0), .ref (ad (30, 0, 0))]) rfl rfl rfl ?_
    refine g_i2l hC dL_best_7 ?_
    refine g_last hC dL_best_8 ho2 (by decide) (by decide) ?_
    have h3R := h2R.put (t := (30, 0, 0)) (e30.1.trans ho) (gL 3 1 (gup f0 (0 : Int).toNat (iI (maxW F s.toNat (z 0) (dotP F s.toNat (z 3).toNat) (nmL F s.toNat (z 0) (z 3).toNat) (5 ^ (nmL F s.toNat (z 0) (z 3).toNat).length))).toInt64))
    rw [e30.2] at h3R
    refine g_goto (tgt := 18) hC dL_best_9 (by decide) ?_
    refine g_iconst hC dL_best_18 rfl ?_
    refine g_iretW hC hq dL_best_19 (by decide) (by decide) ⟨by rw [hBb, hA]; rfl, ad2, _, _, h3R, fun t ht => ⟨?_, (hx2.1 t (Or.inl ht)).2⟩, hx2.2, e30.2, cup_eq, ?_⟩
    · rw [cup_ne (fun e => by rw [e] at ht; exact absurd ht (by decide))]; exact (hx2.1 t (Or.inl ht)).1
    · rw [if_pos (by rw [hBb, hA]; rfl)]
      exact ⟨hS2.fr (fun t h1 h2 => cup_ne (fun e => by rw [e] at h2; exact absurd h2 (by decide))), rfl⟩

set_option maxHeartbeats 4000000 in
set_option maxRecDepth 100000 in
theorem kL_print {l : Launch} (hl : l.stackTraces = false) {D : gD} {base : Nat}  {ad : Tg → Nat} {z : Nat → Int} {F : Nat → Nat → Int} {ct : Tg → Option gC} (hI : mI z F) (hS : ST ad z F ct) (hE : mE z F) (hQ : eQ z F) {f0 : Nat → Int64} (ho : ct (30, 0, 0) = some (gL 3 1 f0)) (gh : gH) (hR : cR ad ct gh) : gMW l D base yL_print cL_print 3 (some Jvm.ClassFile.FieldType.int) [((0 : Nat), (8 : Nat), (11 : Nat), (15 : Nat))] 7 105 10 3849 [.ref (ad (2, 0, 0)), .ref (ad (30, 0, 0))] gh (fun rr gh' => rr = some (vi (goesN (decide (z 22 < 5)) (true) true)) ∧ ∃ (ad' : Tg → Nat) (ct' : Tg → Option gC) (f1 : Nat → Int64), cR ad' ct' gh' ∧ (∀ t : Tg, t.1 ≤ 1 → ct' t = ct t ∧ ad' t = ad t) ∧ ad' (2, 0, 0) = ad (2, 0, 0) ∧ ad' (30, 0, 0) = ad (30, 0, 0) ∧ ct' (30, 0, 0) = some (gL 3 1 f1) ∧ (if ((decide (z 22 < 5)) && (true) && true) = true then ST ad' (gup z 22 (z 22 + 1)) (prF z F) ct' ∧ f1 0 = (iI (z 22)).toInt64 else ST ad' z F ct')) := by
  refine gMW.of hl (by decide) (by simp [Value.category]) (Nat.le_of_ble_eq_true rfl) [some (.ref (ad (2, 0, 0))), some (.ref (ad (30, 0, 0))), none] rfl (fun x hC hq => ?_)
  have f1 : gh (ad (2, 0, 0)) = some (gO 10 [.ref (ad (2, 1, 0)), .ref (ad (2, 3, 0)), .ref (ad (2, 4, 0)), .ref (ad (2, 5, 0)), vi (z 3), vi (z 11), vi (z 22), vi (z 0)]) := hR.1 _ _ (hS.1)
  refine g_ald_n hC dL_print_0 rfl ?_
  refine g_iconst hC dL_print_1 rfl ?_
  refine g_ald_n hC dL_print_2 rfl ?_
  refine g_callVX (rest := [vi (0), .ref (ad (30, 0, 0))]) hC (kX6_print hl hI hS hE hQ gh hR) gc_RL_54 rfl f1 rfl ⟨by decide, by decide⟩ ⟨by decide, by decide⟩ (Nat.le_of_ble_eq_true rfl) rfl dL_print_3 (fun E g hx => ?_) (fun r0 g hp => ?_)
  · obtain ⟨hg, hx⟩ := hx
    rw [hg]
    obtain ⟨h1, rfl⟩ := hx
    refine g_catch1 hC hq rfl (by decide) cl15 ca_ise (fun q => ?_)
    refine g_ast_n (lv' := [some (.ref (ad (2, 0, 0))), some (.ref (ad (30, 0, 0))), some (.ref q)]) hC dL_print_11 (by decide) rfl ?_
    refine g_iconst hC dL_print_12 rfl ?_
    exact g_iretW hC hq dL_print_13 (by decide) (by decide) ⟨by rw [h1]; rfl, ad, ct, f0, hR, fun _ _ => ⟨rfl, rfl⟩, rfl, rfl, ho, by rw [if_neg (by rw [h1]; simp)]; exact hS⟩
  · obtain ⟨rfl, hA, ad2, ct2, h2R, hS2, hx2⟩ := hp
    have e30 := hx2.1 (30, 0, 0) (Or.inr (by decide))
    have ho2 : g (ad (30, 0, 0)) = some (gL 3 1 f0) := by have h9_ := h2R.1 (30, 0, 0) _ (e30.1.trans ho); rw [e30.2] at h9_; exact h9_
    refine gV.eqs (st' := [vi (z 22), vi (0), .ref (ad (30, 0, 0))]) rfl rfl rfl ?_
    refine g_i2l hC dL_print_6 ?_
    refine g_last hC dL_print_7 ho2 (by decide) (by decide) ?_
    have h3R := h2R.put (t := (30, 0, 0)) (e30.1.trans ho) (gL 3 1 (gup f0 (0 : Int).toNat (iI (z 22)).toInt64))
    rw [e30.2] at h3R
    refine g_goto (tgt := 14) hC dL_print_8 (by decide) ?_
    refine g_iconst hC dL_print_14 rfl ?_
    refine g_iretW hC hq dL_print_15 (by decide) (by decide) ⟨by rw [hA]; rfl, ad2, _, _, h3R, fun t ht => ⟨?_, (hx2.1 t (Or.inl ht)).2⟩, hx2.2, e30.2, cup_eq, ?_⟩
    · rw [cup_ne (fun e => by rw [e] at ht; exact absurd ht (by decide))]; exact (hx2.1 t (Or.inl ht)).1
    · rw [if_pos (by rw [hA]; rfl)]
      exact ⟨hS2.fr (fun t h1 h2 => cup_ne (fun e => by rw [e] at h2; exact absurd h2 (by decide))), rfl⟩

set_option maxHeartbeats 4000000 in
set_option maxRecDepth 100000 in
theorem kL_printed {l : Launch} (hl : l.stackTraces = false) {D : gD} {base : Nat}  {ad : Tg → Nat} {z : Nat → Int} {F : Nat → Nat → Int} {ct : Tg → Option gC} (hI : mI z F) (hS : ST ad z F ct) (hE : mE z F) (hQ : eQ z F) (e s r c : Int) (r_e : -2147483648 ≤ e ∧ e < 2147483648) (r_s : -2147483648 ≤ s ∧ s < 2147483648) (r_r : -2147483648 ≤ r ∧ r < 2147483648) (r_c : -2147483648 ≤ c ∧ c < 2147483648) {f0 : Nat → Int64} (ho : ct (30, 0, 0) = some (gL 3 1 f0)) (gh : gH) (hR : cR ad ct gh) : gMW l D base yL_printed cL_printed 7 (some Jvm.ClassFile.FieldType.int) [((0 : Nat), (14 : Nat), (17 : Nat), (25 : Nat))] 8 128 2 12 [.ref (ad (2, 0, 0)), vi (e), vi (s), vi (r), vi (c), .ref (ad (30, 0, 0))] gh (fun rr gh' => rr = some (vi (goesN (inB e 0 (z 22 - 1) && (inB s 0 (z 11 - 1) && (inB r 0 23 && inB c 0 39))) (true) true)) ∧ ∃ (ad' : Tg → Nat) (ct' : Tg → Option gC) (f1 : Nat → Int64), cR ad' ct' gh' ∧ (∀ t : Tg, t.1 ≤ 1 → ct' t = ct t ∧ ad' t = ad t) ∧ ad' (2, 0, 0) = ad (2, 0, 0) ∧ ad' (30, 0, 0) = ad (30, 0, 0) ∧ ct' (30, 0, 0) = some (gL 3 1 f1) ∧ (if ((inB e 0 (z 22 - 1) && (inB s 0 (z 11 - 1) && (inB r 0 23 && inB c 0 39))) && (true) && true) = true then ST ad' (z) (F) ct' ∧ f1 0 = (iI (printedV F e.toNat s.toNat r c)).toInt64 else ST ad' z F ct')) := by
  refine gMW.of hl (by decide) (by simp [Value.category]) (Nat.le_of_ble_eq_true rfl) [some (.ref (ad (2, 0, 0))), some (vi (e)), some (vi (s)), some (vi (r)), some (vi (c)), some (.ref (ad (30, 0, 0))), none] rfl (fun x hC hq => ?_)
  have f1 : gh (ad (2, 0, 0)) = some (gO 10 [.ref (ad (2, 1, 0)), .ref (ad (2, 3, 0)), .ref (ad (2, 4, 0)), .ref (ad (2, 5, 0)), vi (z 3), vi (z 11), vi (z 22), vi (z 0)]) := hR.1 _ _ (hS.1)
  refine g_ald hC dL_printed_0 rfl ?_
  refine g_iconst hC dL_printed_2 rfl ?_
  refine g_ald_n hC dL_printed_3 rfl ?_
  refine g_iload_n hC dL_printed_4 rfl ?_
  refine g_iload_n hC dL_printed_5 rfl ?_
  refine g_iload_n hC dL_printed_6 rfl ?_
  refine g_iload hC dL_printed_7 rfl ?_
  refine g_callVX (rest := [vi (0), .ref (ad (30, 0, 0))]) hC (kX6_printed hl hI hS hE e s r c r_e r_s r_r r_c gh hR) gc_RL_58 rfl f1 rfl ⟨by decide, by decide⟩ ⟨by decide, by decide⟩ (Nat.le_of_ble_eq_true rfl) rfl dL_printed_9 (fun E g hx => ?_) (fun r0 g hp => ?_)
  · obtain ⟨hg, hx⟩ := hx
    rw [hg]
    obtain ⟨h1, rfl⟩ := hx
    refine g_catch1 hC hq rfl (by decide) cl25 ca_iob (fun q => ?_)
    refine g_ast (lv' := [some (.ref (ad (2, 0, 0))), some (vi (e)), some (vi (s)), some (vi (r)), some (vi (c)), some (.ref (ad (30, 0, 0))), some (.ref q)]) hC dL_printed_17 (by decide) rfl ?_
    refine g_iconst hC dL_printed_19 rfl ?_
    exact g_iretW hC hq dL_printed_20 (by decide) (by decide) ⟨by rw [h1]; rfl, ad, ct, f0, hR, fun _ _ => ⟨rfl, rfl⟩, rfl, rfl, ho, by rw [if_neg (by rw [h1]; simp)]; exact hS⟩
  · obtain ⟨rfl, hg, hA⟩ := hp
    rw [hg]
    obtain ⟨ad2, ct2, h2R, hS2, hx2⟩ : xOK ad ct z F gh := ⟨ad, ct, hR, hS, xF.rf⟩
    have e30 := hx2.1 (30, 0, 0) (Or.inr (by decide))
    have ho2 : gh (ad (30, 0, 0)) = some (gL 3 1 f0) := by have h9_ := h2R.1 (30, 0, 0) _ (e30.1.trans ho); rw [e30.2] at h9_; exact h9_
    refine gV.eqs (st' := [vi (printedV F e.toNat s.toNat r c), vi (0), .ref (ad (30, 0, 0))]) rfl rfl rfl ?_
    refine g_i2l hC dL_printed_12 ?_
    refine g_last hC dL_printed_13 ho2 (by decide) (by decide) ?_
    have h3R := h2R.put (t := (30, 0, 0)) (e30.1.trans ho) (gL 3 1 (gup f0 (0 : Int).toNat (iI (printedV F e.toNat s.toNat r c)).toInt64))
    rw [e30.2] at h3R
    refine g_goto (tgt := 21) hC dL_printed_14 (by decide) ?_
    refine g_iconst hC dL_printed_21 rfl ?_
    refine g_iretW hC hq dL_printed_22 (by decide) (by decide) ⟨by rw [hA]; rfl, ad2, _, _, h3R, fun t ht => ⟨?_, (hx2.1 t (Or.inl ht)).2⟩, hx2.2, e30.2, cup_eq, ?_⟩
    · rw [cup_ne (fun e => by rw [e] at ht; exact absurd ht (by decide))]; exact (hx2.1 t (Or.inl ht)).1
    · rw [if_pos (by rw [hA]; rfl)]
      exact ⟨hS2.fr (fun t h1 h2 => cup_ne (fun e => by rw [e] at h2; exact absurd h2 (by decide))), rfl⟩

end C30
