/-! the class: letter, pass, spelled -/
section C22
set_option maxHeartbeats 4000000 in
set_option maxRecDepth 100000 in
theorem kX6_letter {l : Launch} (hl : l.stackTraces = false) {D : gD} {base : Nat}  {ad : Tg → Nat} {z : Nat → Int} {F : Nat → Nat → Int} {ct : Tg → Option gC} (hI : mI z F) (hS : ST ad z F ct) (hE : mE z F) (hQ : eQ z F) (c : Int) (hc : 0 ≤ c ∧ c < 65536) (gh : gH) (hR : cR ad ct gh) : gM l D base yX6_letter cX6_letter 2 (some Jvm.ClassFile.FieldType.int) 6 82 1 6 [.ref (ad (2, 0, 0)), vi (c)] gh (fun r gh' => r = some (vi (z 1 + 1)) ∧ (inB c 97 122) = true ∧ (decide (z 1 < 8)) = true ∧ xOK ad ct (gup z 1 (z 1 + 1)) (gup F 2 (gup (F 2) (z 1).toNat c)) gh') (fun E gh' => gh' = gh ∧ (((inB c 97 122) = false ∧ E = "java/lang/IllegalArgumentException") ∨ ((inB c 97 122) = true ∧ (decide (z 1 < 8)) = false ∧ E = "java/lang/IllegalStateException"))) := by
  refine gM.of hl (by decide) (by simp [Value.category]) (Nat.le_of_ble_eq_true rfl) [some (.ref (ad (2, 0, 0))), some (vi (c))] rfl (fun x hC hq => ?_)
  obtain ⟨i0, i1, i3, i11, i22, iw, ip, inn, inm, ish⟩ := id hI
  obtain ⟨s1, ⟨ml, B, b1, b2, b3⟩, s3, s4, s5, s6, s7, s8⟩ := id hS
  have f1 : gh (ad (2, 0, 0)) = some (gO 10 [.ref (ad (2, 1, 0)), .ref (ad (2, 3, 0)), .ref (ad (2, 4, 0)), .ref (ad (2, 5, 0)), vi (z 3), vi (z 11), vi (z 22), vi (z 0)]) := hR.1 _ _ (s1)
  have f2 : gh (ad (2, 3, 0)) = some (gR 4 14 (fun i => if (i : Int) < z 3 then some (ad (3, i, 0)) else none)) := hR.1 _ _ (s3)
  have f3 : gh (ad (2, 4, 0)) = some (gR 5 4 (fun k => if (k : Int) < z 11 then some (ad (10, k, 0)) else none)) := hR.1 _ _ (s4)
  have f4 : gh (ad (2, 5, 0)) = some (gR 6 5 (fun e => if (e : Int) < z 22 then some (ad (20, e, 0)) else none)) := hR.1 _ _ (s5)
  obtain ⟨n1, hn1⟩ : ∃ n1 : Nat, z 1 = (n1 : Int) := ⟨(z 1).toNat, by omega⟩
  rw [hn1] at b1
  have f5 : gh (ad (2, 1, 0)) = some (gO 1 [.ref (ad (2, 2, 0)), vi (0), vi (ml), vi ((n1 : Int))]) := hR.1 _ _ (b1)
  have f6 : gh (ad (2, 2, 0)) = some (gI 2 16 (B)) := hR.1 _ _ (b2)
  refine g_iload_n hC dX6_letter_0 rfl ?_
  refine g_bipush (z := 97) hC dX6_letter_1 rfl ?_
  refine g_icmp_lt (tgt := 12) hC dX6_letter_3 (by decide) (by omega) (by omega) (fun h1 => ?_) (fun h1 => ?_)
  · exact g_throw hC hq gt_49_51 dX6_letter_12 dX6_letter_15 dX6_letter_16 dX6_letter_18 dX6_letter_21 (by decide) (Nat.le_of_ble_eq_true rfl) (by decide) (by decide) (by decide) (by decide) ⟨rfl, Or.inl ⟨decide_eq_false (by omega), rfl⟩⟩
  · refine g_iload_n hC dX6_letter_6 rfl ?_
    refine g_bipush (z := 122) hC dX6_letter_7 rfl ?_
    refine g_icmp_le (tgt := 22) hC dX6_letter_9 (by decide) (by omega) (by omega) (fun h2 => ?_) (fun h2 => ?_)
    · refine g_ald_n hC dX6_letter_22 rfl ?_
      refine g_get hC dX6_letter_23 gf_RX6_10 f1 rfl ?_
      refine g_callV (rest := []) hC (kJ4_length hl  gh f5) gc_RX6_54 rfl f5 rfl ⟨by decide, by decide⟩ ⟨by decide, by decide⟩ (Nat.le_of_ble_eq_true rfl) rfl dX6_letter_26 (fun r gh' hp => ?_)
      obtain ⟨rfl, hgh⟩ := hp
      rw [hgh]
      clear hgh
      refine gV.eqs (st' := [vi ((n1 : Int))]) rfl rfl rfl ?_
      refine g_bipush (z := 8) hC dX6_letter_29 rfl ?_
      refine g_icmp_lt (tgt := 44) hC dX6_letter_31 (by decide) (by omega) (by omega) (fun h3 => ?_) (fun h3 => ?_)
      · refine g_ald_n hC dX6_letter_44 rfl ?_
        refine g_get hC dX6_letter_45 gf_RX6_10 f1 rfl ?_
        refine g_iload_n hC dX6_letter_48 rfl ?_
        refine g_callV (rest := []) hC (kJ4_append hl (c := c) (by omega) (k := n1) (by omega) gh f5 f6) gc_RX6_63 rfl f5 rfl ⟨by decide, by decide⟩ ⟨by decide, by decide⟩ (Nat.le_of_ble_eq_true rfl) rfl dX6_letter_49 (fun r g2 hp => ?_)
        obtain ⟨rfl, hgh⟩ := hp
        have h2R := (hR.put b1 (gO 1 [.ref (ad (2, 2, 0)), vi 0, vi ml, vi ((n1 : Int) + 1)])).put (t := (2, 2, 0)) (by rw [cup_ne (by simp)]; exact b2) (gI 2 16 (gup B n1 c))
        rw [← hgh] at h2R
        have s1b : cup (cup ct (2, 1, 0) (gO 1 [.ref (ad (2, 2, 0)), vi 0, vi ml, vi ((n1 : Int) + 1)])) (2, 2, 0) (gI 2 16 (gup B n1 c)) (2, 0, 0) = some (clO ad z) := by rw [cup_ne (by simp), cup_ne (by simp)]; exact s1
        have f7 : g2 (ad (2, 0, 0)) = some (gO 10 [.ref (ad (2, 1, 0)), .ref (ad (2, 3, 0)), .ref (ad (2, 4, 0)), .ref (ad (2, 5, 0)), vi (z 3), vi (z 11), vi (z 22), vi (z 0)]) := h2R.1 _ _ (s1b)
        have f8 : g2 (ad (2, 1, 0)) = some (gO 1 [.ref (ad (2, 2, 0)), vi (0), vi (ml), vi ((n1 : Int) + 1)]) := h2R.1 _ _ (by rw [cup_ne (by simp)]; exact cup_eq)
        refine gV.eqs (st' := [.ref (ad (2, 1, 0))]) rfl rfl rfl ?_
        refine g_pop hC dX6_letter_52 rfl ?_
        refine g_ald_n hC dX6_letter_53 rfl ?_
        refine g_get hC dX6_letter_54 gf_RX6_10 f7 rfl ?_
        refine g_callV (rest := []) hC (kJ4_length hl  g2 f8) gc_RX6_54 rfl f8 rfl ⟨by decide, by decide⟩ ⟨by decide, by decide⟩ (Nat.le_of_ble_eq_true rfl) rfl dX6_letter_57 (fun r gh' hp => ?_)
        obtain ⟨rfl, hgh⟩ := hp
        rw [hgh]
        clear hgh
        refine gV.eqs (st' := [vi ((n1 : Int) + 1)]) rfl rfl rfl ?_
        have hag := agr_letter (np := (z 3).toNat) (ns := (z 11).toNat) (ne := (z 22).toNat) (F := F) (X := gup (F 2) (z 1).toNat c)
        obtain ⟨o6, o7, o8⟩ := hS.own (ct' := cup (cup ct (2, 1, 0) (gO 1 [.ref (ad (2, 2, 0)), vi 0, vi ml, vi ((n1 : Int) + 1)])) (2, 2, 0) (gI 2 16 (gup B n1 c))) (fun a b c h => by rw [cup_ne (fun e => by have := congrArg (fun t : Tg => t.1) e; simp only at this; omega), cup_ne (fun e => by have := congrArg (fun t : Tg => t.1) e; simp only at this; omega)])
        generalize hct : cup (cup ct (2, 1, 0) (gO 1 [.ref (ad (2, 2, 0)), vi 0, vi ml, vi ((n1 : Int) + 1)])) (2, 2, 0) (gI 2 16 (gup B n1 c)) = ct2 at h2R o6 o7 o8 s1b
        have e2 : ∀ a b d : Nat, (a, b, d) ≠ ((2, 1, 0) : Tg) → (a, b, d) ≠ ((2, 2, 0) : Tg) → ct2 (a, b, d) = ct (a, b, d) := fun a b d h1 h2 => by rw [← hct, cup_ne h2, cup_ne h1]
        have hST : ST ad (gup z 1 (z 1 + 1)) (gup F 2 (gup (F 2) (z 1).toNat c)) ct2 := by
          refine ⟨s1b, ⟨ml, gup B n1 c, ?_, by rw [← hct]; exact cup_eq, fun t ht => ?_⟩, by rw [e2 _ _ _ (by simp) (by simp)]; exact s3, by rw [e2 _ _ _ (by simp) (by simp)]; exact s4, by rw [e2 _ _ _ (by simp) (by simp)]; exact s5, fun i hi => ?_, fun k hk => ?_, fun e he => ?_⟩
          · rw [← hct, cup_ne (by simp), cup_eq]; show _ = some (gO 1 [_, _, _, vi (z 1 + 1)]); rw [hn1]
          · have ht2 : (t : Int) < z 1 + 1 := ht
            show gup B n1 c t = gup (F 2) (z 1).toNat c t
            by_cases e : t = n1
            · rw [e, gup_eq, show (z 1).toNat = n1 by omega, gup_eq]
            · rw [gup_ne e, gup_ne (by omega)]; exact b3 t (by omega)
          · exact (o6 i hi).cg (fun _ _ => ⟨rfl, rfl⟩) (fun _ _ _ _ _ => ⟨rfl, rfl⟩) ⟨rfl, rfl, rfl, rfl⟩ (fun j _ => ⟨rfl, rfl, fun t => rfl⟩)
          · exact (o7 k hk).agr hI hag (by omega) (by show k < (z 11).toNat; have hk2 : (k : Int) < z 11 := hk; omega) (fun _ _ => rfl)
          · have he2 : (e : Int) < z 22 := he
            have hm := hE e he2
            exact (o8 e he).cg (fun _ _ _ _ => ⟨rfl, rfl⟩) ⟨rfl, rfl⟩ (fun s hs => hag.o_recP hI hQ (by omega) (by omega) he2 (by omega) (by omega) hs (by omega) _ (by omega) (by omega))
        exact g_iret hC hq dX6_letter_60 (by decide) (by decide) ⟨by rw [hn1], decide_eq_true (by omega), decide_eq_true (by omega), ad, ct2, h2R, hST, ⟨fun t ht => ⟨by obtain ⟨a, b, d⟩ := t; exact e2 a b d (fun e => by have := congrArg (fun t : Tg => t.1) e; simp only at this ht; omega) (fun e => by have := congrArg (fun t : Tg => t.1) e; simp only at this ht; omega), rfl⟩, rfl⟩⟩
      · exact g_throw hC hq gt_60_62 dX6_letter_34 dX6_letter_37 dX6_letter_38 dX6_letter_40 dX6_letter_43 (by decide) (Nat.le_of_ble_eq_true rfl) (by decide) (by decide) (by decide) (by decide) ⟨rfl, Or.inr ⟨decide_eq_true (by omega), decide_eq_false (by omega), rfl⟩⟩
    · exact g_throw hC hq gt_49_51 dX6_letter_12 dX6_letter_15 dX6_letter_16 dX6_letter_18 dX6_letter_21 (by decide) (Nat.le_of_ble_eq_true rfl) (by decide) (by decide) (by decide) (by decide) ⟨rfl, Or.inl ⟨decide_eq_false (by omega), rfl⟩⟩

set_option maxHeartbeats 4000000 in
set_option maxRecDepth 100000 in
theorem kX6_pass {l : Launch} (hl : l.stackTraces = false) {D : gD} {base : Nat}  {ad : Tg → Nat} {z : Nat → Int} {F : Nat → Nat → Int} {ct : Tg → Option gC} (hI : mI z F) (hS : ST ad z F ct) (d : Int) (r_d : -2147483648 ≤ d ∧ d < 2147483648) (gh : gH) (hR : cR ad ct gh) : gM l D base yX6_pass cX6_pass 2 (some Jvm.ClassFile.FieldType.int) 6 82 1 6 [.ref (ad (2, 0, 0)), vi (d)] gh (fun r gh' => r = some (vi (z 0 + d)) ∧ (inB d 1 1000) = true ∧ (decide (z 0 + d ≤ 10000)) = true ∧ xOK ad ct (gup z 0 (z 0 + d)) F gh') (fun E gh' => gh' = gh ∧ (((inB d 1 1000) = false ∧ E = "java/lang/IllegalArgumentException") ∨ ((inB d 1 1000) = true ∧ (decide (z 0 + d ≤ 10000)) = false ∧ E = "java/lang/IllegalStateException"))) := by
  refine gM.of hl (by decide) (by simp [Value.category]) (Nat.le_of_ble_eq_true rfl) [some (.ref (ad (2, 0, 0))), some (vi (d))] rfl (fun x hC hq => ?_)
  obtain ⟨i0, i1, i3, i11, i22, iw, ip, inn, inm, ish⟩ := id hI
  obtain ⟨s1, ⟨ml, B, b1, b2, b3⟩, s3, s4, s5, s6, s7, s8⟩ := id hS
  have f1 : gh (ad (2, 0, 0)) = some (gO 10 [.ref (ad (2, 1, 0)), .ref (ad (2, 3, 0)), .ref (ad (2, 4, 0)), .ref (ad (2, 5, 0)), vi (z 3), vi (z 11), vi (z 22), vi (z 0)]) := hR.1 _ _ (s1)
  have f2 : gh (ad (2, 3, 0)) = some (gR 4 14 (fun i => if (i : Int) < z 3 then some (ad (3, i, 0)) else none)) := hR.1 _ _ (s3)
  have f3 : gh (ad (2, 4, 0)) = some (gR 5 4 (fun k => if (k : Int) < z 11 then some (ad (10, k, 0)) else none)) := hR.1 _ _ (s4)
  have f4 : gh (ad (2, 5, 0)) = some (gR 6 5 (fun e => if (e : Int) < z 22 then some (ad (20, e, 0)) else none)) := hR.1 _ _ (s5)
  refine g_iload_n hC dX6_pass_0 rfl ?_
  refine g_iconst hC dX6_pass_1 rfl ?_
  refine g_sipush (z := 1000) hC dX6_pass_2 rfl ?_
  refine g_callS (rest := []) hC (kX6_isWithin hl d 1 1000 r_d (by decide) (by decide) gh ) gc_RX6_67 rfl ⟨by decide, by decide⟩ ⟨by decide, by decide⟩ (Nat.le_of_ble_eq_true rfl) rfl dX6_pass_5 (fun r gh' hp => ?_)
  obtain ⟨rfl, hgh⟩ := hp
  rw [hgh]
  clear hgh
  refine gV.eqs (st' := [vi (b2i (inB d 1 1000))]) rfl rfl rfl ?_
  refine g_ifne_b (tgt := 21) hC dX6_pass_8 (by decide)  (fun h1 => ?_) (fun h1 => ?_)
  · have h1b := inB_t h1
    refine g_ald_n hC dX6_pass_21 rfl ?_
    refine g_get hC dX6_pass_22 gf_RX6_44 f1 rfl ?_
    refine g_iload_n hC dX6_pass_25 rfl ?_
    refine g_iadd hC dX6_pass_26 ?_
    refine g_sipush (z := 10000) hC dX6_pass_27 rfl ?_
    refine g_icmp_le (tgt := 43) hC dX6_pass_30 (by decide) (by omega) (by omega) (fun h2 => ?_) (fun h2 => ?_)
    · refine g_ald_n hC dX6_pass_43 rfl ?_
      refine g_dup hC dX6_pass_44 rfl ?_
      refine g_get hC dX6_pass_45 gf_RX6_44 f1 rfl ?_
      refine g_iload_n hC dX6_pass_48 rfl ?_
      refine g_iadd hC dX6_pass_49 ?_
      refine g_put hC (fs' := [.ref (ad (2, 1, 0)), .ref (ad (2, 3, 0)), .ref (ad (2, 4, 0)), .ref (ad (2, 5, 0)), vi (z 3), vi (z 11), vi (z 22), vi (z 0 + d)]) dX6_pass_50 gp_RX6_44 f1 ⟨rfl, rfl⟩ rfl (Nat.le_of_ble_eq_true rfl) ?_
      obtain ⟨g2, eg2⟩ : ∃ g_, g_ = gset gh (ad (2, 0, 0)) (gO 10 [.ref (ad (2, 1, 0)), .ref (ad (2, 3, 0)), .ref (ad (2, 4, 0)), .ref (ad (2, 5, 0)), vi (z 3), vi (z 11), vi (z 22), vi (z 0 + d)]) := ⟨_, rfl⟩
      rw [← eg2]
      have h2R := hR.put s1 (gO 10 [.ref (ad (2, 1, 0)), .ref (ad (2, 3, 0)), .ref (ad (2, 4, 0)), .ref (ad (2, 5, 0)), vi (z 3), vi (z 11), vi (z 22), vi (z 0 + d)])
      rw [← eg2] at h2R
      obtain ⟨o6, o7, o8⟩ := hS.own (ct' := cup ct (2, 0, 0) (gO 10 [.ref (ad (2, 1, 0)), .ref (ad (2, 3, 0)), .ref (ad (2, 4, 0)), .ref (ad (2, 5, 0)), vi (z 3), vi (z 11), vi (z 22), vi (z 0 + d)])) (fun a b c h => by rw [cup_ne (fun e => by have := congrArg (fun t : Tg => t.1) e; simp only at this; omega)])
      have f5 : g2 (ad (2, 0, 0)) = some (gO 10 [.ref (ad (2, 1, 0)), .ref (ad (2, 3, 0)), .ref (ad (2, 4, 0)), .ref (ad (2, 5, 0)), vi (z 3), vi (z 11), vi (z 22), vi (z 0 + d)]) := h2R.1 _ _ (cup_eq)
      refine g_ald_n hC dX6_pass_53 rfl ?_
      refine g_get hC dX6_pass_54 gf_RX6_44 f5 rfl ?_
      have hST : ST ad (gup z 0 (z 0 + d)) F (cup ct (2, 0, 0) (gO 10 [.ref (ad (2, 1, 0)), .ref (ad (2, 3, 0)), .ref (ad (2, 4, 0)), .ref (ad (2, 5, 0)), vi (z 3), vi (z 11), vi (z 22), vi (z 0 + d)])) := by
        refine ⟨cup_eq, ⟨ml, B, by rw [cup_ne (by simp)]; exact b1, by rw [cup_ne (by simp)]; exact b2, b3⟩, by rw [cup_ne (by simp)]; exact s3, by rw [cup_ne (by simp)]; exact s4, by rw [cup_ne (by simp)]; exact s5, o6, fun k hk => ?_, o8⟩
        obtain ⟨ah, N, T, h9⟩ := o7 k hk
        refine ⟨ah, N, T, ?_⟩
        show SHP ad F k (z 3).toNat (lay0 F k (z 3).toNat (z 0 + d)).1 ah (wdA ad F (z 0 + d)) (lsU F k (wdA ad F (z 0 + d)) (z 3).toNat 5).length (fun q => (lsU F k (wdA ad F (z 0 + d)) (z 3).toNat 5).getD q 0) N (lay0 F k (z 3).toNat (z 0 + d)).2 T _
        rw [lay0_pass hI (by omega) (by omega), lsU_congr (F := F) (F' := F) (wo := wdA ad F (z 0)) (wo' := wdA ad F (z 0 + d)) (fun i hi => ⟨rfl, rfl, by rw [wdA_pass hI (by omega) (by omega)]⟩)]
        exact h9.cg (fun _ _ => rfl) (fun _ _ => rfl) (fun _ _ => rfl) ⟨rfl, rfl, rfl⟩ (fun i hi => ⟨rfl, rfl, rfl, wdA_pass hI (by omega) (by omega), rfl, rfl⟩)
      exact g_iret hC hq dX6_pass_57 (by decide) (by decide) ⟨rfl, h1, decide_eq_true (by omega), ad, _, h2R, hST, ⟨fun t ht => ⟨cup_ne (fun e => by rw [e] at ht; simp only at ht; omega), rfl⟩, rfl⟩⟩
    · exact g_throw hC hq gt_135_62 dX6_pass_33 dX6_pass_36 dX6_pass_37 dX6_pass_39 dX6_pass_42 (by decide) (Nat.le_of_ble_eq_true rfl) (by decide) (by decide) (by decide) (by decide) ⟨rfl, Or.inr ⟨h1, decide_eq_false (by omega), rfl⟩⟩
  · exact g_throw hC hq gt_133_51 dX6_pass_11 dX6_pass_14 dX6_pass_15 dX6_pass_17 dX6_pass_20 (by decide) (Nat.le_of_ble_eq_true rfl) (by decide) (by decide) (by decide) (by decide) ⟨rfl, Or.inl ⟨h1, rfl⟩⟩

set_option maxHeartbeats 4000000 in
set_option maxRecDepth 100000 in
theorem kX6_spelled {l : Launch} (hl : l.stackTraces = false) {D : gD} {base : Nat}  {ad : Tg → Nat} {z : Nat → Int} {F : Nat → Nat → Int} {ct : Tg → Option gC} (hI : mI z F) (hS : ST ad z F ct) (i on wh : Int) (r_i : -2147483648 ≤ i ∧ i < 2147483648) (r_on : -2147483648 ≤ on ∧ on < 2147483648) (r_wh : -2147483648 ≤ wh ∧ wh < 2147483648) (gh : gH) (hR : cR ad ct gh) : gM l D base yX6_spelled cX6_spelled 6 (some Jvm.ClassFile.FieldType.char) 7 103 2 12 [.ref (ad (2, 0, 0)), vi (i), vi (on), vi (wh)] gh (fun r gh' => r = some (vi (spV F on wh i.toNat)) ∧ gh' = gh ∧ (inB i 0 (z 3 - 1) && decide (0 ≤ wh)) = true ∧ (inB on 0 10000) = true) (fun E gh' => gh' = gh ∧ (((inB i 0 (z 3 - 1) && decide (0 ≤ wh)) = false ∧ E = "java/lang/IndexOutOfBoundsException") ∨ ((inB i 0 (z 3 - 1) && decide (0 ≤ wh)) = true ∧ (inB on 0 10000) = false ∧ E = "java/lang/IllegalArgumentException"))) := by
  refine gM.of hl (by decide) (by simp [Value.category]) (Nat.le_of_ble_eq_true rfl) [some (.ref (ad (2, 0, 0))), some (vi (i)), some (vi (on)), some (vi (wh)), none, none] rfl (fun x hC hq => ?_)
  obtain ⟨i0, i1, i3, i11, i22, iw, ip, inn, inm, ish⟩ := id hI
  obtain ⟨s1, ⟨ml, B, b1, b2, b3⟩, s3, s4, s5, s6, s7, s8⟩ := id hS
  have f1 : gh (ad (2, 0, 0)) = some (gO 10 [.ref (ad (2, 1, 0)), .ref (ad (2, 3, 0)), .ref (ad (2, 4, 0)), .ref (ad (2, 5, 0)), vi (z 3), vi (z 11), vi (z 22), vi (z 0)]) := hR.1 _ _ (s1)
  have f2 : gh (ad (2, 3, 0)) = some (gR 4 14 (fun i => if (i : Int) < z 3 then some (ad (3, i, 0)) else none)) := hR.1 _ _ (s3)
  have f3 : gh (ad (2, 4, 0)) = some (gR 5 4 (fun k => if (k : Int) < z 11 then some (ad (10, k, 0)) else none)) := hR.1 _ _ (s4)
  have f4 : gh (ad (2, 5, 0)) = some (gR 6 5 (fun e => if (e : Int) < z 22 then some (ad (20, e, 0)) else none)) := hR.1 _ _ (s5)
  refine g_ald_n hC dX6_spelled_0 rfl ?_
  refine g_iload_n hC dX6_spelled_1 rfl ?_
  refine g_callVX (rest := []) hC (kX6_placeNumbered hl hI hS i r_i gh hR) gc_RX6_82 rfl f1 rfl ⟨by decide, by decide⟩ ⟨by decide, by decide⟩ (Nat.le_of_ble_eq_true rfl) rfl dX6_spelled_2 (fun E g hx_ => g_out hC hq (by decide) (by decide) (by obtain ⟨h1, h2, h3⟩ := hx_; exact ⟨h1, Or.inl ⟨by rw [h2]; rfl, h3⟩⟩)) (fun r g2 hp => ?_)
  obtain ⟨rfl, hgh, hi⟩ := hp
  rw [hgh]
  refine gV.eqs (st' := [.ref (ad (3, i.toNat, 0))]) rfl rfl rfl ?_
  have hi2 := inB_t hi
  obtain ⟨p1, p2, p3⟩ := s6 i.toNat (by omega)
  have h7 := inn i.toNat (by omega)
  obtain ⟨c7, hc7⟩ : ∃ c7 : Nat, F 7 i.toNat = (c7 : Int) := ⟨(F 7 i.toNat).toNat, by omega⟩
  have hd7 := inm i.toNat
  have hnm := wdA_nm ad F on i.toNat
  have ew : wR (fun j => F 8 (6 * i.toNat + j)) (fun j => ad (6, i.toNat, j)) on c7 = wdA ad F on i.toNat := by unfold wdA; rw [hc7]; rfl
  rw [hc7] at p1 p2 h7
  have f5 : gh (ad (3, i.toNat, 0)) = some (gO 6 [vi (F 4 i.toNat), vi (F 5 i.toNat), vi (F 6 i.toNat), .ref (ad (4, i.toNat, 0)), vi ((c7 : Int))]) := hR.1 _ _ (p1)
  have f6 : gh (ad (4, i.toNat, 0)) = some (gR 7 6 (fun j => if (j : Int) < (c7 : Int) then some (ad (5, i.toNat, j)) else none)) := hR.1 _ _ (p2)
  refine g_ast (lv' := [some (.ref (ad (2, 0, 0))), some (vi (i)), some (vi (on)), some (vi (wh)), some (.ref (ad (3, i.toNat, 0))), none]) hC dX6_spelled_5 (by decide) rfl ?_
  refine g_iload_n hC dX6_spelled_7 rfl ?_
  refine g_if_ge (tgt := 21) hC dX6_spelled_8 (by decide) (by omega) (fun h1 => ?_) (fun h1 => ?_)
  · refine g_iload_n hC dX6_spelled_21 rfl ?_
    refine g_iconst hC dX6_spelled_22 rfl ?_
    refine g_sipush (z := 10000) hC dX6_spelled_23 rfl ?_
    refine g_callS (rest := []) hC (kX6_isWithin hl on 0 10000 r_on (by decide) (by decide) gh ) gc_RX6_67 rfl ⟨by decide, by decide⟩ ⟨by decide, by decide⟩ (Nat.le_of_ble_eq_true rfl) rfl dX6_spelled_26 (fun r gh' hp => ?_)
    obtain ⟨rfl, hgh⟩ := hp
    rw [hgh]
    clear hgh
    refine gV.eqs (st' := [vi (b2i (inB on 0 10000))]) rfl rfl rfl ?_
    refine g_ifne_b (tgt := 42) hC dX6_spelled_29 (by decide)  (fun h2 => ?_) (fun h2 => ?_)
    · refine g_ald hC dX6_spelled_42 rfl ?_
      refine g_iload_n hC dX6_spelled_44 rfl ?_
      refine g_callV (rest := []) hC (kX2_wordOn (q := fun j => ad (5, i.toNat, j)) (sp := fun j => ad (6, i.toNat, j)) (d := fun j => F 8 (6 * i.toNat + j)) hl on r_on (by omega) gh f5 f6 (fun j hj => ⟨if_pos (by omega), hR.1 _ _ (p3 j (by omega)).1, by have := hd7 j (by omega) (by omega); omega⟩)) gc_RX6_122 rfl f5 rfl ⟨by decide, by decide⟩ ⟨by decide, by decide⟩ (Nat.le_of_ble_eq_true rfl) rfl dX6_spelled_45 (fun r g3 hp => ?_)
      obtain ⟨rfl, hgh⟩ := hp
      rw [hgh, ew]
      rcases hnm with ⟨m1, m2⟩ | ⟨j, m1, m2, m3, m4⟩
      · rw [m2]
        refine gV.eqs (st' := [.null]) rfl rfl rfl ?_
        refine g_astore (v := none) (lv' := [some (.ref (ad (2, 0, 0))), some (vi (i)), some (vi (on)), some (vi (wh)), some (.ref (ad (3, i.toNat, 0))), some (.null)]) hC dX6_spelled_48 (by decide) rfl ?_
        refine g_aload (v := none) hC dX6_spelled_50 rfl ?_
        refine g_ifnull (tgt := 64) (v := none) hC dX6_spelled_52 (by decide) (fun _ => ?_) (fun a h => by cases h)
        refine g_bipush (z := 32) hC dX6_spelled_64 rfl ?_
        refine g_goto (tgt := 75) hC dX6_spelled_66 (by decide) ?_
        refine g_top (b := spV F on wh i.toNat) (by unfold spV; rw [if_pos m1]) ?_
        have hv : spV F on wh i.toNat = 32 := by unfold spV; rw [if_pos m1]
        exact g_cret hC hq (by omega) dX6_spelled_75 (by decide) (by decide) ⟨rfl, rfl, by rw [hi, decide_eq_true h1]; rfl, h2⟩
      · rw [m4]
        refine gV.eqs (st' := [.ref (ad (6, i.toNat, j))]) rfl rfl rfl ?_
        obtain ⟨q1, q2, q3⟩ := p3 j (by omega)
        have h9 := hd7 j (by omega) (by omega)
        obtain ⟨kk, hkk⟩ : ∃ kk : Nat, F 9 (6 * i.toNat + j) = (kk : Int) := ⟨(F 9 (6 * i.toNat + j)).toNat, by omega⟩
        rw [hkk] at q3 h9
        rw [Int.toNat_natCast] at q3
        have f7 : gh (ad (6, i.toNat, j)) = some (gO 0 [.ref (ad (7, i.toNat, j)), vi (0), vi (0), vi (0)]) := hR.1 _ _ (q2)
        have f8 : gh (ad (7, i.toNat, j)) = some (gI 2 kk (fun t => F 10 (8 * (6 * i.toNat + j) + t))) := hR.1 _ _ (q3)
        refine g_ast (lv' := [some (.ref (ad (2, 0, 0))), some (vi (i)), some (vi (on)), some (vi (wh)), some (.ref (ad (3, i.toNat, 0))), some (.ref (ad (6, i.toNat, j)))]) hC dX6_spelled_48 (by decide) rfl ?_
        refine g_ald hC dX6_spelled_50 rfl ?_
        refine g_ifnull_r hC dX6_spelled_52 ?_
        refine g_iload_n hC dX6_spelled_55 rfl ?_
        refine g_ald hC dX6_spelled_56 rfl ?_
        refine g_callV (rest := [vi (wh)]) hC (kJ0_length hl  gh f7 f8) gc_RX6_126 rfl f7 rfl ⟨by decide, by decide⟩ ⟨by decide, by decide⟩ (Nat.le_of_ble_eq_true rfl) rfl dX6_spelled_58 (fun r gh' hp => ?_)
        obtain ⟨rfl, hgh⟩ := hp
        rw [hgh]
        clear hgh
        refine gV.eqs (st' := [vi ((kk : Int)), vi (wh)]) rfl rfl rfl ?_
        refine g_icmp_lt (tgt := 69) hC dX6_spelled_61 (by decide) (by omega) (by omega) (fun h5 => ?_) (fun h5 => ?_)
        · obtain ⟨wn, hwn⟩ : ∃ wn : Nat, wh = (wn : Int) := ⟨wh.toNat, by omega⟩
          subst hwn
          have hlt9 := h9.2.2.2.2 wn (by omega)
          refine g_ald hC dX6_spelled_69 rfl ?_
          refine g_iload_n hC dX6_spelled_71 rfl ?_
          refine g_callV (rest := []) hC (kJ0_charAt (P := fun t => F 10 (8 * (6 * i.toNat + j) + t)) hl wn (by omega) (by omega) (by show 0 ≤ F 10 (8 * (6 * i.toNat + j) + wn) ∧ F 10 (8 * (6 * i.toNat + j) + wn) < 128; omega) gh f7 f8) gc_RX6_129 rfl f7 rfl ⟨by decide, by decide⟩ ⟨by decide, by decide⟩ (Nat.le_of_ble_eq_true rfl) rfl dX6_spelled_72 (fun r gh' hp => ?_)
          obtain ⟨rfl, hgh⟩ := hp
          rw [hgh]
          clear hgh
          refine gV.eqs (st' := [vi (F 10 (8 * (6 * i.toNat + j) + wn))]) rfl rfl rfl ?_
          have hv : F 10 (8 * (6 * i.toNat + j) + wn) = spV F on (wn : Int) i.toNat := by unfold spV; rw [if_neg (by omega), if_neg (by rw [m3, hkk]; omega)]; congr 1; omega
          refine g_top hv ?_
          rw [hv] at hlt9
          exact g_cret hC hq (by omega) dX6_spelled_75 (by decide) (by decide) ⟨rfl, rfl, by rw [hi, decide_eq_true h1]; rfl, h2⟩
        · refine g_bipush (z := 32) hC dX6_spelled_64 rfl ?_
          refine g_goto (tgt := 75) hC dX6_spelled_66 (by decide) ?_
          have hv : spV F on wh i.toNat = 32 := by unfold spV; rw [if_neg (by omega), if_pos (by rw [m3, hkk]; omega)]
          refine g_top (b := spV F on wh i.toNat) hv.symm ?_
          exact g_cret hC hq (by omega) dX6_spelled_75 (by decide) (by decide) ⟨rfl, rfl, by rw [hi, decide_eq_true h1]; rfl, h2⟩
    · exact g_throw hC hq gt_120_51 dX6_spelled_32 dX6_spelled_35 dX6_spelled_36 dX6_spelled_38 dX6_spelled_41 (by decide) (Nat.le_of_ble_eq_true rfl) (by decide) (by decide) (by decide) (by decide) ⟨rfl, Or.inr ⟨by rw [hi, decide_eq_true h1]; rfl, h2, rfl⟩⟩
  · exact g_throw hC hq gt_117_119 dX6_spelled_11 dX6_spelled_14 dX6_spelled_15 dX6_spelled_17 dX6_spelled_20 (by decide) (Nat.le_of_ble_eq_true rfl) (by decide) (by decide) (by decide) (by decide) ⟨rfl, Or.inl ⟨by rw [hi, decide_eq_false (by omega)]; rfl, rfl⟩⟩

end C22
