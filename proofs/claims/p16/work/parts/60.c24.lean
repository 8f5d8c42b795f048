/-! the class: place -/
section C24
set_option maxHeartbeats 4000000 in
set_option maxRecDepth 100000 in
theorem kX6_place {l : Launch} (hl : l.stackTraces = false) {D : gD} {base : Nat}  {ad : Tg → Nat} {z : Nat → Int} {F : Nat → Nat → Int} {ct : Tg → Option gC} (hI : mI z F) (hS : ST ad z F ct) (hE : mE z F) (hQ : eQ z F) (a b r : Int) (r_a : -2147483648 ≤ a ∧ a < 2147483648) (r_b : -2147483648 ≤ b ∧ b < 2147483648) (r_r : -2147483648 ≤ r ∧ r < 2147483648) (gh : gH) (hR : cR ad ct gh) : gM l D base yX6_place cX6_place 5 (some Jvm.ClassFile.FieldType.int) 9 199 6 39 [.ref (ad (2, 0, 0)), vi (a), vi (b), vi (r)] gh (fun r' gh' => r' = some (vi (z 3)) ∧ (inB a (-180) 179 && inB b (-60) 60 && inB r (1) 5) = true ∧ (decide (z 3 < 14)) = true ∧ xOK ad ct (gup z 3 (z 3 + 1)) (plF z F a b r) gh') (fun E gh' => gh' = gh ∧ (((inB a (-180) 179 && inB b (-60) 60 && inB r (1) 5) = false ∧ E = "java/lang/IllegalArgumentException") ∨ ((inB a (-180) 179 && inB b (-60) 60 && inB r (1) 5) = true ∧ (decide (z 3 < 14)) = false ∧ E = "java/lang/IllegalStateException"))) := by
  refine gM.of hl (by decide) (by simp [Value.category]) (Nat.le_of_ble_eq_true rfl) [some (.ref (ad (2, 0, 0))), some (vi (a)), some (vi (b)), some (vi (r)), none] rfl (fun x hC hq => ?_)
  obtain ⟨i0, i1, i3, i11, i22, iw, ip, inn, inm, ish⟩ := id hI
  obtain ⟨s1, ⟨ml, B, b1, b2, b3⟩, s3, s4, s5, s6, s7, s8⟩ := id hS
  have f1 : gh (ad (2, 0, 0)) = some (gO 10 [.ref (ad (2, 1, 0)), .ref (ad (2, 3, 0)), .ref (ad (2, 4, 0)), .ref (ad (2, 5, 0)), vi (z 3), vi (z 11), vi (z 22), vi (z 0)]) := hR.1 _ _ (s1)
  have f2 : gh (ad (2, 3, 0)) = some (gR 4 14 (fun i => if (i : Int) < z 3 then some (ad (3, i, 0)) else none)) := hR.1 _ _ (s3)
  have f3 : gh (ad (2, 4, 0)) = some (gR 5 4 (fun k => if (k : Int) < z 11 then some (ad (10, k, 0)) else none)) := hR.1 _ _ (s4)
  have f4 : gh (ad (2, 5, 0)) = some (gR 6 5 (fun e => if (e : Int) < z 22 then some (ad (20, e, 0)) else none)) := hR.1 _ _ (s5)
  obtain ⟨n, hn⟩ : ∃ n : Nat, z 3 = (n : Int) := ⟨(z 3).toNat, by omega⟩
  refine g_iload_n hC dX6_place_0 rfl ?_
  refine g_sipush (z := (-180)) hC dX6_place_1 rfl ?_
  refine g_sipush (z := 179) hC dX6_place_4 rfl ?_
  refine g_callS (rest := []) hC (kX6_isWithin hl a (-180) 179 r_a (by decide) (by decide) gh ) gc_RX6_67 rfl ⟨by decide, by decide⟩ ⟨by decide, by decide⟩ (Nat.le_of_ble_eq_true rfl) rfl dX6_place_7 (fun r gh' hp => ?_)
  obtain ⟨rfl, hgh⟩ := hp
  rw [hgh]
  clear hgh
  refine gV.eqs (st' := [vi (b2i (inB a (-180) 179))]) rfl rfl rfl ?_
  refine g_ifeq_b (tgt := 33) hC dX6_place_10 (by decide)  (fun h1 => ?_) (fun h1 => ?_)
  · exact g_throw hC hq gt_71_51 dX6_place_33 dX6_place_36 dX6_place_37 dX6_place_39 dX6_place_42 (by decide) (Nat.le_of_ble_eq_true rfl) (by decide) (by decide) (by decide) (by decide) ⟨rfl, Or.inl ⟨by simp [h1], rfl⟩⟩
  · refine g_iload_n hC dX6_place_13 rfl ?_
    refine g_bipush (z := (-60)) hC dX6_place_14 rfl ?_
    refine g_bipush (z := 60) hC dX6_place_16 rfl ?_
    refine g_callS (rest := []) hC (kX6_isWithin hl b (-60) 60 r_b (by decide) (by decide) gh ) gc_RX6_67 rfl ⟨by decide, by decide⟩ ⟨by decide, by decide⟩ (Nat.le_of_ble_eq_true rfl) rfl dX6_place_18 (fun r gh' hp => ?_)
    obtain ⟨rfl, hgh⟩ := hp
    rw [hgh]
    clear hgh
    refine gV.eqs (st' := [vi (b2i (inB b (-60) 60))]) rfl rfl rfl ?_
    refine g_ifeq_b (tgt := 33) hC dX6_place_21 (by decide)  (fun h2 => ?_) (fun h2 => ?_)
    · exact g_throw hC hq gt_71_51 dX6_place_33 dX6_place_36 dX6_place_37 dX6_place_39 dX6_place_42 (by decide) (Nat.le_of_ble_eq_true rfl) (by decide) (by decide) (by decide) (by decide) ⟨rfl, Or.inl ⟨by simp [h1, h2], rfl⟩⟩
    · refine g_iload_n hC dX6_place_24 rfl ?_
      refine g_iconst hC dX6_place_25 rfl ?_
      refine g_iconst hC dX6_place_26 rfl ?_
      refine g_callS (rest := []) hC (kX6_isWithin hl r 1 5 r_r (by decide) (by decide) gh ) gc_RX6_67 rfl ⟨by decide, by decide⟩ ⟨by decide, by decide⟩ (Nat.le_of_ble_eq_true rfl) rfl dX6_place_27 (fun r gh' hp => ?_)
      obtain ⟨rfl, hgh⟩ := hp
      rw [hgh]
      clear hgh
      refine gV.eqs (st' := [vi (b2i (inB r 1 5))]) rfl rfl rfl ?_
      refine g_ifne_b (tgt := 43) hC dX6_place_30 (by decide)  (fun h3 => ?_) (fun h3 => ?_)
      · have hab : (inB a (-180) 179 && inB b (-60) 60 && inB r (1) 5) = true := by rw [h1, h2, h3]; rfl
        have ha := inB_t h1
        have hb := inB_t h2
        have hr := inB_t h3
        refine g_ald_n hC dX6_place_43 rfl ?_
        refine g_get hC dX6_place_44 gf_RX6_34 f1 rfl ?_
        refine g_ald_n hC dX6_place_47 rfl ?_
        refine g_get hC dX6_place_48 gf_RX6_18 f1 rfl ?_
        refine g_alenR hC dX6_place_51 f2 (by decide) ?_
        refine g_top (b := 14) rfl ?_
        refine g_icmp_lt (tgt := 65) hC dX6_place_52 (by decide) (by omega) (by omega) (fun h4 => ?_) (fun h4 => ?_)
        · refine g_new hC dX6_place_65 gn_RX6_16 (by decide) (by decide) (fun q5 hnq5 => ?_)
          obtain ⟨gh6, egh6⟩ : ∃ g_, g_ = gset gh q5 (gO 6 [vi (0), vi (0), vi (0), .null, vi (0)]) := ⟨_, rfl⟩
          rw [← egh6]
          have h7 : gh6 (ad (2, 0, 0)) = some (gO 10 [.ref (ad (2, 1, 0)), .ref (ad (2, 3, 0)), .ref (ad (2, 4, 0)), .ref (ad (2, 5, 0)), vi (z 3), vi (z 11), vi (z 22), vi (z 0)]) := by rw [egh6, gset_ne (fun z => by rw [z, hnq5] at f1; cases f1)]; exact f1
          have h8 : gh6 (ad (2, 3, 0)) = some (gR 4 14 (fun i => if (i : Int) < z 3 then some (ad (3, i, 0)) else none)) := by rw [egh6, gset_ne (fun z => by rw [z, hnq5] at f2; cases f2)]; exact f2
          have h9 : gh6 (ad (2, 4, 0)) = some (gR 5 4 (fun k => if (k : Int) < z 11 then some (ad (10, k, 0)) else none)) := by rw [egh6, gset_ne (fun z => by rw [z, hnq5] at f3; cases f3)]; exact f3
          have h10 : gh6 (ad (2, 5, 0)) = some (gR 6 5 (fun e => if (e : Int) < z 22 then some (ad (20, e, 0)) else none)) := by rw [egh6, gset_ne (fun z => by rw [z, hnq5] at f4; cases f4)]; exact f4
          have h11 : gh6 q5 = some (gO 6 [vi (0), vi (0), vi (0), .null, vi (0)]) := by rw [egh6]; exact gset_eq
          refine g_dup hC dX6_place_68 rfl ?_
          refine g_iload_n hC dX6_place_69 rfl ?_
          refine g_iload_n hC dX6_place_70 rfl ?_
          refine g_iload_n hC dX6_place_71 rfl ?_
          have c1R := hR.new (t := (3, n, 0)) hnq5 (gO 6 [vi 0, vi 0, vi 0, .null, vi 0])
          rw [← egh6] at c1R
          refine g_callI (rest := [.ref q5]) hC (kX2_init hl  gh6 h11) gc_RX6_75 rfl ⟨by decide, by decide⟩ ⟨by decide, by decide⟩ (Nat.le_of_ble_eq_true rfl) rfl dX6_place_72 (fun r g3 hp => ?_)
          obtain ⟨rfl, q2, hq2, hgh⟩ := hp
          have c2R := c1R.new (t := (4, n, 0)) hq2 (gR 7 6 (fun _ => none))
          have c3R := c2R.put (t := (3, n, 0)) (by rw [cup_ne (by simp)]; exact cup_eq) (gO 6 [vi a, vi b, vi r, .ref q2, vi 0])
          obtain ⟨ad1, ead⟩ : ∃ x, x = aup (aup ad (3, n, 0) q5) (4, n, 0) q2 := ⟨_, rfl⟩
          have had3 : ad1 (3, n, 0) = q5 := by rw [ead, aup_ne (by simp), aup_eq]
          have had4 : ad1 (4, n, 0) = q2 := by rw [ead, aup_eq]
          have hfa : ∀ t : Tg, t ≠ (3, n, 0) → t ≠ (4, n, 0) → ad1 t = ad t := fun t h3 h4 => by rw [ead, aup_ne h4, aup_ne h3]
          rw [← ead, had3, ← hgh] at c3R
          obtain ⟨ct3, ect⟩ : ∃ x, x = cup (cup (cup ct (3, n, 0) (gO 6 [vi 0, vi 0, vi 0, .null, vi 0])) (4, n, 0) (gR 7 6 (fun _ => none))) (3, n, 0) (gO 6 [vi a, vi b, vi r, .ref q2, vi 0]) := ⟨_, rfl⟩
          rw [← ect] at c3R
          have hc3 : ∀ t : Tg, t ≠ (3, n, 0) → t ≠ (4, n, 0) → ct3 t = ct t := fun t h3 h4 => by rw [ect, cup_ne h3, cup_ne h4, cup_ne h3]
          have hp3 : ct3 (3, n, 0) = some (gO 6 [vi a, vi b, vi r, .ref q2, vi 0]) := by rw [ect]; exact cup_eq
          have hp4 : ct3 (4, n, 0) = some (gR 7 6 (fun _ => none)) := by rw [ect, cup_ne (by simp), cup_eq]
          have k2 : ∀ a b c : Nat, a ≠ 3 → a ≠ 4 → ad1 (a, b, c) = ad (a, b, c) ∧ ct3 (a, b, c) = ct (a, b, c) := fun a b c h3 h4 => ⟨hfa _ (fun e => h3 (congrArg (fun t : Tg => t.1) e)) (fun e => h4 (congrArg (fun t : Tg => t.1) e)), hc3 _ (fun e => h3 (congrArg (fun t : Tg => t.1) e)) (fun e => h4 (congrArg (fun t : Tg => t.1) e))⟩
          have f12 : g3 (ad (2, 0, 0)) = some (gO 10 [.ref (ad (2, 1, 0)), .ref (ad (2, 3, 0)), .ref (ad (2, 4, 0)), .ref (ad (2, 5, 0)), vi (z 3), vi (z 11), vi (z 22), vi (z 0)]) := by have h9_ := c3R.1 (2, 0, 0) _ (by rw [(k2 _ _ _ (by decide) (by decide)).2]; exact s1); rw [(k2 _ _ _ (by decide) (by decide)).1] at h9_; exact h9_
          have f13 : g3 (ad (2, 3, 0)) = some (gR 4 14 (fun i => if (i : Int) < z 3 then some (ad (3, i, 0)) else none)) := by have h9_ := c3R.1 (2, 3, 0) _ (by rw [(k2 _ _ _ (by decide) (by decide)).2]; exact s3); rw [(k2 _ _ _ (by decide) (by decide)).1] at h9_; exact h9_
          have f14 : g3 q5 = some (gO 6 [vi a, vi b, vi r, .ref q2, vi 0]) := by have h9_ := c3R.1 (3, n, 0) _ hp3; rw [had3] at h9_; exact h9_
          refine gV.eqs (st' := [.ref q5]) rfl rfl rfl ?_
          refine g_ast (lv' := [some (.ref (ad (2, 0, 0))), some (vi (a)), some (vi (b)), some (vi (r)), some (.ref q5)]) hC dX6_place_75 (by decide) rfl ?_
          refine g_ald_n hC dX6_place_77 rfl ?_
          refine g_get hC dX6_place_78 gf_RX6_18 f12 rfl ?_
          refine g_ald_n hC dX6_place_81 rfl ?_
          refine g_get hC dX6_place_82 gf_RX6_34 f12 rfl ?_
          refine g_ald hC dX6_place_85 rfl ?_
          refine g_aastK hC (n) dX6_place_87 f13 (by decide) rfl f14 rfl (by omega) (by omega) (by decide) ?_
          obtain ⟨gh15, egh15⟩ : ∃ g_, g_ = gset g3 (ad (2, 3, 0)) (gR 4 14 (gup (fun i => if (i : Int) < z 3 then some (ad (3, i, 0)) else none) (n) (some q5))) := ⟨_, rfl⟩
          rw [← egh15]
          have h16 : gh15 (ad (2, 0, 0)) = some (gO 10 [.ref (ad (2, 1, 0)), .ref (ad (2, 3, 0)), .ref (ad (2, 4, 0)), .ref (ad (2, 5, 0)), vi (z 3), vi (z 11), vi (z 22), vi (z 0)]) := by rw [egh15, gset_ne (gne f12 f13 (by simp))]; exact f12
          have h17 : gh15 q5 = some (gO 6 [vi (a), vi (b), vi (r), .ref q2, vi (0)]) := by rw [egh15, gset_ne (gne f14 f13 (by simp))]; exact f14
          have h18 : gh15 (ad (2, 3, 0)) = some (gR 4 14 (gup (fun i => if (i : Int) < z 3 then some (ad (3, i, 0)) else none) (n) (some q5))) := by rw [egh15]; exact gset_eq
          refine g_ald_n hC dX6_place_88 rfl ?_
          refine g_dup hC dX6_place_89 rfl ?_
          refine g_get hC dX6_place_90 gf_RX6_34 h16 rfl ?_
          refine g_iconst hC dX6_place_93 rfl ?_
          refine g_iadd hC dX6_place_94 ?_
          refine g_put hC (fs' := [.ref (ad (2, 1, 0)), .ref (ad (2, 3, 0)), .ref (ad (2, 4, 0)), .ref (ad (2, 5, 0)), vi ((z 3) + (1)), vi (z 11), vi (z 22), vi (z 0)]) dX6_place_95 gp_RX6_34 h16 ⟨rfl, rfl⟩ rfl (Nat.le_of_ble_eq_true rfl) ?_
          obtain ⟨gh19, egh19⟩ : ∃ g_, g_ = gset gh15 (ad (2, 0, 0)) (gO 10 [.ref (ad (2, 1, 0)), .ref (ad (2, 3, 0)), .ref (ad (2, 4, 0)), .ref (ad (2, 5, 0)), vi ((z 3) + (1)), vi (z 11), vi (z 22), vi (z 0)]) := ⟨_, rfl⟩
          rw [← egh19]
          have h20 : gh19 q5 = some (gO 6 [vi (a), vi (b), vi (r), .ref q2, vi (0)]) := by rw [egh19, gset_ne (gne h17 h16 (by simp))]; exact h17
          have h21 : gh19 (ad (2, 3, 0)) = some (gR 4 14 (gup (fun i => if (i : Int) < z 3 then some (ad (3, i, 0)) else none) (n) (some q5))) := by rw [egh19, gset_ne (gne h18 h16 (by simp))]; exact h18
          have h22 : gh19 (ad (2, 0, 0)) = some (gO 10 [.ref (ad (2, 1, 0)), .ref (ad (2, 3, 0)), .ref (ad (2, 4, 0)), .ref (ad (2, 5, 0)), vi ((z 3) + (1)), vi (z 11), vi (z 22), vi (z 0)]) := by rw [egh19]; exact gset_eq
          refine g_ald_n hC dX6_place_98 rfl ?_
          refine g_ald hC dX6_place_99 rfl ?_
          have c5R := (c3R.put (t := (2, 3, 0)) (by rw [(k2 _ _ _ (by decide) (by decide)).2]; exact s3) (gR 4 14 (gup (fun i => if (i : Int) < z 3 then some (ad (3, i, 0)) else none) n (some q5)))).put (t := (2, 0, 0)) (by rw [cup_ne (by simp), (k2 _ _ _ (by decide) (by decide)).2]; exact s1) (gO 10 [.ref (ad (2, 1, 0)), .ref (ad (2, 3, 0)), .ref (ad (2, 4, 0)), .ref (ad (2, 5, 0)), vi (z 3 + 1), vi (z 11), vi (z 22), vi (z 0)])
          rw [(k2 2 3 0 (by decide) (by decide)).1, (k2 2 0 0 (by decide) (by decide)).1] at c5R
          have c5R2 : cR ad1 (cup (cup ct3 (2, 3, 0) (gR 4 14 (gup (fun i => if (i : Int) < z 3 then some (ad (3, i, 0)) else none) n (some q5)))) (2, 0, 0) (gO 10 [.ref (ad (2, 1, 0)), .ref (ad (2, 3, 0)), .ref (ad (2, 4, 0)), .ref (ad (2, 5, 0)), vi (z 3 + 1), vi (z 11), vi (z 22), vi (z 0)])) gh19 := by rw [egh19, egh15]; exact c5R
          obtain ⟨ct5, ect5⟩ : ∃ x, x = cup (cup ct3 (2, 3, 0) (gR 4 14 (gup (fun i => if (i : Int) < z 3 then some (ad (3, i, 0)) else none) n (some q5)))) (2, 0, 0) (gO 10 [.ref (ad (2, 1, 0)), .ref (ad (2, 3, 0)), .ref (ad (2, 4, 0)), .ref (ad (2, 5, 0)), vi (z 3 + 1), vi (z 11), vi (z 22), vi (z 0)]) := ⟨_, rfl⟩
          rw [← ect5] at c5R2
          have k5 : ∀ a b c : Nat, a ≠ 2 ∨ (b ≠ 0 ∧ b ≠ 3) → ct5 (a, b, c) = ct3 (a, b, c) := fun a b c h => by rw [ect5, cup_ne (fun e => by have h1 := congrArg (fun t : Tg => t.1) e; have h2 := congrArg (fun t : Tg => t.2.1) e; simp only at h1 h2; omega), cup_ne (fun e => by have h1 := congrArg (fun t : Tg => t.1) e; have h2 := congrArg (fun t : Tg => t.2.1) e; simp only at h1 h2; omega)]
          have hI2 := mI_place hI ha hb hr h4
          have hag := agr_place (z := z) (F := F) (ns := (z 11).toNat) (ne := (z 22).toNat) (a := a) (b := b) (r := r)
          have hn2 : (z 3).toNat = n := by omega
          have hn7 : F 7 n = 0 := (inn n (by omega)).2.2 (by omega)
          have e1 : ct5 (2, 0, 0) = some (clO ad1 (gup z 3 (z 3 + 1))) := by
            rw [ect5, cup_eq]; unfold clO; rw [(k2 2 1 0 (by decide) (by decide)).1, (k2 2 3 0 (by decide) (by decide)).1, (k2 2 4 0 (by decide) (by decide)).1, (k2 2 5 0 (by decide) (by decide)).1]; rfl
          have e4 : ct5 (2, 4, 0) = some (gR 5 4 (fun k => if (k : Int) < (gup z 3 (z 3 + 1)) 11 then some (ad1 (10, k, 0)) else none)) := by
            rw [k5 _ _ _ (Or.inr ⟨by decide, by decide⟩), (k2 _ _ _ (by decide) (by decide)).2, s4]; congr 2; funext k; rw [(k2 10 k 0 (by decide) (by decide)).1]; rfl
          have e6 : ∀ i : Nat, i < n + 1 → PLP ad1 (plF z F a b r) i ct5 := by
            intro i hi
            by_cases q : i = n
            · rw [q]
              refine ⟨?_, ?_, fun j hj => ?_⟩
              · rw [k5 _ _ _ (Or.inl (by decide)), hp3, had4, plF_ne (k := 7) (by decide), hn7]
                show some (gO 6 [vi a, vi b, vi r, .ref q2, vi 0]) = some (gO 6 [vi (gup (F 4) (z 3).toNat a n), vi (gup (F 5) (z 3).toNat b n), vi (gup (F 6) (z 3).toNat r n), .ref q2, vi 0])
                rw [hn2, gup_eq, gup_eq, gup_eq]
              · rw [k5 _ _ _ (Or.inl (by decide)), hp4, plF_ne (k := 7) (by decide), hn7]
                exact congrArg (fun f => some (gR 7 6 f)) (funext (fun j => (if_neg (by omega)).symm))
              · rw [plF_ne (k := 7) (by decide), hn7] at hj; omega
            · have hne3 : ∀ a c : Nat, (a, i, c) ≠ ((3, n, 0) : Tg) := fun a c e => q (congrArg (fun t : Tg => t.2.1) e)
              have hne4 : ∀ a c : Nat, (a, i, c) ≠ ((4, n, 0) : Tg) := fun a c e => q (congrArg (fun t : Tg => t.2.1) e)
              have ag := hag.1 i (by omega)
              exact (s6 i (by omega)).cg (fun a ha => ⟨by rw [k5 _ _ _ (Or.inl (by omega)), hc3 _ (hne3 a 0) (hne4 a 0)], hfa _ (hne3 a 0) (hne4 a 0)⟩) (fun a j h1 h2 _ => ⟨by rw [k5 _ _ _ (Or.inl (by omega)), hc3 _ (hne3 a j) (hne4 a j)], hfa _ (hne3 a j) (hne4 a j)⟩) ⟨ag.1, ag.2.1, ag.2.2, by rw [plF_ne (k := 7) (by decide)]⟩ (fun j _ => ⟨by rw [plF_ne (k := 8) (by decide)], by rw [plF_ne (k := 9) (by decide)], fun t => by rw [plF_ne (k := 10) (by decide)]⟩)
          have kS : ∀ k (t : Tg), tS k t → ct5 t = ct t ∧ ad1 t = ad t := fun k t ht => by
            obtain ⟨ta, tb, tc⟩ := t
            have h1 := ht.1; have h2 := ht.2.1; simp only at h1 h2
            exact ⟨by rw [k5 _ _ _ (Or.inl (by omega)), (k2 _ _ _ (by omega) (by omega)).2], (k2 _ _ _ (by omega) (by omega)).1⟩
          have e7 : ∀ k : Nat, (k : Int) < (gup z 3 (z 3 + 1)) 11 → ∃ sd ah wo c lo N P T, SHP ad1 (plF z F a b r) k n sd ah wo c lo N P T ct5 := by
            intro k hk
            have hk2 : (k : Int) < z 11 := hk
            obtain ⟨ah, N, T, h9⟩ := s7 k hk2
            rw [hn2] at h9
            exact ⟨_, _, _, _, _, _, _, _, h9.cg (fun t ht => (kS k t ht).1) (fun t ht => (kS k t ht).2) (fun i hi => hfa _ (fun e => by have := congrArg (fun t : Tg => t.2.1) e; simp only at this; omega) (fun e => by have := congrArg (fun t : Tg => t.1) e; simp only at this; omega)) ⟨by rw [plF_ne (k := 12) (by decide)], by rw [plF_ne (k := 13) (by decide)], by rw [plF_ne (k := 14) (by decide)]⟩ (fun i hi => ⟨(hag.1 i (by omega)).2.2, hag.o_cN (by omega) (by omega), hag.o_rN (by omega) (by omega), rfl, rfl, rfl⟩)⟩
          refine gV.eqs (st' := [.ref (ad1 (3, n, 0)), .ref (ad1 (2, 0, 0))]) rfl (by rw [had3, (k2 2 0 0 (by decide) (by decide)).1]) rfl ?_
          refine g_callV (rest := []) hC (kX6_showOnAllSheets hl hI2 (by show z 3 + 1 = _; omega) e1 e4 e6 e7 gh19 c5R2) gc_RX6_78 rfl (c5R2.1 _ _ e1) rfl ⟨by decide, by decide⟩ ⟨by decide, by decide⟩ (Nat.le_of_ble_eq_true rfl) rfl dX6_place_101 (fun r g6 hp => ?_)
          obtain ⟨rfl, ad6, ct6, h6R, hfr6, hfa6, hSS6⟩ := hp
          have a6 : ∀ a b c : Nat, a ≠ 3 → a ≠ 4 → a ≠ 17 → ad6 (a, b, c) = ad (a, b, c) := fun a b c h3 h4 h17 => by rw [hfa6 _ (t17 h17), (k2 a b c h3 h4).1]
          have f23 : g6 (ad (2, 0, 0)) = some (gO 10 [.ref (ad (2, 1, 0)), .ref (ad (2, 3, 0)), .ref (ad (2, 4, 0)), .ref (ad (2, 5, 0)), vi (z 3 + 1), vi (z 11), vi (z 22), vi (z 0)]) := by have h9_ := h6R.1 (2, 0, 0) (gO 10 [.ref (ad (2, 1, 0)), .ref (ad (2, 3, 0)), .ref (ad (2, 4, 0)), .ref (ad (2, 5, 0)), vi (z 3 + 1), vi (z 11), vi (z 22), vi (z 0)]) (by rw [hfr6 _ (Or.inl (Nat.le_of_ble_eq_true rfl)), ect5, cup_eq]); rw [a6 _ _ _ (by decide) (by decide) (by decide)] at h9_; exact h9_
          refine gV.eqs (st' := []) rfl rfl rfl ?_
          refine g_ald_n hC dX6_place_104 rfl ?_
          refine g_get hC dX6_place_105 gf_RX6_34 f23 rfl ?_
          refine g_iconst hC dX6_place_108 rfl ?_
          refine g_isub hC dX6_place_109 ?_
          refine g_top (b := z 3) (by omega) ?_
          have f6 : ∀ a b c : Nat, a < 10 → ct6 (a, b, c) = ct5 (a, b, c) := fun a b c h => hfr6 _ (Or.inl h)
          have e5 : ∀ b c : Nat, b ≠ 0 → b ≠ 3 → ct6 (2, b, c) = ct (2, b, c) := fun b c h0 h3 => by rw [f6 _ _ _ (by decide), k5 _ _ _ (Or.inr ⟨h0, h3⟩), (k2 _ _ _ (by decide) (by decide)).2]
          have hST : ST ad6 (gup z 3 (z 3 + 1)) (plF z F a b r) ct6 := by
            refine ⟨?_, ⟨ml, B, ?_, ?_, fun t ht => by rw [plF_ne (k := 2) (by decide)]; exact b3 t ht⟩, ?_, ?_, ?_, fun i hi => ?_, fun k hk => ?_, fun e he => ?_⟩
            · rw [f6 _ _ _ (by decide), e1]; unfold clO; rw [hfa6 _ (t17 (by decide)), hfa6 _ (t17 (by decide)), hfa6 _ (t17 (by decide)), hfa6 _ (t17 (by decide))]
            · rw [e5 _ _ (by decide) (by decide), a6 _ _ _ (by decide) (by decide) (by decide)]; exact b1
            · rw [e5 _ _ (by decide) (by decide)]; exact b2
            · rw [f6 _ _ _ (by decide), ect5, cup_ne (by simp), cup_eq]; congr 2; funext i; unfold gup
              by_cases q : i = n
              · rw [if_pos q, q, if_pos (by show (n : Int) < z 3 + 1; omega), hfa6 _ (t17 (by decide)), had3]
              · rw [if_neg q]
                show (if (i : Int) < z 3 then some (ad (3, i, 0)) else none) = (if (i : Int) < z 3 + 1 then some (ad6 (3, i, 0)) else none)
                by_cases q2 : (i : Int) < z 3
                · rw [if_pos q2, if_pos (by omega), hfa6 _ (t17 (by decide)), hfa _ (fun e => q (congrArg (fun t : Tg => t.2.1) e)) (by simp)]
                · rw [if_neg q2, if_neg (by omega)]
            · rw [f6 _ _ _ (by decide), e4]; congr 2; funext k; rw [hfa6 _ (t17 (by decide))]
            · rw [e5 _ _ (by decide) (by decide), s5]; congr 2; funext e; rw [a6 _ _ _ (by decide) (by decide) (by decide)]; rfl
            · have hi2 : (i : Int) < z 3 + 1 := hi
              exact (e6 i (by omega)).cg (fun a ha => ⟨f6 _ _ _ (by omega), hfa6 _ (t17 (by omega))⟩) (fun a j h1 h2 _ => ⟨f6 _ _ _ (by omega), hfa6 _ (t17 (by omega))⟩) ⟨rfl, rfl, rfl, rfl⟩ (fun j _ => ⟨rfl, rfl, fun _ => rfl⟩)
            · have h9 := hSS6 k hk
              show SHS ad6 (plF z F a b r) (z 0) (z 3 + 1).toNat k ct6
              rw [show (z 3 + 1).toNat = n + 1 by omega]; exact h9
            · have he2 : (e : Int) < z 22 := he
              have hm := hE e he2
              exact (s8 e he2).cg (fun a b h1 h2 => ⟨by rw [hfr6 _ (Or.inr (by show 17 < a; omega)), k5 _ _ _ (Or.inl (by omega)), (k2 _ _ _ (by omega) (by omega)).2], a6 _ _ _ (by omega) (by omega) (by omega)⟩) ⟨by rw [plF_ne (k := 24) (by decide)], by rw [plF_ne (k := 23) (by decide)]⟩ (fun s hs => hag.o_recP hI hQ (by omega) (by omega) he2 (by omega) (by omega) hs (by omega) _ (by omega) (by omega))
          refine g_iret hC hq dX6_place_110 (by decide) (by decide) ⟨rfl, hab, decide_eq_true (by omega), ad6, ct6, h6R, hST, ⟨fun t ht => ?_, a6 _ _ _ (by decide) (by decide) (by decide)⟩⟩
          obtain ⟨ta, tb, tc⟩ := t
          simp only at ht
          exact ⟨by rw [hfr6 _ (by show ta < 10 ∨ 17 < ta; omega), k5 _ _ _ (Or.inl (by omega)), (k2 _ _ _ (by omega) (by omega)).2], a6 _ _ _ (by omega) (by omega) (by omega)⟩
        · exact g_throw hC hq gt_73_62 dX6_place_55 dX6_place_58 dX6_place_59 dX6_place_61 dX6_place_64 (by decide) (Nat.le_of_ble_eq_true rfl) (by decide) (by decide) (by decide) (by decide) ⟨rfl, Or.inr ⟨hab, decide_eq_false (by omega), rfl⟩⟩
      · exact g_throw hC hq gt_71_51 dX6_place_33 dX6_place_36 dX6_place_37 dX6_place_39 dX6_place_42 (by decide) (Nat.le_of_ble_eq_true rfl) (by decide) (by decide) (by decide) (by decide) ⟨rfl, Or.inl ⟨by simp [h1, h2, h3], rfl⟩⟩

end C24
