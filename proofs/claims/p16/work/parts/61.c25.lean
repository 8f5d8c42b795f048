/-! the class: sheet -/
section C25
set_option maxHeartbeats 4000000 in
set_option maxRecDepth 100000 in
theorem kX6_sheet {l : Launch} (hl : l.stackTraces = false) {D : gD} {base : Nat}  {ad : Tg → Nat} {z : Nat → Int} {F : Nat → Nat → Int} {ct : Tg → Option gC} (hI : mI z F) (hS : ST ad z F ct) (hE : mE z F) (hQ : eQ z F) (a b r : Int) (r_a : -2147483648 ≤ a ∧ a < 2147483648) (r_b : -2147483648 ≤ b ∧ b < 2147483648) (r_r : -2147483648 ≤ r ∧ r < 2147483648) (gh : gH) (hR : cR ad ct gh) : gM l D base yX6_sheet cX6_sheet 6 (some Jvm.ClassFile.FieldType.int) 8 176 21 2057 [.ref (ad (2, 0, 0)), vi (a), vi (b), vi (r)] gh (fun r' gh' => r' = some (vi (z 11)) ∧ (inB a (-180) 150 && inB b (-60) 41 && inB r (0) 1) = true ∧ (decide (z 11 < 4)) = true ∧ xOK ad ct (gup z 11 (z 11 + 1)) (shF z F a b r) gh') (fun E gh' => gh' = gh ∧ (((inB a (-180) 150 && inB b (-60) 41 && inB r (0) 1) = false ∧ E = "java/lang/IllegalArgumentException") ∨ ((inB a (-180) 150 && inB b (-60) 41 && inB r (0) 1) = true ∧ (decide (z 11 < 4)) = false ∧ E = "java/lang/IllegalStateException"))) := by
  refine gM.of hl (by decide) (by simp [Value.category]) (Nat.le_of_ble_eq_true rfl) [some (.ref (ad (2, 0, 0))), some (vi (a)), some (vi (b)), some (vi (r)), none, none] rfl (fun x hC hq => ?_)
  obtain ⟨i0, i1, i3, i11, i22, iw, ip, inn, inm, ish⟩ := id hI
  obtain ⟨s1, ⟨ml, B, b1, b2, b3⟩, s3, s4, s5, s6, s7, s8⟩ := id hS
  have f1 : gh (ad (2, 0, 0)) = some (gO 10 [.ref (ad (2, 1, 0)), .ref (ad (2, 3, 0)), .ref (ad (2, 4, 0)), .ref (ad (2, 5, 0)), vi (z 3), vi (z 11), vi (z 22), vi (z 0)]) := hR.1 _ _ (s1)
  have f2 : gh (ad (2, 3, 0)) = some (gR 4 14 (fun i => if (i : Int) < z 3 then some (ad (3, i, 0)) else none)) := hR.1 _ _ (s3)
  have f3 : gh (ad (2, 4, 0)) = some (gR 5 4 (fun k => if (k : Int) < z 11 then some (ad (10, k, 0)) else none)) := hR.1 _ _ (s4)
  have f4 : gh (ad (2, 5, 0)) = some (gR 6 5 (fun e => if (e : Int) < z 22 then some (ad (20, e, 0)) else none)) := hR.1 _ _ (s5)
  obtain ⟨n, hn⟩ : ∃ n : Nat, z 3 = (n : Int) := ⟨(z 3).toNat, by omega⟩
  obtain ⟨k, hk⟩ : ∃ k : Nat, z 11 = (k : Int) := ⟨(z 11).toNat, by omega⟩
  refine g_iload_n hC dX6_sheet_0 rfl ?_
  refine g_sipush (z := (-180)) hC dX6_sheet_1 rfl ?_
  refine g_sipush (z := 150) hC dX6_sheet_4 rfl ?_
  refine g_callS (rest := []) hC (kX6_isWithin hl a (-180) 150 r_a (by decide) (by decide) gh ) gc_RX6_67 rfl ⟨by decide, by decide⟩ ⟨by decide, by decide⟩ (Nat.le_of_ble_eq_true rfl) rfl dX6_sheet_7 (fun r gh' hp => ?_)
  obtain ⟨rfl, hgh⟩ := hp
  rw [hgh]
  clear hgh
  refine gV.eqs (st' := [vi (b2i (inB a (-180) 150))]) rfl rfl rfl ?_
  refine g_ifeq_b (tgt := 33) hC dX6_sheet_10 (by decide)  (fun h1 => ?_) (fun h1 => ?_)
  · exact g_throw hC hq gt_137_51 dX6_sheet_33 dX6_sheet_36 dX6_sheet_37 dX6_sheet_39 dX6_sheet_42 (by decide) (Nat.le_of_ble_eq_true rfl) (by decide) (by decide) (by decide) (by decide) ⟨rfl, Or.inl ⟨by simp [h1], rfl⟩⟩
  · refine g_iload_n hC dX6_sheet_13 rfl ?_
    refine g_bipush (z := (-60)) hC dX6_sheet_14 rfl ?_
    refine g_bipush (z := 41) hC dX6_sheet_16 rfl ?_
    refine g_callS (rest := []) hC (kX6_isWithin hl b (-60) 41 r_b (by decide) (by decide) gh ) gc_RX6_67 rfl ⟨by decide, by decide⟩ ⟨by decide, by decide⟩ (Nat.le_of_ble_eq_true rfl) rfl dX6_sheet_18 (fun r gh' hp => ?_)
    obtain ⟨rfl, hgh⟩ := hp
    rw [hgh]
    clear hgh
    refine gV.eqs (st' := [vi (b2i (inB b (-60) 41))]) rfl rfl rfl ?_
    refine g_ifeq_b (tgt := 33) hC dX6_sheet_21 (by decide)  (fun h2 => ?_) (fun h2 => ?_)
    · exact g_throw hC hq gt_137_51 dX6_sheet_33 dX6_sheet_36 dX6_sheet_37 dX6_sheet_39 dX6_sheet_42 (by decide) (Nat.le_of_ble_eq_true rfl) (by decide) (by decide) (by decide) (by decide) ⟨rfl, Or.inl ⟨by simp [h1, h2], rfl⟩⟩
    · refine g_iload_n hC dX6_sheet_24 rfl ?_
      refine g_if_eq (tgt := 43) hC dX6_sheet_25 (by decide) (by omega) (fun h3 => ?_) (fun h3 => ?_)
      · have hr : 0 ≤ r ∧ r ≤ 1 := by omega
        have hab : (inB a (-180) 150 && inB b (-60) 41 && inB r (0) 1) = true := by rw [h1, h2, show inB r (0) 1 = true from decide_eq_true hr]; rfl
        have ha := inB_t h1
        have hb := inB_t h2
        have hr01 : r = 0 ∨ r = 1 := by omega
        refine g_ald_n hC dX6_sheet_43 rfl ?_
        refine g_get hC dX6_sheet_44 gf_RX6_38 f1 rfl ?_
        refine g_ald_n hC dX6_sheet_47 rfl ?_
        refine g_get hC dX6_sheet_48 gf_RX6_24 f1 rfl ?_
        refine g_alenR hC dX6_sheet_51 f3 (by decide) ?_
        refine g_top (b := 4) rfl ?_
        refine g_icmp_lt (tgt := 65) hC dX6_sheet_52 (by decide) (by omega) (by omega) (fun h6 => ?_) (fun h6 => ?_)
        · refine g_new hC dX6_sheet_65 gn_RX6_22 (by decide) (by decide) (fun q5 hnq5 => ?_)
          obtain ⟨gh6, egh6⟩ : ∃ g_, g_ = gset gh q5 (gO 7 [.null, .null, vi (0), vi (0), vi (0), .null, vi (0), .null, vi (0)]) := ⟨_, rfl⟩
          rw [← egh6]
          have h7 : gh6 (ad (2, 0, 0)) = some (gO 10 [.ref (ad (2, 1, 0)), .ref (ad (2, 3, 0)), .ref (ad (2, 4, 0)), .ref (ad (2, 5, 0)), vi (z 3), vi (z 11), vi (z 22), vi (z 0)]) := by rw [egh6, gset_ne (fun z => by rw [z, hnq5] at f1; cases f1)]; exact f1
          have h8 : gh6 (ad (2, 3, 0)) = some (gR 4 14 (fun i => if (i : Int) < z 3 then some (ad (3, i, 0)) else none)) := by rw [egh6, gset_ne (fun z => by rw [z, hnq5] at f2; cases f2)]; exact f2
          have h9 : gh6 (ad (2, 4, 0)) = some (gR 5 4 (fun k => if (k : Int) < z 11 then some (ad (10, k, 0)) else none)) := by rw [egh6, gset_ne (fun z => by rw [z, hnq5] at f3; cases f3)]; exact f3
          have h10 : gh6 (ad (2, 5, 0)) = some (gR 6 5 (fun e => if (e : Int) < z 22 then some (ad (20, e, 0)) else none)) := by rw [egh6, gset_ne (fun z => by rw [z, hnq5] at f4; cases f4)]; exact f4
          have h11 : gh6 q5 = some (gO 7 [.null, .null, vi (0), vi (0), vi (0), .null, vi (0), .null, vi (0)]) := by rw [egh6]; exact gset_eq
          refine g_dup hC dX6_sheet_68 rfl ?_
          refine g_iload_n hC dX6_sheet_69 rfl ?_
          refine g_iload_n hC dX6_sheet_70 rfl ?_
          refine g_iload_n hC dX6_sheet_71 rfl ?_
          have c1R := hR.new (t := (10, k, 0)) hnq5 (gO 7 [.null, .null, vi 0, vi 0, vi 0, .null, vi 0, .null, vi 0])
          rw [← egh6] at c1R
          refine g_callI (rest := [.ref q5]) hC (kX3_init hl  gh6 h11) gc_RX6_141 rfl ⟨by decide, by decide⟩ ⟨by decide, by decide⟩ (Nat.le_of_ble_eq_true rfl) rfl dX6_sheet_72 (fun r g3 hp => ?_)
          obtain ⟨rfl, s1_, q1_, s2_, q2_, oa, na, w1, w2, w3, w4, w5, w6, wn, hgh⟩ := hp
          have hk2 : (z 11).toNat = k := by omega
          have hn2 : (z 3).toNat = n := by omega
          have v12 : shF z F a b r 12 k = a := by show gup (F 12) (z 11).toNat a k = a; rw [hk2, gup_eq]
          have v13 : shF z F a b r 13 k = b := by show gup (F 13) (z 11).toNat b k = b; rw [hk2, gup_eq]
          have v14 : shF z F a b r 14 k = r := by show gup (F 14) (z 11).toNat r k = r; rw [hk2, gup_eq]
          obtain ⟨ad2, ct2, c2R, hc2, ha2, hS2⟩ := c1R.sheet (k := k) (F := shF z F a b r) cup_eq w1 w2 w3 w4 w5 w6 wn (gh' := g3) (by rw [aup_eq, v12, v13, v14]; exact hgh) (sd := fun _ => 0) (ah := fun _ => 0) (wo := fun _ => none) (lo := fun _ => 0)
          have a10 : ad2 (10, k, 0) = q5 := by rw [ha2 _ (Or.inr rfl), aup_eq]
          have k2 : ∀ t : Tg, ¬ tS k t → ct2 t = ct t ∧ ad2 t = ad t := fun t ht => by
            have e : t ≠ (10, k, 0) := fun e => ht (by rw [e]; exact ⟨Nat.le_of_ble_eq_true rfl, Nat.le_of_ble_eq_true rfl, rfl⟩)
            exact ⟨by rw [hc2 t ht, cup_ne e], by rw [ha2 t (Or.inl ht), aup_ne e]⟩
          clear hgh c1R w1 w2 w3 w4 w5 w6 wn hc2 ha2
          have hI2 := mI_sheet hI ha hb hr01 h6
          have hag := agr_sheet (z := z) (F := F) (np := n) (ne := (z 22).toNat) (a := a) (b := b) (r := r)
          have hle3 : ∀ j : Nat, j ≤ 11 → shF z F a b r j = F j := fun j hj => shF_ne (by omega)
          refine gV.eqs (st' := [.ref q5]) rfl rfl rfl ?_
          refine g_ast (lv' := [some (.ref (ad (2, 0, 0))), some (vi (a)), some (vi (b)), some (vi (r)), some (.ref q5), none]) hC dX6_sheet_75 (by decide) rfl ?_
          refine g_iconst hC dX6_sheet_77 rfl ?_
          refine g_istore (lv' := [some (.ref (ad (2, 0, 0))), some (vi (a)), some (vi (b)), some (vi (r)), some (.ref q5), some (vi (0))]) hC dX6_sheet_78 (by decide) rfl ?_
          have lp : ∀ m : Nat, m ≤ n → ∀ (g4 : gH) (ad3 : Tg → Nat) (ct3 : Tg → Option gC), cR ad3 ct3 g4 → (∀ t : Tg, ¬ tS k t → ct3 t = ct t ∧ ad3 t = ad t) → ad3 (10, k, 0) = q5 → (∃ sd ah wo, SHP ad3 (shF z F a b r) k m sd ah wo 0 (fun _ => 0) (fun _ => none) (fun _ => 0) (fun _ => 0) ct3) → gV x D base 6 80 [some (.ref (ad (2, 0, 0))), some (vi (a)), some (vi (b)), some (vi (r)), some (.ref q5), some (vi ((m : Int)))] [] g4 (7 + m) (1959 + 7 * m) := by
            refine g_for _ (fun m hm ih => ?_) ?_
            · intro g4 ad3 ct3 c3R hk3 h10 hSx
              obtain ⟨sd, ah, wo, hS3⟩ := hSx
              have f12 : g4 (ad (2, 0, 0)) = some (gO 10 [.ref (ad (2, 1, 0)), .ref (ad (2, 3, 0)), .ref (ad (2, 4, 0)), .ref (ad (2, 5, 0)), vi (z 3), vi (z 11), vi (z 22), vi (z 0)]) := by have h9_ := c3R.1 (2, 0, 0) _ (by rw [(hk3 _ (notS (Or.inl (by decide)))).1]; exact s1); rw [(hk3 _ (notS (Or.inl (by decide)))).2] at h9_; exact h9_
              have f13 : g4 (ad (2, 3, 0)) = some (gR 4 14 (fun i => if (i : Int) < z 3 then some (ad (3, i, 0)) else none)) := by have h9_ := c3R.1 (2, 3, 0) _ (by rw [(hk3 _ (notS (Or.inl (by decide)))).1]; exact s3); rw [(hk3 _ (notS (Or.inl (by decide)))).2] at h9_; exact h9_
              have f14 : g4 (ad (2, 4, 0)) = some (gR 5 4 (fun k => if (k : Int) < z 11 then some (ad (10, k, 0)) else none)) := by have h9_ := c3R.1 (2, 4, 0) _ (by rw [(hk3 _ (notS (Or.inl (by decide)))).1]; exact s4); rw [(hk3 _ (notS (Or.inl (by decide)))).2] at h9_; exact h9_
              have fsh := c3R.1 _ _ hS3.1
              rw [h10] at fsh
              have hp3 := (s6 m (by omega)).1
              have hp3b : ct3 (3, m, 0) = some (gO 6 [vi (shF z F a b r 4 m), vi (shF z F a b r 5 m), vi (shF z F a b r 6 m), .ref (ad (4, m, 0)), vi (F 7 m)]) := by rw [(hk3 _ (notS (Or.inl (by decide)))).1, hp3, hle3 4 (by decide), hle3 5 (by decide), hle3 6 (by decide)]
              have ipn := hI2.2.2.2.2.2.2.1 m (by show (m : Int) < z 3; omega)
              have ism := hI2.2.2.2.2.2.2.2.2.2 k (by show (k : Int) < z 11 + 1; omega)
              refine g_iload hC dX6_sheet_80 rfl ?_
              refine g_ald_n hC dX6_sheet_82 rfl ?_
              refine g_get hC dX6_sheet_83 gf_RX6_34 f12 rfl ?_
              refine g_icmp_ge (tgt := 117) hC dX6_sheet_86 (by decide) (by omega) (by omega) (fun c_86 => False.elim (by omega)) (fun c_86 => ?_)
              refine g_iload hC dX6_sheet_89 rfl ?_
              refine g_ald_n hC dX6_sheet_91 rfl ?_
              refine g_get hC dX6_sheet_92 gf_RX6_18 f12 rfl ?_
              refine g_alenR hC dX6_sheet_95 f13 (by decide) ?_
              refine g_top (b := 14) rfl ?_
              refine g_icmp_ge (tgt := 117) hC dX6_sheet_96 (by decide) (by omega) (by omega) (fun c_96 => False.elim (by omega)) (fun c_96 => ?_)
              refine g_ald hC dX6_sheet_99 rfl ?_
              refine g_ald_n hC dX6_sheet_101 rfl ?_
              refine g_get hC dX6_sheet_102 gf_RX6_18 f12 rfl ?_
              refine g_iload hC dX6_sheet_105 rfl ?_
              refine g_aaldK (v := some (ad (3, m, 0))) hC (m) dX6_sheet_107 f13 (by decide) rfl (by omega) (by omega) (by decide) (if_pos (by omega)) ?_
              refine gV.eqs (st' := [.ref (ad3 (3, m, 0)), .ref (ad3 (10, k, 0))]) rfl (by rw [h10, (hk3 _ (notS (Or.inl (by decide)))).2] <;> rfl) rfl ?_
              refine g_callV (rest := []) hC (kX3_showC hl ⟨ipn.1, ipn.2.1, ipn.2.2.1, ipn.2.2.2.1⟩ ism (by omega) hS3 hp3b g4 c3R) gc_RX6_142 rfl (c3R.1 _ _ hS3.1) rfl ⟨by decide, by decide⟩ ⟨by show 7 + m + 1 ≤ 21; omega, by show 1959 + 7 * m + 7 ≤ 2057; omega⟩ (Nat.le_of_ble_eq_true rfl) rfl dX6_sheet_108 (fun r g5 hp => ?_)
              obtain ⟨rfl, t, ct4, c4R, hfr4, hS4⟩ := hp
              refine gV.eqs (st' := []) rfl rfl rfl ?_
              refine g_iinc (lv' := [some (.ref (ad (2, 0, 0))), some (vi (a)), some (vi (b)), some (vi (r)), some (.ref q5), some (vi ((m : Int) + 1))]) hC dX6_sheet_111 (by decide) rfl rfl ?_
              refine g_goto (tgt := 80) hC dX6_sheet_114 (by decide) ?_
              refine gV.widen (k := 7 + (m + 1)) (n := 1959 + 7 * (m + 1)) (by omega) (by omega) ?_
              refine gV.eqs (lv' := [some (.ref (ad (2, 0, 0))), some (vi (a)), some (vi (b)), some (vi (r)), some (.ref q5), some (vi ((((m + 1) : Nat) : Int)))]) (lcons rfl (lcons rfl (lcons rfl (lcons rfl (lcons rfl (lcons (svi (by omega)) rfl)))))) rfl rfl (ih g5 _ ct4 c4R (fun u hu => ⟨by rw [hfr4 u hu]; exact (hk3 u hu).1, by rw [aup_ne (fun e => hu (by rw [e]; exact ⟨Nat.le_of_ble_eq_true rfl, Nat.le_of_ble_eq_true rfl, rfl⟩))]; exact (hk3 u hu).2⟩) (by rw [aup_ne (by simp)]; exact h10) ⟨_, _, _, hS4⟩)
            · intro g4 ad3 ct3 c3R hk3 h10 hSx
              obtain ⟨sd, ah, wo, hS3⟩ := hSx
              have f15 : g4 (ad (2, 0, 0)) = some (gO 10 [.ref (ad (2, 1, 0)), .ref (ad (2, 3, 0)), .ref (ad (2, 4, 0)), .ref (ad (2, 5, 0)), vi (z 3), vi (z 11), vi (z 22), vi (z 0)]) := by have h9_ := c3R.1 (2, 0, 0) _ (by rw [(hk3 _ (notS (Or.inl (by decide)))).1]; exact s1); rw [(hk3 _ (notS (Or.inl (by decide)))).2] at h9_; exact h9_
              have f16 : g4 (ad (2, 3, 0)) = some (gR 4 14 (fun i => if (i : Int) < z 3 then some (ad (3, i, 0)) else none)) := by have h9_ := c3R.1 (2, 3, 0) _ (by rw [(hk3 _ (notS (Or.inl (by decide)))).1]; exact s3); rw [(hk3 _ (notS (Or.inl (by decide)))).2] at h9_; exact h9_
              have f17 : g4 (ad (2, 4, 0)) = some (gR 5 4 (fun k => if (k : Int) < z 11 then some (ad (10, k, 0)) else none)) := by have h9_ := c3R.1 (2, 4, 0) _ (by rw [(hk3 _ (notS (Or.inl (by decide)))).1]; exact s4); rw [(hk3 _ (notS (Or.inl (by decide)))).2] at h9_; exact h9_
              have fsh := c3R.1 _ _ hS3.1
              rw [h10] at fsh
              refine g_iload hC dX6_sheet_80 rfl ?_
              refine g_ald_n hC dX6_sheet_82 rfl ?_
              refine g_get hC dX6_sheet_83 gf_RX6_34 f15 rfl ?_
              refine g_icmp_ge (tgt := 117) hC dX6_sheet_86 (by decide) (by omega) (by omega) (fun c_86 => ?_) (fun c_86 => False.elim (by omega))
              refine g_ald hC dX6_sheet_117 rfl ?_
              refine g_ald_n hC dX6_sheet_119 rfl ?_
              refine g_get hC dX6_sheet_120 gf_RX6_44 f15 rfl ?_
              refine gV.eqs (st' := [vi (z 0), .ref (ad3 (10, k, 0))]) rfl (by rw [h10]) rfl ?_
              have hPL : ∀ i : Nat, i < n → PLP ad3 (shF z F a b r) i ct3 := fun i hi => (s6 i (by omega)).cg (fun a ha => hk3 _ (notS (Or.inl (by omega)))) (fun a j ha hb _ => hk3 _ (notS (Or.inl (by omega)))) ⟨by rw [hle3 4 (by decide)], by rw [hle3 5 (by decide)], by rw [hle3 6 (by decide)], by rw [hle3 7 (by decide)]⟩ (fun j _ => ⟨by rw [hle3 8 (by decide)], by rw [hle3 9 (by decide)], fun _ => by rw [hle3 10 (by decide)]⟩)
              refine g_callV (rest := []) hC (kX3_placeAnew hl hI2 (by show (n : Int) ≤ z 3; omega) hS3 hPL g4 c3R) gc_RX6_145 rfl (c3R.1 _ _ hS3.1) rfl ⟨by decide, by decide⟩ ⟨by show 7 + n + 0 ≤ 21; omega, by show 1959 + 7 * n + 0 ≤ 2057; omega⟩ (Nat.le_of_ble_eq_true rfl) rfl dX6_sheet_123 (fun r g5 hp => ?_)
              obtain ⟨rfl, ct4, N4, c4R, hfr4, hS4⟩ := hp
              have hk4 : ∀ t : Tg, ¬ tS k t → ct4 t = ct t ∧ ad3 t = ad t := fun t ht => ⟨by rw [hfr4 t ht]; exact (hk3 t ht).1, (hk3 t ht).2⟩
              have f18 : g5 (ad (2, 0, 0)) = some (gO 10 [.ref (ad (2, 1, 0)), .ref (ad (2, 3, 0)), .ref (ad (2, 4, 0)), .ref (ad (2, 5, 0)), vi (z 3), vi (z 11), vi (z 22), vi (z 0)]) := by have h9_ := c4R.1 (2, 0, 0) _ (by rw [(hk4 _ (notS (Or.inl (by decide)))).1]; exact s1); rw [(hk4 _ (notS (Or.inl (by decide)))).2] at h9_; exact h9_
              have f19 : g5 (ad (2, 4, 0)) = some (gR 5 4 (fun k => if (k : Int) < z 11 then some (ad (10, k, 0)) else none)) := by have h9_ := c4R.1 (2, 4, 0) _ (by rw [(hk4 _ (notS (Or.inl (by decide)))).1]; exact s4); rw [(hk4 _ (notS (Or.inl (by decide)))).2] at h9_; exact h9_
              have fsh5 := c4R.1 _ _ hS4.1
              rw [h10] at fsh5
              refine gV.eqs (st' := []) rfl rfl rfl ?_
              refine g_ald_n hC dX6_sheet_126 rfl ?_
              refine g_get hC dX6_sheet_127 gf_RX6_24 f18 rfl ?_
              refine g_ald_n hC dX6_sheet_130 rfl ?_
              refine g_get hC dX6_sheet_131 gf_RX6_38 f18 rfl ?_
              refine g_ald hC dX6_sheet_134 rfl ?_
              refine g_aastK hC (k) dX6_sheet_136 f19 (by decide) rfl fsh5 rfl (by omega) (by omega) (by decide) ?_
              obtain ⟨gh20, egh20⟩ : ∃ g_, g_ = gset g5 (ad (2, 4, 0)) (gR 5 4 (gup (fun k => if (k : Int) < z 11 then some (ad (10, k, 0)) else none) (k) (some q5))) := ⟨_, rfl⟩
              rw [← egh20]
              have h21 : gh20 (ad (2, 0, 0)) = some (gO 10 [.ref (ad (2, 1, 0)), .ref (ad (2, 3, 0)), .ref (ad (2, 4, 0)), .ref (ad (2, 5, 0)), vi (z 3), vi (z 11), vi (z 22), vi (z 0)]) := by rw [egh20, gset_ne (gne f18 f19 (by simp))]; exact f18
              have h22 : gh20 q5 = some (gO 7 [.ref (ad3 (13, k, 0)), .ref (ad3 (15, k, 0)), vi (shF z F a b r 12 k), vi (shF z F a b r 13 k), vi (shF z F a b r 14 k), .ref (ad3 (11, k, 0)), vi ((n : Int)), .ref (ad3 (12, k, 0)), vi (((lsU (shF z F a b r) k (wdA ad3 (shF z F a b r) (z 0)) n 5).length : Int))]) := by rw [egh20, gset_ne (gne fsh5 f19 (by simp))]; exact fsh5
              have h23 : gh20 (ad (2, 4, 0)) = some (gR 5 4 (gup (fun k => if (k : Int) < z 11 then some (ad (10, k, 0)) else none) (k) (some q5))) := by rw [egh20]; exact gset_eq
              refine g_ald_n hC dX6_sheet_137 rfl ?_
              refine g_dup hC dX6_sheet_138 rfl ?_
              refine g_get hC dX6_sheet_139 gf_RX6_38 h21 rfl ?_
              refine g_iconst hC dX6_sheet_142 rfl ?_
              refine g_iadd hC dX6_sheet_143 ?_
              refine g_put hC (fs' := [.ref (ad (2, 1, 0)), .ref (ad (2, 3, 0)), .ref (ad (2, 4, 0)), .ref (ad (2, 5, 0)), vi (z 3), vi ((z 11) + (1)), vi (z 22), vi (z 0)]) dX6_sheet_144 gp_RX6_38 h21 ⟨rfl, rfl⟩ rfl (Nat.le_of_ble_eq_true rfl) ?_
              obtain ⟨gh24, egh24⟩ : ∃ g_, g_ = gset gh20 (ad (2, 0, 0)) (gO 10 [.ref (ad (2, 1, 0)), .ref (ad (2, 3, 0)), .ref (ad (2, 4, 0)), .ref (ad (2, 5, 0)), vi (z 3), vi ((z 11) + (1)), vi (z 22), vi (z 0)]) := ⟨_, rfl⟩
              rw [← egh24]
              have h25 : gh24 q5 = some (gO 7 [.ref (ad3 (13, k, 0)), .ref (ad3 (15, k, 0)), vi (shF z F a b r 12 k), vi (shF z F a b r 13 k), vi (shF z F a b r 14 k), .ref (ad3 (11, k, 0)), vi ((n : Int)), .ref (ad3 (12, k, 0)), vi (((lsU (shF z F a b r) k (wdA ad3 (shF z F a b r) (z 0)) n 5).length : Int))]) := by rw [egh24, gset_ne (gne h22 h21 (by simp))]; exact h22
              have h26 : gh24 (ad (2, 4, 0)) = some (gR 5 4 (gup (fun k => if (k : Int) < z 11 then some (ad (10, k, 0)) else none) (k) (some q5))) := by rw [egh24, gset_ne (gne h23 h21 (by simp))]; exact h23
              have h27 : gh24 (ad (2, 0, 0)) = some (gO 10 [.ref (ad (2, 1, 0)), .ref (ad (2, 3, 0)), .ref (ad (2, 4, 0)), .ref (ad (2, 5, 0)), vi (z 3), vi ((z 11) + (1)), vi (z 22), vi (z 0)]) := by rw [egh24]; exact gset_eq
              refine g_ald_n hC dX6_sheet_147 rfl ?_
              refine g_get hC dX6_sheet_148 gf_RX6_38 h27 rfl ?_
              refine g_iconst hC dX6_sheet_151 rfl ?_
              refine g_isub hC dX6_sheet_152 ?_
              refine g_top (b := z 11) (by omega) ?_
              have c6R := (c4R.put (t := (2, 4, 0)) (by rw [(hk4 _ (notS (Or.inl (by decide)))).1]; exact s4) (gR 5 4 (gup (fun k => if (k : Int) < z 11 then some (ad (10, k, 0)) else none) k (some q5)))).put (t := (2, 0, 0)) (by rw [cup_ne (by simp), (hk4 _ (notS (Or.inl (by decide)))).1]; exact s1) (gO 10 [.ref (ad (2, 1, 0)), .ref (ad (2, 3, 0)), .ref (ad (2, 4, 0)), .ref (ad (2, 5, 0)), vi (z 3), vi (z 11 + 1), vi (z 22), vi (z 0)])
              rw [(hk4 (2, 4, 0) (notS (Or.inl (by decide)))).2, (hk4 (2, 0, 0) (notS (Or.inl (by decide)))).2] at c6R
              have c6R2 : cR ad3 (cup (cup ct4 (2, 4, 0) (gR 5 4 (gup (fun k => if (k : Int) < z 11 then some (ad (10, k, 0)) else none) k (some q5)))) (2, 0, 0) (gO 10 [.ref (ad (2, 1, 0)), .ref (ad (2, 3, 0)), .ref (ad (2, 4, 0)), .ref (ad (2, 5, 0)), vi (z 3), vi (z 11 + 1), vi (z 22), vi (z 0)])) gh24 := by rw [egh24, egh20]; exact c6R
              obtain ⟨ct6, ect6⟩ : ∃ x, x = cup (cup ct4 (2, 4, 0) (gR 5 4 (gup (fun k => if (k : Int) < z 11 then some (ad (10, k, 0)) else none) k (some q5)))) (2, 0, 0) (gO 10 [.ref (ad (2, 1, 0)), .ref (ad (2, 3, 0)), .ref (ad (2, 4, 0)), .ref (ad (2, 5, 0)), vi (z 3), vi (z 11 + 1), vi (z 22), vi (z 0)]) := ⟨_, rfl⟩
              rw [← ect6] at c6R2
              have k6 : ∀ a b c : Nat, a ≠ 2 ∨ (b ≠ 0 ∧ b ≠ 4) → ct6 (a, b, c) = ct4 (a, b, c) := fun a b c h => by rw [ect6, cup_ne (fun e => by have h1 := congrArg (fun t : Tg => t.1) e; have h2 := congrArg (fun t : Tg => t.2.1) e; simp only at h1 h2; omega), cup_ne (fun e => by have h1 := congrArg (fun t : Tg => t.1) e; have h2 := congrArg (fun t : Tg => t.2.1) e; simp only at h1 h2; omega)]
              have b6 : ∀ a b c : Nat, (a < 10 ∨ 17 < a ∨ b ≠ k) → ad3 (a, b, c) = ad (a, b, c) := fun a b c h => (hk4 _ (notS (by omega))).2
              have d6 : ∀ a b c : Nat, a ≠ 2 ∨ (b ≠ 0 ∧ b ≠ 4) → (a < 10 ∨ 17 < a ∨ b ≠ k) → ct6 (a, b, c) = ct (a, b, c) := fun a b c h h2 => by rw [k6 a b c h]; exact (hk4 _ (notS (by omega))).1
              have hST : ST ad3 (gup z 11 (z 11 + 1)) (shF z F a b r) ct6 := by
                refine ⟨?_, ⟨ml, B, ?_, ?_, fun t ht => by rw [hle3 2 (by decide)]; exact b3 t ht⟩, ?_, ?_, ?_, fun i hi => ?_, fun k9 hk9 => ?_, fun e he => ?_⟩
                · rw [ect6, cup_eq]; unfold clO; rw [b6 _ _ _ (Or.inl (by decide)), b6 _ _ _ (Or.inl (by decide)), b6 _ _ _ (Or.inl (by decide)), b6 _ _ _ (Or.inl (by decide))]; rfl
                · rw [d6 _ _ _ (Or.inr ⟨by decide, by decide⟩) (Or.inl (by decide)), b6 _ _ _ (Or.inl (by decide))]; exact b1
                · rw [d6 _ _ _ (Or.inr ⟨by decide, by decide⟩) (Or.inl (by decide))]; exact b2
                · rw [d6 _ _ _ (Or.inr ⟨by decide, by decide⟩) (Or.inl (by decide)), s3]; congr 2; funext i; rw [b6 _ _ _ (Or.inl (by decide))]; rfl
                · rw [ect6, cup_ne (by simp), cup_eq]; congr 2; funext k9; unfold gup
                  by_cases q : k9 = k
                  · rw [if_pos q, q, if_pos (by show (k : Int) < z 11 + 1; omega), h10]
                  · rw [if_neg q]
                    show (if (k9 : Int) < z 11 then some (ad (10, k9, 0)) else none) = (if (k9 : Int) < z 11 + 1 then some (ad3 (10, k9, 0)) else none)
                    by_cases q2 : (k9 : Int) < z 11
                    · rw [if_pos q2, if_pos (by omega), b6 _ _ _ (Or.inr (Or.inr q))]
                    · rw [if_neg q2, if_neg (by omega)]
                · rw [d6 _ _ _ (Or.inr ⟨by decide, by decide⟩) (Or.inl (by decide)), s5]; congr 2; funext e; rw [b6 _ _ _ (Or.inr (Or.inl (by decide)))]; rfl
                · have hi2 : (i : Int) < z 3 := hi
                  exact (hPL i (by omega)).fr (fun a b c ha hb => by rw [k6 _ _ _ (Or.inl (by omega)), hfr4 _ (notS (Or.inl (by omega)))])
                · have hk92 : (k9 : Int) < z 11 + 1 := hk9
                  show SHS ad3 (shF z F a b r) (z 0) (z 3).toNat k9 ct6
                  rw [hn2]
                  by_cases q : k9 = k
                  · rw [q]; exact ⟨_, _, _, hS4.fr (fun t ht => by obtain ⟨ta, tb, tc⟩ := t; have h1 := ht.1; simp only at h1; exact k6 _ _ _ (Or.inl (by omega)))⟩
                  · have h9 := s7 k9 (by omega)
                    rw [hn2] at h9
                    have h8 := h9.agr hI hag (by omega) (by omega) (fun i _ => by rw [hle3 7 (by decide)])
                    obtain ⟨ah9, N9, T9, h7⟩ := h8
                    have hw9 : ∀ i, i < n → wdA ad3 (shF z F a b r) (z 0) i = wdA ad (shF z F a b r) (z 0) i := fun i _ => by unfold wdA; congr 1; funext j; exact b6 _ _ _ (Or.inl (by decide))
                    refine ⟨ah9, N9, T9, ?_⟩
                    rw [lsU_congr (F := shF z F a b r) (F' := shF z F a b r) (wo := wdA ad (shF z F a b r) (z 0)) (wo' := wdA ad3 (shF z F a b r) (z 0)) (fun i hi => ⟨rfl, rfl, by rw [hw9 i hi]⟩)]
                    exact h7.cg (fun t ht => by obtain ⟨ta, tb, tc⟩ := t; have h1 := ht.1; have h2 := ht.2.2; simp only at h1 h2; exact d6 _ _ _ (Or.inl (by omega)) (Or.inr (Or.inr (by omega)))) (fun t ht => by obtain ⟨ta, tb, tc⟩ := t; have h2 := ht.2.2; simp only at h2; exact b6 _ _ _ (Or.inr (Or.inr (by omega)))) (fun i _ => b6 _ _ _ (Or.inl (by decide))) ⟨rfl, rfl, rfl⟩ (fun i hi => ⟨rfl, rfl, rfl, hw9 i hi, rfl, rfl⟩)
                · have he2 : (e : Int) < z 22 := he
                  have hm := hE e he2
                  exact (s8 e he2).cg (fun a b h1 h2 => ⟨d6 _ _ _ (Or.inl (by omega)) (Or.inr (Or.inl (by omega))), b6 _ _ _ (Or.inr (Or.inl (by omega)))⟩) ⟨by rw [shF_ne (k := 24) (by decide)], by rw [shF_ne (k := 23) (by decide)]⟩ (fun s hs => hag.o_recP hI hQ (by omega) (by omega) he2 (by omega) (by omega) hs (by omega) _ (by omega) (by omega))
              refine g_iret hC hq dX6_sheet_153 (by omega) (by omega) ⟨rfl, hab, decide_eq_true (by omega), ad3, ct6, c6R2, hST, ⟨fun t ht => ?_, b6 _ _ _ (Or.inl (by decide))⟩⟩
              obtain ⟨ta, tb, tc⟩ := t
              simp only at ht
              exact ⟨d6 _ _ _ (Or.inl (by omega)) (by omega), b6 _ _ _ (by omega)⟩
          refine gV.widen (k := 7 + 0) (n := 1959 + 7 * 0) (by decide) (by decide) ?_
          refine gV.eqs (lv' := [some (.ref (ad (2, 0, 0))), some (vi (a)), some (vi (b)), some (vi (r)), some (.ref q5), some (vi (((0 : Nat) : Int)))]) (lcons rfl (lcons rfl (lcons rfl (lcons rfl (lcons rfl (lcons (svi (rfl)) rfl)))))) rfl rfl (lp 0 (Nat.zero_le _) g3 ad2 ct2 c2R k2 a10 ⟨_, _, _, hS2⟩)
        · exact g_throw hC hq gt_139_62 dX6_sheet_55 dX6_sheet_58 dX6_sheet_59 dX6_sheet_61 dX6_sheet_64 (by decide) (Nat.le_of_ble_eq_true rfl) (by decide) (by decide) (by decide) (by decide) ⟨rfl, Or.inr ⟨hab, decide_eq_false (by omega), rfl⟩⟩
      · refine g_iload_n hC dX6_sheet_28 rfl ?_
        refine g_iconst hC dX6_sheet_29 rfl ?_
        refine g_icmp_eq (tgt := 43) hC dX6_sheet_30 (by decide) (by omega) (by omega) (fun h4 => ?_) (fun h4 => ?_)
        · have hr : 0 ≤ r ∧ r ≤ 1 := by omega
          have hab : (inB a (-180) 150 && inB b (-60) 41 && inB r (0) 1) = true := by rw [h1, h2, show inB r (0) 1 = true from decide_eq_true hr]; rfl
          have ha := inB_t h1
          have hb := inB_t h2
          have hr01 : r = 0 ∨ r = 1 := by omega
          refine g_ald_n hC dX6_sheet_43 rfl ?_
          refine g_get hC dX6_sheet_44 gf_RX6_38 f1 rfl ?_
          refine g_ald_n hC dX6_sheet_47 rfl ?_
          refine g_get hC dX6_sheet_48 gf_RX6_24 f1 rfl ?_
          refine g_alenR hC dX6_sheet_51 f3 (by decide) ?_
          refine g_top (b := 4) rfl ?_
          refine g_icmp_lt (tgt := 65) hC dX6_sheet_52 (by decide) (by omega) (by omega) (fun h6 => ?_) (fun h6 => ?_)
          · refine g_new hC dX6_sheet_65 gn_RX6_22 (by decide) (by decide) (fun q28 hnq28 => ?_)
            obtain ⟨gh29, egh29⟩ : ∃ g_, g_ = gset gh q28 (gO 7 [.null, .null, vi (0), vi (0), vi (0), .null, vi (0), .null, vi (0)]) := ⟨_, rfl⟩
            rw [← egh29]
            have h30 : gh29 (ad (2, 0, 0)) = some (gO 10 [.ref (ad (2, 1, 0)), .ref (ad (2, 3, 0)), .ref (ad (2, 4, 0)), .ref (ad (2, 5, 0)), vi (z 3), vi (z 11), vi (z 22), vi (z 0)]) := by rw [egh29, gset_ne (fun z => by rw [z, hnq28] at f1; cases f1)]; exact f1
            have h31 : gh29 (ad (2, 3, 0)) = some (gR 4 14 (fun i => if (i : Int) < z 3 then some (ad (3, i, 0)) else none)) := by rw [egh29, gset_ne (fun z => by rw [z, hnq28] at f2; cases f2)]; exact f2
            have h32 : gh29 (ad (2, 4, 0)) = some (gR 5 4 (fun k => if (k : Int) < z 11 then some (ad (10, k, 0)) else none)) := by rw [egh29, gset_ne (fun z => by rw [z, hnq28] at f3; cases f3)]; exact f3
            have h33 : gh29 (ad (2, 5, 0)) = some (gR 6 5 (fun e => if (e : Int) < z 22 then some (ad (20, e, 0)) else none)) := by rw [egh29, gset_ne (fun z => by rw [z, hnq28] at f4; cases f4)]; exact f4
            have h34 : gh29 q28 = some (gO 7 [.null, .null, vi (0), vi (0), vi (0), .null, vi (0), .null, vi (0)]) := by rw [egh29]; exact gset_eq
            refine g_dup hC dX6_sheet_68 rfl ?_
            refine g_iload_n hC dX6_sheet_69 rfl ?_
            refine g_iload_n hC dX6_sheet_70 rfl ?_
            refine g_iload_n hC dX6_sheet_71 rfl ?_
            have c1R := hR.new (t := (10, k, 0)) hnq28 (gO 7 [.null, .null, vi 0, vi 0, vi 0, .null, vi 0, .null, vi 0])
            rw [← egh29] at c1R
            refine g_callI (rest := [.ref q28]) hC (kX3_init hl  gh29 h34) gc_RX6_141 rfl ⟨by decide, by decide⟩ ⟨by decide, by decide⟩ (Nat.le_of_ble_eq_true rfl) rfl dX6_sheet_72 (fun r g3 hp => ?_)
            obtain ⟨rfl, s1_, q1_, s2_, q2_, oa, na, w1, w2, w3, w4, w5, w6, wn, hgh⟩ := hp
            have hk2 : (z 11).toNat = k := by omega
            have hn2 : (z 3).toNat = n := by omega
            have v12 : shF z F a b r 12 k = a := by show gup (F 12) (z 11).toNat a k = a; rw [hk2, gup_eq]
            have v13 : shF z F a b r 13 k = b := by show gup (F 13) (z 11).toNat b k = b; rw [hk2, gup_eq]
            have v14 : shF z F a b r 14 k = r := by show gup (F 14) (z 11).toNat r k = r; rw [hk2, gup_eq]
            obtain ⟨ad2, ct2, c2R, hc2, ha2, hS2⟩ := c1R.sheet (k := k) (F := shF z F a b r) cup_eq w1 w2 w3 w4 w5 w6 wn (gh' := g3) (by rw [aup_eq, v12, v13, v14]; exact hgh) (sd := fun _ => 0) (ah := fun _ => 0) (wo := fun _ => none) (lo := fun _ => 0)
            have a10 : ad2 (10, k, 0) = q28 := by rw [ha2 _ (Or.inr rfl), aup_eq]
            have k2 : ∀ t : Tg, ¬ tS k t → ct2 t = ct t ∧ ad2 t = ad t := fun t ht => by
              have e : t ≠ (10, k, 0) := fun e => ht (by rw [e]; exact ⟨Nat.le_of_ble_eq_true rfl, Nat.le_of_ble_eq_true rfl, rfl⟩)
              exact ⟨by rw [hc2 t ht, cup_ne e], by rw [ha2 t (Or.inl ht), aup_ne e]⟩
            clear hgh c1R w1 w2 w3 w4 w5 w6 wn hc2 ha2
            have hI2 := mI_sheet hI ha hb hr01 h6
            have hag := agr_sheet (z := z) (F := F) (np := n) (ne := (z 22).toNat) (a := a) (b := b) (r := r)
            have hle3 : ∀ j : Nat, j ≤ 11 → shF z F a b r j = F j := fun j hj => shF_ne (by omega)
            refine gV.eqs (st' := [.ref q28]) rfl rfl rfl ?_
            refine g_ast (lv' := [some (.ref (ad (2, 0, 0))), some (vi (a)), some (vi (b)), some (vi (r)), some (.ref q28), none]) hC dX6_sheet_75 (by decide) rfl ?_
            refine g_iconst hC dX6_sheet_77 rfl ?_
            refine g_istore (lv' := [some (.ref (ad (2, 0, 0))), some (vi (a)), some (vi (b)), some (vi (r)), some (.ref q28), some (vi (0))]) hC dX6_sheet_78 (by decide) rfl ?_
            have lp : ∀ m : Nat, m ≤ n → ∀ (g4 : gH) (ad3 : Tg → Nat) (ct3 : Tg → Option gC), cR ad3 ct3 g4 → (∀ t : Tg, ¬ tS k t → ct3 t = ct t ∧ ad3 t = ad t) → ad3 (10, k, 0) = q28 → (∃ sd ah wo, SHP ad3 (shF z F a b r) k m sd ah wo 0 (fun _ => 0) (fun _ => none) (fun _ => 0) (fun _ => 0) ct3) → gV x D base 6 80 [some (.ref (ad (2, 0, 0))), some (vi (a)), some (vi (b)), some (vi (r)), some (.ref q28), some (vi ((m : Int)))] [] g4 (7 + m) (1959 + 7 * m) := by
              refine g_for _ (fun m hm ih => ?_) ?_
              · intro g4 ad3 ct3 c3R hk3 h10 hSx
                obtain ⟨sd, ah, wo, hS3⟩ := hSx
                have f35 : g4 (ad (2, 0, 0)) = some (gO 10 [.ref (ad (2, 1, 0)), .ref (ad (2, 3, 0)), .ref (ad (2, 4, 0)), .ref (ad (2, 5, 0)), vi (z 3), vi (z 11), vi (z 22), vi (z 0)]) := by have h9_ := c3R.1 (2, 0, 0) _ (by rw [(hk3 _ (notS (Or.inl (by decide)))).1]; exact s1); rw [(hk3 _ (notS (Or.inl (by decide)))).2] at h9_; exact h9_
                have f36 : g4 (ad (2, 3, 0)) = some (gR 4 14 (fun i => if (i : Int) < z 3 then some (ad (3, i, 0)) else none)) := by have h9_ := c3R.1 (2, 3, 0) _ (by rw [(hk3 _ (notS (Or.inl (by decide)))).1]; exact s3); rw [(hk3 _ (notS (Or.inl (by decide)))).2] at h9_; exact h9_
                have f37 : g4 (ad (2, 4, 0)) = some (gR 5 4 (fun k => if (k : Int) < z 11 then some (ad (10, k, 0)) else none)) := by have h9_ := c3R.1 (2, 4, 0) _ (by rw [(hk3 _ (notS (Or.inl (by decide)))).1]; exact s4); rw [(hk3 _ (notS (Or.inl (by decide)))).2] at h9_; exact h9_
                have fsh := c3R.1 _ _ hS3.1
                rw [h10] at fsh
                have hp3 := (s6 m (by omega)).1
                have hp3b : ct3 (3, m, 0) = some (gO 6 [vi (shF z F a b r 4 m), vi (shF z F a b r 5 m), vi (shF z F a b r 6 m), .ref (ad (4, m, 0)), vi (F 7 m)]) := by rw [(hk3 _ (notS (Or.inl (by decide)))).1, hp3, hle3 4 (by decide), hle3 5 (by decide), hle3 6 (by decide)]
                have ipn := hI2.2.2.2.2.2.2.1 m (by show (m : Int) < z 3; omega)
                have ism := hI2.2.2.2.2.2.2.2.2.2 k (by show (k : Int) < z 11 + 1; omega)
                refine g_iload hC dX6_sheet_80 rfl ?_
                refine g_ald_n hC dX6_sheet_82 rfl ?_
                refine g_get hC dX6_sheet_83 gf_RX6_34 f35 rfl ?_
                refine g_icmp_ge (tgt := 117) hC dX6_sheet_86 (by decide) (by omega) (by omega) (fun c_86 => False.elim (by omega)) (fun c_86 => ?_)
                refine g_iload hC dX6_sheet_89 rfl ?_
                refine g_ald_n hC dX6_sheet_91 rfl ?_
                refine g_get hC dX6_sheet_92 gf_RX6_18 f35 rfl ?_
                refine g_alenR hC dX6_sheet_95 f36 (by decide) ?_
                refine g_top (b := 14) rfl ?_
                refine g_icmp_ge (tgt := 117) hC dX6_sheet_96 (by decide) (by omega) (by omega) (fun c_96 => False.elim (by omega)) (fun c_96 => ?_)
                refine g_ald hC dX6_sheet_99 rfl ?_
                refine g_ald_n hC dX6_sheet_101 rfl ?_
                refine g_get hC dX6_sheet_102 gf_RX6_18 f35 rfl ?_
                refine g_iload hC dX6_sheet_105 rfl ?_
                refine g_aaldK (v := some (ad (3, m, 0))) hC (m) dX6_sheet_107 f36 (by decide) rfl (by omega) (by omega) (by decide) (if_pos (by omega)) ?_
                refine gV.eqs (st' := [.ref (ad3 (3, m, 0)), .ref (ad3 (10, k, 0))]) rfl (by rw [h10, (hk3 _ (notS (Or.inl (by decide)))).2] <;> rfl) rfl ?_
                refine g_callV (rest := []) hC (kX3_showC hl ⟨ipn.1, ipn.2.1, ipn.2.2.1, ipn.2.2.2.1⟩ ism (by omega) hS3 hp3b g4 c3R) gc_RX6_142 rfl (c3R.1 _ _ hS3.1) rfl ⟨by decide, by decide⟩ ⟨by show 7 + m + 1 ≤ 21; omega, by show 1959 + 7 * m + 7 ≤ 2057; omega⟩ (Nat.le_of_ble_eq_true rfl) rfl dX6_sheet_108 (fun r g5 hp => ?_)
                obtain ⟨rfl, t, ct4, c4R, hfr4, hS4⟩ := hp
                refine gV.eqs (st' := []) rfl rfl rfl ?_
                refine g_iinc (lv' := [some (.ref (ad (2, 0, 0))), some (vi (a)), some (vi (b)), some (vi (r)), some (.ref q28), some (vi ((m : Int) + 1))]) hC dX6_sheet_111 (by decide) rfl rfl ?_
                refine g_goto (tgt := 80) hC dX6_sheet_114 (by decide) ?_
                refine gV.widen (k := 7 + (m + 1)) (n := 1959 + 7 * (m + 1)) (by omega) (by omega) ?_
                refine gV.eqs (lv' := [some (.ref (ad (2, 0, 0))), some (vi (a)), some (vi (b)), some (vi (r)), some (.ref q28), some (vi ((((m + 1) : Nat) : Int)))]) (lcons rfl (lcons rfl (lcons rfl (lcons rfl (lcons rfl (lcons (svi (by omega)) rfl)))))) rfl rfl (ih g5 _ ct4 c4R (fun u hu => ⟨by rw [hfr4 u hu]; exact (hk3 u hu).1, by rw [aup_ne (fun e => hu (by rw [e]; exact ⟨Nat.le_of_ble_eq_true rfl, Nat.le_of_ble_eq_true rfl, rfl⟩))]; exact (hk3 u hu).2⟩) (by rw [aup_ne (by simp)]; exact h10) ⟨_, _, _, hS4⟩)
              · intro g4 ad3 ct3 c3R hk3 h10 hSx
                obtain ⟨sd, ah, wo, hS3⟩ := hSx
                have f38 : g4 (ad (2, 0, 0)) = some (gO 10 [.ref (ad (2, 1, 0)), .ref (ad (2, 3, 0)), .ref (ad (2, 4, 0)), .ref (ad (2, 5, 0)), vi (z 3), vi (z 11), vi (z 22), vi (z 0)]) := by have h9_ := c3R.1 (2, 0, 0) _ (by rw [(hk3 _ (notS (Or.inl (by decide)))).1]; exact s1); rw [(hk3 _ (notS (Or.inl (by decide)))).2] at h9_; exact h9_
                have f39 : g4 (ad (2, 3, 0)) = some (gR 4 14 (fun i => if (i : Int) < z 3 then some (ad (3, i, 0)) else none)) := by have h9_ := c3R.1 (2, 3, 0) _ (by rw [(hk3 _ (notS (Or.inl (by decide)))).1]; exact s3); rw [(hk3 _ (notS (Or.inl (by decide)))).2] at h9_; exact h9_
                have f40 : g4 (ad (2, 4, 0)) = some (gR 5 4 (fun k => if (k : Int) < z 11 then some (ad (10, k, 0)) else none)) := by have h9_ := c3R.1 (2, 4, 0) _ (by rw [(hk3 _ (notS (Or.inl (by decide)))).1]; exact s4); rw [(hk3 _ (notS (Or.inl (by decide)))).2] at h9_; exact h9_
                have fsh := c3R.1 _ _ hS3.1
                rw [h10] at fsh
                refine g_iload hC dX6_sheet_80 rfl ?_
                refine g_ald_n hC dX6_sheet_82 rfl ?_
                refine g_get hC dX6_sheet_83 gf_RX6_34 f38 rfl ?_
                refine g_icmp_ge (tgt := 117) hC dX6_sheet_86 (by decide) (by omega) (by omega) (fun c_86 => ?_) (fun c_86 => False.elim (by omega))
                refine g_ald hC dX6_sheet_117 rfl ?_
                refine g_ald_n hC dX6_sheet_119 rfl ?_
                refine g_get hC dX6_sheet_120 gf_RX6_44 f38 rfl ?_
                refine gV.eqs (st' := [vi (z 0), .ref (ad3 (10, k, 0))]) rfl (by rw [h10]) rfl ?_
                have hPL : ∀ i : Nat, i < n → PLP ad3 (shF z F a b r) i ct3 := fun i hi => (s6 i (by omega)).cg (fun a ha => hk3 _ (notS (Or.inl (by omega)))) (fun a j ha hb _ => hk3 _ (notS (Or.inl (by omega)))) ⟨by rw [hle3 4 (by decide)], by rw [hle3 5 (by decide)], by rw [hle3 6 (by decide)], by rw [hle3 7 (by decide)]⟩ (fun j _ => ⟨by rw [hle3 8 (by decide)], by rw [hle3 9 (by decide)], fun _ => by rw [hle3 10 (by decide)]⟩)
                refine g_callV (rest := []) hC (kX3_placeAnew hl hI2 (by show (n : Int) ≤ z 3; omega) hS3 hPL g4 c3R) gc_RX6_145 rfl (c3R.1 _ _ hS3.1) rfl ⟨by decide, by decide⟩ ⟨by show 7 + n + 0 ≤ 21; omega, by show 1959 + 7 * n + 0 ≤ 2057; omega⟩ (Nat.le_of_ble_eq_true rfl) rfl dX6_sheet_123 (fun r g5 hp => ?_)
                obtain ⟨rfl, ct4, N4, c4R, hfr4, hS4⟩ := hp
                have hk4 : ∀ t : Tg, ¬ tS k t → ct4 t = ct t ∧ ad3 t = ad t := fun t ht => ⟨by rw [hfr4 t ht]; exact (hk3 t ht).1, (hk3 t ht).2⟩
                have f41 : g5 (ad (2, 0, 0)) = some (gO 10 [.ref (ad (2, 1, 0)), .ref (ad (2, 3, 0)), .ref (ad (2, 4, 0)), .ref (ad (2, 5, 0)), vi (z 3), vi (z 11), vi (z 22), vi (z 0)]) := by have h9_ := c4R.1 (2, 0, 0) _ (by rw [(hk4 _ (notS (Or.inl (by decide)))).1]; exact s1); rw [(hk4 _ (notS (Or.inl (by decide)))).2] at h9_; exact h9_
                have f42 : g5 (ad (2, 4, 0)) = some (gR 5 4 (fun k => if (k : Int) < z 11 then some (ad (10, k, 0)) else none)) := by have h9_ := c4R.1 (2, 4, 0) _ (by rw [(hk4 _ (notS (Or.inl (by decide)))).1]; exact s4); rw [(hk4 _ (notS (Or.inl (by decide)))).2] at h9_; exact h9_
                have fsh5 := c4R.1 _ _ hS4.1
                rw [h10] at fsh5
                refine gV.eqs (st' := []) rfl rfl rfl ?_
                refine g_ald_n hC dX6_sheet_126 rfl ?_
                refine g_get hC dX6_sheet_127 gf_RX6_24 f41 rfl ?_
                refine g_ald_n hC dX6_sheet_130 rfl ?_
                refine g_get hC dX6_sheet_131 gf_RX6_38 f41 rfl ?_
                refine g_ald hC dX6_sheet_134 rfl ?_
                refine g_aastK hC (k) dX6_sheet_136 f42 (by decide) rfl fsh5 rfl (by omega) (by omega) (by decide) ?_
                obtain ⟨gh43, egh43⟩ : ∃ g_, g_ = gset g5 (ad (2, 4, 0)) (gR 5 4 (gup (fun k => if (k : Int) < z 11 then some (ad (10, k, 0)) else none) (k) (some q28))) := ⟨_, rfl⟩
                rw [← egh43]
                have h44 : gh43 (ad (2, 0, 0)) = some (gO 10 [.ref (ad (2, 1, 0)), .ref (ad (2, 3, 0)), .ref (ad (2, 4, 0)), .ref (ad (2, 5, 0)), vi (z 3), vi (z 11), vi (z 22), vi (z 0)]) := by rw [egh43, gset_ne (gne f41 f42 (by simp))]; exact f41
                have h45 : gh43 q28 = some (gO 7 [.ref (ad3 (13, k, 0)), .ref (ad3 (15, k, 0)), vi (shF z F a b r 12 k), vi (shF z F a b r 13 k), vi (shF z F a b r 14 k), .ref (ad3 (11, k, 0)), vi ((n : Int)), .ref (ad3 (12, k, 0)), vi (((lsU (shF z F a b r) k (wdA ad3 (shF z F a b r) (z 0)) n 5).length : Int))]) := by rw [egh43, gset_ne (gne fsh5 f42 (by simp))]; exact fsh5
                have h46 : gh43 (ad (2, 4, 0)) = some (gR 5 4 (gup (fun k => if (k : Int) < z 11 then some (ad (10, k, 0)) else none) (k) (some q28))) := by rw [egh43]; exact gset_eq
                refine g_ald_n hC dX6_sheet_137 rfl ?_
                refine g_dup hC dX6_sheet_138 rfl ?_
                refine g_get hC dX6_sheet_139 gf_RX6_38 h44 rfl ?_
                refine g_iconst hC dX6_sheet_142 rfl ?_
                refine g_iadd hC dX6_sheet_143 ?_
                refine g_put hC (fs' := [.ref (ad (2, 1, 0)), .ref (ad (2, 3, 0)), .ref (ad (2, 4, 0)), .ref (ad (2, 5, 0)), vi (z 3), vi ((z 11) + (1)), vi (z 22), vi (z 0)]) dX6_sheet_144 gp_RX6_38 h44 ⟨rfl, rfl⟩ rfl (Nat.le_of_ble_eq_true rfl) ?_
                obtain ⟨gh47, egh47⟩ : ∃ g_, g_ = gset gh43 (ad (2, 0, 0)) (gO 10 [.ref (ad (2, 1, 0)), .ref (ad (2, 3, 0)), .ref (ad (2, 4, 0)), .ref (ad (2, 5, 0)), vi (z 3), vi ((z 11) + (1)), vi (z 22), vi (z 0)]) := ⟨_, rfl⟩
                rw [← egh47]
                have h48 : gh47 q28 = some (gO 7 [.ref (ad3 (13, k, 0)), .ref (ad3 (15, k, 0)), vi (shF z F a b r 12 k), vi (shF z F a b r 13 k), vi (shF z F a b r 14 k), .ref (ad3 (11, k, 0)), vi ((n : Int)), .ref (ad3 (12, k, 0)), vi (((lsU (shF z F a b r) k (wdA ad3 (shF z F a b r) (z 0)) n 5).length : Int))]) := by rw [egh47, gset_ne (gne h45 h44 (by simp))]; exact h45
                have h49 : gh47 (ad (2, 4, 0)) = some (gR 5 4 (gup (fun k => if (k : Int) < z 11 then some (ad (10, k, 0)) else none) (k) (some q28))) := by rw [egh47, gset_ne (gne h46 h44 (by simp))]; exact h46
                have h50 : gh47 (ad (2, 0, 0)) = some (gO 10 [.ref (ad (2, 1, 0)), .ref (ad (2, 3, 0)), .ref (ad (2, 4, 0)), .ref (ad (2, 5, 0)), vi (z 3), vi ((z 11) + (1)), vi (z 22), vi (z 0)]) := by rw [egh47]; exact gset_eq
                refine g_ald_n hC dX6_sheet_147 rfl ?_
                refine g_get hC dX6_sheet_148 gf_RX6_38 h50 rfl ?_
                refine g_iconst hC dX6_sheet_151 rfl ?_
                refine g_isub hC dX6_sheet_152 ?_
                refine g_top (b := z 11) (by omega) ?_
                have c6R := (c4R.put (t := (2, 4, 0)) (by rw [(hk4 _ (notS (Or.inl (by decide)))).1]; exact s4) (gR 5 4 (gup (fun k => if (k : Int) < z 11 then some (ad (10, k, 0)) else none) k (some q28)))).put (t := (2, 0, 0)) (by rw [cup_ne (by simp), (hk4 _ (notS (Or.inl (by decide)))).1]; exact s1) (gO 10 [.ref (ad (2, 1, 0)), .ref (ad (2, 3, 0)), .ref (ad (2, 4, 0)), .ref (ad (2, 5, 0)), vi (z 3), vi (z 11 + 1), vi (z 22), vi (z 0)])
                rw [(hk4 (2, 4, 0) (notS (Or.inl (by decide)))).2, (hk4 (2, 0, 0) (notS (Or.inl (by decide)))).2] at c6R
                have c6R2 : cR ad3 (cup (cup ct4 (2, 4, 0) (gR 5 4 (gup (fun k => if (k : Int) < z 11 then some (ad (10, k, 0)) else none) k (some q28)))) (2, 0, 0) (gO 10 [.ref (ad (2, 1, 0)), .ref (ad (2, 3, 0)), .ref (ad (2, 4, 0)), .ref (ad (2, 5, 0)), vi (z 3), vi (z 11 + 1), vi (z 22), vi (z 0)])) gh47 := by rw [egh47, egh43]; exact c6R
                obtain ⟨ct6, ect6⟩ : ∃ x, x = cup (cup ct4 (2, 4, 0) (gR 5 4 (gup (fun k => if (k : Int) < z 11 then some (ad (10, k, 0)) else none) k (some q28)))) (2, 0, 0) (gO 10 [.ref (ad (2, 1, 0)), .ref (ad (2, 3, 0)), .ref (ad (2, 4, 0)), .ref (ad (2, 5, 0)), vi (z 3), vi (z 11 + 1), vi (z 22), vi (z 0)]) := ⟨_, rfl⟩
                rw [← ect6] at c6R2
                have k6 : ∀ a b c : Nat, a ≠ 2 ∨ (b ≠ 0 ∧ b ≠ 4) → ct6 (a, b, c) = ct4 (a, b, c) := fun a b c h => by rw [ect6, cup_ne (fun e => by have h1 := congrArg (fun t : Tg => t.1) e; have h2 := congrArg (fun t : Tg => t.2.1) e; simp only at h1 h2; omega), cup_ne (fun e => by have h1 := congrArg (fun t : Tg => t.1) e; have h2 := congrArg (fun t : Tg => t.2.1) e; simp only at h1 h2; omega)]
                have b6 : ∀ a b c : Nat, (a < 10 ∨ 17 < a ∨ b ≠ k) → ad3 (a, b, c) = ad (a, b, c) := fun a b c h => (hk4 _ (notS (by omega))).2
                have d6 : ∀ a b c : Nat, a ≠ 2 ∨ (b ≠ 0 ∧ b ≠ 4) → (a < 10 ∨ 17 < a ∨ b ≠ k) → ct6 (a, b, c) = ct (a, b, c) := fun a b c h h2 => by rw [k6 a b c h]; exact (hk4 _ (notS (by omega))).1
                have hST : ST ad3 (gup z 11 (z 11 + 1)) (shF z F a b r) ct6 := by
                  refine ⟨?_, ⟨ml, B, ?_, ?_, fun t ht => by rw [hle3 2 (by decide)]; exact b3 t ht⟩, ?_, ?_, ?_, fun i hi => ?_, fun k9 hk9 => ?_, fun e he => ?_⟩
                  · rw [ect6, cup_eq]; unfold clO; rw [b6 _ _ _ (Or.inl (by decide)), b6 _ _ _ (Or.inl (by decide)), b6 _ _ _ (Or.inl (by decide)), b6 _ _ _ (Or.inl (by decide))]; rfl
                  · rw [d6 _ _ _ (Or.inr ⟨by decide, by decide⟩) (Or.inl (by decide)), b6 _ _ _ (Or.inl (by decide))]; exact b1
                  · rw [d6 _ _ _ (Or.inr ⟨by decide, by decide⟩) (Or.inl (by decide))]; exact b2
                  · rw [d6 _ _ _ (Or.inr ⟨by decide, by decide⟩) (Or.inl (by decide)), s3]; congr 2; funext i; rw [b6 _ _ _ (Or.inl (by decide))]; rfl
                  · rw [ect6, cup_ne (by simp), cup_eq]; congr 2; funext k9; unfold gup
                    by_cases q : k9 = k
                    · rw [if_pos q, q, if_pos (by show (k : Int) < z 11 + 1; omega), h10]
                    · rw [if_neg q]
                      show (if (k9 : Int) < z 11 then some (ad (10, k9, 0)) else none) = (if (k9 : Int) < z 11 + 1 then some (ad3 (10, k9, 0)) else none)
                      by_cases q2 : (k9 : Int) < z 11
                      · rw [if_pos q2, if_pos (by omega), b6 _ _ _ (Or.inr (Or.inr q))]
                      · rw [if_neg q2, if_neg (by omega)]
                  · rw [d6 _ _ _ (Or.inr ⟨by decide, by decide⟩) (Or.inl (by decide)), s5]; congr 2; funext e; rw [b6 _ _ _ (Or.inr (Or.inl (by decide)))]; rfl
                  · have hi2 : (i : Int) < z 3 := hi
                    exact (hPL i (by omega)).fr (fun a b c ha hb => by rw [k6 _ _ _ (Or.inl (by omega)), hfr4 _ (notS (Or.inl (by omega)))])
                  · have hk92 : (k9 : Int) < z 11 + 1 := hk9
                    show SHS ad3 (shF z F a b r) (z 0) (z 3).toNat k9 ct6
                    rw [hn2]
                    by_cases q : k9 = k
                    · rw [q]; exact ⟨_, _, _, hS4.fr (fun t ht => by obtain ⟨ta, tb, tc⟩ := t; have h1 := ht.1; simp only at h1; exact k6 _ _ _ (Or.inl (by omega)))⟩
                    · have h9 := s7 k9 (by omega)
                      rw [hn2] at h9
                      have h8 := h9.agr hI hag (by omega) (by omega) (fun i _ => by rw [hle3 7 (by decide)])
                      obtain ⟨ah9, N9, T9, h7⟩ := h8
                      have hw9 : ∀ i, i < n → wdA ad3 (shF z F a b r) (z 0) i = wdA ad (shF z F a b r) (z 0) i := fun i _ => by unfold wdA; congr 1; funext j; exact b6 _ _ _ (Or.inl (by decide))
                      refine ⟨ah9, N9, T9, ?_⟩
                      rw [lsU_congr (F := shF z F a b r) (F' := shF z F a b r) (wo := wdA ad (shF z F a b r) (z 0)) (wo' := wdA ad3 (shF z F a b r) (z 0)) (fun i hi => ⟨rfl, rfl, by rw [hw9 i hi]⟩)]
                      exact h7.cg (fun t ht => by obtain ⟨ta, tb, tc⟩ := t; have h1 := ht.1; have h2 := ht.2.2; simp only at h1 h2; exact d6 _ _ _ (Or.inl (by omega)) (Or.inr (Or.inr (by omega)))) (fun t ht => by obtain ⟨ta, tb, tc⟩ := t; have h2 := ht.2.2; simp only at h2; exact b6 _ _ _ (Or.inr (Or.inr (by omega)))) (fun i _ => b6 _ _ _ (Or.inl (by decide))) ⟨rfl, rfl, rfl⟩ (fun i hi => ⟨rfl, rfl, rfl, hw9 i hi, rfl, rfl⟩)
                  · have he2 : (e : Int) < z 22 := he
                    have hm := hE e he2
                    exact (s8 e he2).cg (fun a b h1 h2 => ⟨d6 _ _ _ (Or.inl (by omega)) (Or.inr (Or.inl (by omega))), b6 _ _ _ (Or.inr (Or.inl (by omega)))⟩) ⟨by rw [shF_ne (k := 24) (by decide)], by rw [shF_ne (k := 23) (by decide)]⟩ (fun s hs => hag.o_recP hI hQ (by omega) (by omega) he2 (by omega) (by omega) hs (by omega) _ (by omega) (by omega))
                refine g_iret hC hq dX6_sheet_153 (by omega) (by omega) ⟨rfl, hab, decide_eq_true (by omega), ad3, ct6, c6R2, hST, ⟨fun t ht => ?_, b6 _ _ _ (Or.inl (by decide))⟩⟩
                obtain ⟨ta, tb, tc⟩ := t
                simp only at ht
                exact ⟨d6 _ _ _ (Or.inl (by omega)) (by omega), b6 _ _ _ (by omega)⟩
            refine gV.widen (k := 7 + 0) (n := 1959 + 7 * 0) (by decide) (by decide) ?_
            refine gV.eqs (lv' := [some (.ref (ad (2, 0, 0))), some (vi (a)), some (vi (b)), some (vi (r)), some (.ref q28), some (vi (((0 : Nat) : Int)))]) (lcons rfl (lcons rfl (lcons rfl (lcons rfl (lcons rfl (lcons (svi (rfl)) rfl)))))) rfl rfl (lp 0 (Nat.zero_le _) g3 ad2 ct2 c2R k2 a10 ⟨_, _, _, hS2⟩)
          · exact g_throw hC hq gt_139_62 dX6_sheet_55 dX6_sheet_58 dX6_sheet_59 dX6_sheet_61 dX6_sheet_64 (by decide) (Nat.le_of_ble_eq_true rfl) (by decide) (by decide) (by decide) (by decide) ⟨rfl, Or.inr ⟨hab, decide_eq_false (by omega), rfl⟩⟩
        · have h5 : inB r (0) 1 = false := decide_eq_false (by omega)
          exact g_throw hC hq gt_137_51 dX6_sheet_33 dX6_sheet_36 dX6_sheet_37 dX6_sheet_39 dX6_sheet_42 (by decide) (Nat.le_of_ble_eq_true rfl) (by decide) (by decide) (by decide) (by decide) ⟨rfl, Or.inl ⟨by simp [h1, h2, h5], rfl⟩⟩

end C25
