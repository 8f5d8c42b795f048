/-! p16: the law types letters -/
section Q6
set_option maxHeartbeats 4000000 in
set_option maxRecDepth 100000 in
theorem kL_types {l : Launch} (hl : l.stackTraces = false) {D : gD} {base : Nat} {oa ga pa qa ea : Nat} {ad : Tg → Nat} {z : Nat → Int} {F : Nat → Nat → Int} {ct : Tg → Option gC} {G P Q E : Nat → Int} (hLI : LI ad z F ct G P Q E) (hA : lA ad oa ga pa qa ea) (a c : Int) (ra : -2147483648 ≤ a ∧ a < 2147483648) (rc : -2147483648 ≤ c ∧ c < 2147483648) (gh : gH) (hR : cR ad ct gh) : gM l D base yL_types cL_types 7 (some Jvm.ClassFile.FieldType.boolean) 8 125 4 24 [.ref oa, .ref ga, vi (a), vi (c)] gh (fun r gh' => r = some (vi 1) ∧ LO oa ga pa qa ea z (z 0) (G 5) gh') gNo := by
  refine gM.of hl (by decide) (by simp [Value.category]) (Nat.le_of_ble_eq_true rfl) [some (.ref oa), some (.ref ga), some (vi (a)), some (vi (c)), none, none, none] rfl (fun x hC hq => ?_)
  obtain ⟨hCI, ⟨c30, c31, c32, c33⟩, ⟨g0, g1, g2, g3, g4, g5⟩, lP, lQ, lE⟩ := id hLI
  obtain ⟨hS, hI, hE, hQ, h10⟩ := id hCI
  obtain ⟨i0, i1, i3, i11, i22, iw, ip, inn, inm, ish⟩ := id hI
  have f1 : gh ga = some (gI 1 6 (G)) := by have h9_ := hR.1 (30, 0, 0) _ c30; rw [hA.2.1] at h9_; exact h9_
  have f2 : gh pa = some (gI 1 50 (P)) := by have h9_ := hR.1 (31, 0, 0) _ c31; rw [hA.2.2.1] at h9_; exact h9_
  have f3 : gh qa = some (gI 1 12 (Q)) := by have h9_ := hR.1 (32, 0, 0) _ c32; rw [hA.2.2.2.1] at h9_; exact h9_
  have f4 : gh ea = some (gI 1 20 (E)) := by have h9_ := hR.1 (33, 0, 0) _ c33; rw [hA.2.2.2.2] at h9_; exact h9_
  refine g_iconst hC dL_types_0 rfl ?_
  refine g_istore (lv' := [some (.ref oa), some (.ref ga), some (vi (a)), some (vi (c)), some (vi (1)), none, none]) hC dL_types_1 (by decide) rfl ?_
  refine g_iconst hC dL_types_3 rfl ?_
  refine g_iload_n hC dL_types_4 rfl ?_
  refine g_iconst hC dL_types_5 rfl ?_
  refine g_callS (rest := [vi (1)]) hC (kL_low hl a 4 ra (by omega) gh ) gc_RL_90 rfl ⟨by decide, by decide⟩ ⟨by decide, by decide⟩ (Nat.le_of_ble_eq_true rfl) rfl dL_types_6 (fun r g_ hp => ?_)
  obtain ⟨rfl, hgh⟩ := hp
  rw [hgh]
  clear hgh
  obtain ⟨w5, ew5⟩ : ∃ y_ : Int, y_ = a % 2147483648 % 4 := ⟨_, rfl⟩
  have rw5 : 0 ≤ w5 ∧ w5 < 4 := by rw [ew5]; exact ⟨Int.emod_nonneg _ (by omega), Int.emod_lt_of_pos _ (by omega)⟩
  rw [← ew5]
  refine gV.eqs (st' := [vi (w5), vi (1)]) rfl rfl rfl ?_
  refine g_iadd hC dL_types_9 ?_
  refine g_istore (lv' := [some (.ref oa), some (.ref ga), some (vi (a)), some (vi (c)), some (vi (1)), some (vi ((1) + (w5))), none]) hC dL_types_10 (by decide) rfl ?_
  refine g_iconst hC dL_types_12 rfl ?_
  refine g_istore (lv' := [some (.ref oa), some (.ref ga), some (vi (a)), some (vi (c)), some (vi (1)), some (vi ((1) + (w5))), some (vi (0))]) hC dL_types_13 (by decide) rfl ?_
  obtain ⟨m, hm⟩ : ∃ m : Nat, 1 + w5 = (m : Int) := ⟨(1 + w5).toNat, by omega⟩
  have hm4 : m ≤ 4 := by omega
  have lp : ∀ n : Nat, n ≤ m → ∀ gh1 : gH, LO oa ga pa qa ea z (z 0) (G 5) gh1 → gV x D base 7 15 [some (.ref oa), some (.ref ga), some (vi (a)), some (vi (c)), some (vi (1)), some (vi ((m : Int))), some (vi ((n : Int)))] [] gh1 (1 * n) (6 * n) := by
    refine g_for _ (fun n hn ih => ?_) ?_
    · intro gh1 hLO
      obtain ⟨ad1, ct1, z1, F1, G1, P1, Q1, E1, hR1, hLI1, hA1, k31, k111, k01, k51⟩ := hLO
      obtain ⟨hCI1, ⟨c301, c311, c321, c331⟩, ⟨g01, g11, g21, g31, g41, g51⟩, lP1, lQ1, lE1⟩ := id hLI1
      obtain ⟨hS1, hI1, hE1, hQ1, h101⟩ := id hCI1
      obtain ⟨i01, i11, i31, i111, i221, iw1, ip1, inn1, inm1, ish1⟩ := id hI1
      have f6 : gh1 ga = some (gI 1 6 (G1)) := by have h9_ := hR1.1 (30, 0, 0) _ c301; rw [hA1.2.1] at h9_; exact h9_
      have f7 : gh1 pa = some (gI 1 50 (P1)) := by have h9_ := hR1.1 (31, 0, 0) _ c311; rw [hA1.2.2.1] at h9_; exact h9_
      have f8 : gh1 qa = some (gI 1 12 (Q1)) := by have h9_ := hR1.1 (32, 0, 0) _ c321; rw [hA1.2.2.2.1] at h9_; exact h9_
      have f9 : gh1 ea = some (gI 1 20 (E1)) := by have h9_ := hR1.1 (33, 0, 0) _ c331; rw [hA1.2.2.2.2] at h9_; exact h9_
      refine g_iload hC dL_types_15 rfl ?_
      refine g_iload hC dL_types_17 rfl ?_
      refine g_icmp_ge (tgt := 99) hC dL_types_19 (by decide) (by omega) (by omega) (fun c_19 => False.elim (by omega)) (fun c_19 => ?_)
      refine g_iload hC dL_types_22 rfl ?_
      refine g_if_eq (tgt := 71) hC dL_types_24 (by decide) (by omega) (fun c_24 => False.elim (by revert c_24; decide)) (fun c_24 => ?_)
      refine g_ald_n hC dL_types_27 rfl ?_
      refine g_bipush (z := 97) hC dL_types_28 rfl ?_
      refine g_iload_n hC dL_types_30 rfl ?_
      refine g_iconst hC dL_types_31 rfl ?_
      refine g_iload hC dL_types_32 rfl ?_
      refine g_imul hC dL_types_34 ?_
      refine g_ishrT hC dL_types_35 ?_
      have rv10 := iI_rng (iI (c) >>> (iI ((4) * ((n : Int))) &&& 31))
      obtain ⟨v10, ev10⟩ : ∃ y_ : Int, y_ = (iI (c) >>> (iI ((4) * ((n : Int))) &&& 31)).toInt := ⟨_, rfl⟩
      rw [← ev10] at rv10 ⊢
      refine g_bipush (z := 26) hC dL_types_36 rfl ?_
      refine g_callS (rest := [vi (97), .ref oa]) hC (kL_low hl v10 26 rv10 (by omega) gh1 ) gc_RL_90 rfl ⟨by decide, by decide⟩ ⟨by show 1 * n + 0 ≤ 4; omega, by show 6 * n + 0 ≤ 24; omega⟩ (Nat.le_of_ble_eq_true rfl) rfl dL_types_38 (fun r g_ hp => ?_)
      obtain ⟨rfl, hgh⟩ := hp
      rw [hgh]
      clear hgh
      obtain ⟨w11, ew11⟩ : ∃ y_ : Int, y_ = v10 % 2147483648 % 26 := ⟨_, rfl⟩
      have rw11 : 0 ≤ w11 ∧ w11 < 26 := by rw [ew11]; exact ⟨Int.emod_nonneg _ (by omega), Int.emod_lt_of_pos _ (by omega)⟩
      rw [← ew11]
      refine gV.eqs (st' := [vi (w11), vi (97), .ref oa]) rfl rfl rfl ?_
      refine g_iadd hC dL_types_41 ?_
      refine g_i2c (b := (97) + (w11)) hC dL_types_42 (iI_i2c (by omega) (by omega)) ?_
      refine g_callSW (rest := []) hC (kL_letter hl hCI1 hA1.1 ((97) + (w11)) (by omega) gh1 hR1) gcw_93 rfl ⟨by decide, by decide⟩ ⟨by show 1 * n + 0 + 1 ≤ 4; omega, by show 6 * n + 0 + 6 ≤ 24; omega⟩ (Nat.le_of_ble_eq_true rfl) rfl dL_types_43 (fun r g2_ hp => ?_)
      rcases hp with ⟨h8, rfl, hx⟩ | ⟨h8, rfl, hgh⟩
      · refine gV.eqs (st' := [vi (z1 1 + 1)]) rfl rfl rfl ?_
        obtain ⟨ad12, ct13, hR14, hS15, hx16⟩ := hx
        have hA17 := hA1.x hx16
        have hCI18 : CI ad12 (gup z1 1 (z1 1 + 1)) (gup F1 2 (gup (F1 2) (z1 1).toNat ((97) + (w11)))) ct13 := ⟨hS15, ci_letter hI1 hE1 hQ1 h101 (by omega) h8⟩
        have c19 := (hx16.1 (30, 0, 0) (Or.inr (by decide))).1.trans c301
        have c20 := (hx16.1 (31, 0, 0) (Or.inr (by decide))).1.trans c311
        have c21 := (hx16.1 (32, 0, 0) (Or.inr (by decide))).1.trans c321
        have c22 := (hx16.1 (33, 0, 0) (Or.inr (by decide))).1.trans c331
        have f23 : g2_ ga = some (gI 1 6 (G1)) := by have h9_ := hR14.1 (30, 0, 0) _ c19; rw [hA17.2.1] at h9_; exact h9_
        have f24 : g2_ pa = some (gI 1 50 (P1)) := by have h9_ := hR14.1 (31, 0, 0) _ c20; rw [hA17.2.2.1] at h9_; exact h9_
        have f25 : g2_ qa = some (gI 1 12 (Q1)) := by have h9_ := hR14.1 (32, 0, 0) _ c21; rw [hA17.2.2.2.1] at h9_; exact h9_
        have f26 : g2_ ea = some (gI 1 20 (E1)) := by have h9_ := hR14.1 (33, 0, 0) _ c22; rw [hA17.2.2.2.2] at h9_; exact h9_
        refine g_ald_n hC dL_types_46 rfl ?_
        refine g_iconst hC dL_types_47 rfl ?_
        refine g_ialdK hC (4) dL_types_48 f23 (by omega) (by omega) (by omega) ?_
        refine g_top (b := z1 1) (g41) ?_
        refine g_bipush (z := 8) hC dL_types_49 rfl ?_
        refine g_icmp_ne (tgt := 59) hC dL_types_51 (by decide) (by omega) (by omega) (fun c_51 => ?_) (fun c_51 => False.elim (by omega))
        refine g_ald_n hC dL_types_59 rfl ?_
        refine g_iconst hC dL_types_60 rfl ?_
        refine g_ialdK hC (4) dL_types_61 f23 (by omega) (by omega) (by omega) ?_
        refine g_top (b := z1 1) (g41) ?_
        refine g_iconst hC dL_types_62 rfl ?_
        refine g_iadd hC dL_types_63 ?_
        refine g_icmp_ne (tgt := 71) hC dL_types_64 (by decide) (by omega) (by omega) (fun c_64 => False.elim (by omega)) (fun c_64 => ?_)
        refine g_iconst hC dL_types_67 rfl ?_
        refine g_goto (tgt := 72) hC dL_types_68 (by decide) ?_
        refine g_istore (lv' := [some (.ref oa), some (.ref ga), some (vi (a)), some (vi (c)), some (vi (1)), some (vi ((m : Int))), some (vi ((n : Int)))]) hC dL_types_72 (by decide) rfl ?_
        refine g_ald_n hC dL_types_74 rfl ?_
        refine g_iconst hC dL_types_75 rfl ?_
        refine g_dup2 hC dL_types_76 rfl rfl ?_
        refine g_ialdK hC (4) dL_types_77 f23 (by omega) (by omega) (by omega) ?_
        refine g_top (b := z1 1) (g41) ?_
        refine g_ald_n hC dL_types_78 rfl ?_
        refine g_iconst hC dL_types_79 rfl ?_
        refine g_ialdK hC (4) dL_types_80 f23 (by omega) (by omega) (by omega) ?_
        refine g_top (b := z1 1) (g41) ?_
        refine g_bipush (z := 8) hC dL_types_81 rfl ?_
        refine g_icmp_ge (tgt := 90) hC dL_types_83 (by decide) (by omega) (by omega) (fun c_83 => False.elim (by omega)) (fun c_83 => ?_)
        refine g_iconst hC dL_types_86 rfl ?_
        refine g_goto (tgt := 91) hC dL_types_87 (by decide) ?_
        refine g_iadd hC dL_types_91 ?_
        refine g_iastK hC (4) dL_types_92 f23 (by omega) (by omega) (by omega) ?_
        obtain ⟨G27, eG27⟩ : ∃ y_, y_ = gup (G1) (4) ((z1 1) + (1)) := ⟨_, rfl⟩
        rw [← eG27]
        obtain ⟨gh28, egh28⟩ : ∃ g_, g_ = gset g2_ ga (gI 1 6 G27) := ⟨_, rfl⟩
        rw [← egh28]
        have hR29 := hR14.put c19 (gI 1 6 G27)
        rw [hA17.2.1, ← egh28] at hR29
        have hCI30 := hCI18.put (30, 0, 0) (by decide) (gI 1 6 G27)
        obtain ⟨ct31, ect31⟩ : ∃ y_, y_ = cup ct13 (30, 0, 0) (gI 1 6 G27) := ⟨_, rfl⟩
        rw [← ect31] at hR29 hCI30
        have c32 : ct31 (30, 0, 0) = some (gI 1 6 G27) := by rw [ect31]; exact cup_eq
        have c33 : ct31 (31, 0, 0) = some (gI 1 50 P1) := by rw [ect31, cup_ne (by simp)]; exact c20
        have c34 : ct31 (32, 0, 0) = some (gI 1 12 Q1) := by rw [ect31, cup_ne (by simp)]; exact c21
        have c35 : ct31 (33, 0, 0) = some (gI 1 20 E1) := by rw [ect31, cup_ne (by simp)]; exact c22
        have n36 : G27 (0) = z1 3 := by rw [eG27]; exact (gup_ne (by omega)).trans (g01)
        have n37 : G27 (1) = z1 11 := by rw [eG27]; exact (gup_ne (by omega)).trans (g11)
        have n38 : G27 (2) = z1 22 := by rw [eG27]; exact (gup_ne (by omega)).trans (g21)
        have n39 : G27 (3) = z1 0 := by rw [eG27]; exact (gup_ne (by omega)).trans (g31)
        have n40 : G27 (5) = G1 5 := by rw [eG27]; exact (gup_ne (by omega)).trans (rfl)
        have n41 : G27 (4) = (z1 1) + (1) := by rw [eG27]; exact gup_eq
        have f42 : gh28 ga = some (gI 1 6 (G27)) := by have h9_ := hR29.1 (30, 0, 0) _ c32; rw [hA17.2.1] at h9_; exact h9_
        have f43 : gh28 pa = some (gI 1 50 (P1)) := by have h9_ := hR29.1 (31, 0, 0) _ c33; rw [hA17.2.2.1] at h9_; exact h9_
        have f44 : gh28 qa = some (gI 1 12 (Q1)) := by have h9_ := hR29.1 (32, 0, 0) _ c34; rw [hA17.2.2.2.1] at h9_; exact h9_
        have f45 : gh28 ea = some (gI 1 20 (E1)) := by have h9_ := hR29.1 (33, 0, 0) _ c35; rw [hA17.2.2.2.2] at h9_; exact h9_
        refine g_iinc (lv' := [some (.ref oa), some (.ref ga), some (vi (a)), some (vi (c)), some (vi (1)), some (vi ((m : Int))), some (vi ((n : Int) + 1))]) hC dL_types_93 (by decide) rfl rfl ?_
        refine g_goto (tgt := 15) hC dL_types_96 (by decide) ?_
        refine gV.widen (k := 1 * (n + 1)) (n := 6 * (n + 1)) (by omega) (by omega) ?_
        exact gV.eqs (lv' := [some (.ref oa), some (.ref ga), some (vi (a)), some (vi (c)), some (vi (1)), some (vi ((m : Int))), some (vi (((n + 1 : Nat) : Int)))]) (lcons rfl (lcons rfl (lcons rfl (lcons rfl (lcons rfl (lcons rfl (lcons (svi (by omega)) rfl))))))) rfl rfl (ih _ ⟨ad12, ct31, _, _, G27, P1, Q1, E1, hR29, ⟨hCI30, ⟨c32, c33, c34, c35⟩, by rw [eG27]; exact lw_letter hI1 hE1 hQ1 hLI1.2.2⟩, hA17, k31, k111, k01, by rw [n40]; exact k51⟩)
      · rw [hgh]
        refine gV.eqs (st' := [vi ((-1000003))]) rfl rfl rfl ?_
        refine g_ald_n hC dL_types_46 rfl ?_
        refine g_iconst hC dL_types_47 rfl ?_
        refine g_ialdK hC (4) dL_types_48 f6 (by omega) (by omega) (by omega) ?_
        refine g_top (b := z1 1) (g41) ?_
        refine g_bipush (z := 8) hC dL_types_49 rfl ?_
        refine g_icmp_ne (tgt := 59) hC dL_types_51 (by decide) (by omega) (by omega) (fun c_51 => False.elim (by omega)) (fun c_51 => ?_)
        refine g_ldcI (z := (-1000003)) hC dL_types_54 gk_RL_21 (by decide +kernel) ?_
        refine g_goto (tgt := 64) hC dL_types_56 (by decide) ?_
        refine g_icmp_ne (tgt := 71) hC dL_types_64 (by decide) (by omega) (by omega) (fun c_64 => False.elim (by omega)) (fun c_64 => ?_)
        refine g_iconst hC dL_types_67 rfl ?_
        refine g_goto (tgt := 72) hC dL_types_68 (by decide) ?_
        refine g_istore (lv' := [some (.ref oa), some (.ref ga), some (vi (a)), some (vi (c)), some (vi (1)), some (vi ((m : Int))), some (vi ((n : Int)))]) hC dL_types_72 (by decide) rfl ?_
        refine g_ald_n hC dL_types_74 rfl ?_
        refine g_iconst hC dL_types_75 rfl ?_
        refine g_dup2 hC dL_types_76 rfl rfl ?_
        refine g_ialdK hC (4) dL_types_77 f6 (by omega) (by omega) (by omega) ?_
        refine g_top (b := z1 1) (g41) ?_
        refine g_ald_n hC dL_types_78 rfl ?_
        refine g_iconst hC dL_types_79 rfl ?_
        refine g_ialdK hC (4) dL_types_80 f6 (by omega) (by omega) (by omega) ?_
        refine g_top (b := z1 1) (g41) ?_
        refine g_bipush (z := 8) hC dL_types_81 rfl ?_
        refine g_icmp_ge (tgt := 90) hC dL_types_83 (by decide) (by omega) (by omega) (fun c_83 => ?_) (fun c_83 => False.elim (by omega))
        refine g_iconst hC dL_types_90 rfl ?_
        refine g_iadd hC dL_types_91 ?_
        refine g_iastK hC (4) dL_types_92 f6 (by omega) (by omega) (by omega) ?_
        obtain ⟨G46, eG46⟩ : ∃ y_, y_ = gup (G1) (4) ((z1 1) + (0)) := ⟨_, rfl⟩
        rw [← eG46]
        obtain ⟨gh47, egh47⟩ : ∃ g_, g_ = gset gh1 ga (gI 1 6 G46) := ⟨_, rfl⟩
        rw [← egh47]
        have hR48 := hR1.put c301 (gI 1 6 G46)
        rw [hA1.2.1, ← egh47] at hR48
        have hCI49 := hCI1.put (30, 0, 0) (by decide) (gI 1 6 G46)
        obtain ⟨ct50, ect50⟩ : ∃ y_, y_ = cup ct1 (30, 0, 0) (gI 1 6 G46) := ⟨_, rfl⟩
        rw [← ect50] at hR48 hCI49
        have c51 : ct50 (30, 0, 0) = some (gI 1 6 G46) := by rw [ect50]; exact cup_eq
        have c52 : ct50 (31, 0, 0) = some (gI 1 50 P1) := by rw [ect50, cup_ne (by simp)]; exact c311
        have c53 : ct50 (32, 0, 0) = some (gI 1 12 Q1) := by rw [ect50, cup_ne (by simp)]; exact c321
        have c54 : ct50 (33, 0, 0) = some (gI 1 20 E1) := by rw [ect50, cup_ne (by simp)]; exact c331
        have n55 : G46 (0) = z1 3 := by rw [eG46]; exact (gup_ne (by omega)).trans (g01)
        have n56 : G46 (1) = z1 11 := by rw [eG46]; exact (gup_ne (by omega)).trans (g11)
        have n57 : G46 (2) = z1 22 := by rw [eG46]; exact (gup_ne (by omega)).trans (g21)
        have n58 : G46 (3) = z1 0 := by rw [eG46]; exact (gup_ne (by omega)).trans (g31)
        have n59 : G46 (5) = G1 5 := by rw [eG46]; exact (gup_ne (by omega)).trans (rfl)
        have n60 : G46 (4) = (z1 1) + (0) := by rw [eG46]; exact gup_eq
        have f61 : gh47 ga = some (gI 1 6 (G46)) := by have h9_ := hR48.1 (30, 0, 0) _ c51; rw [hA1.2.1] at h9_; exact h9_
        have f62 : gh47 pa = some (gI 1 50 (P1)) := by have h9_ := hR48.1 (31, 0, 0) _ c52; rw [hA1.2.2.1] at h9_; exact h9_
        have f63 : gh47 qa = some (gI 1 12 (Q1)) := by have h9_ := hR48.1 (32, 0, 0) _ c53; rw [hA1.2.2.2.1] at h9_; exact h9_
        have f64 : gh47 ea = some (gI 1 20 (E1)) := by have h9_ := hR48.1 (33, 0, 0) _ c54; rw [hA1.2.2.2.2] at h9_; exact h9_
        refine g_iinc (lv' := [some (.ref oa), some (.ref ga), some (vi (a)), some (vi (c)), some (vi (1)), some (vi ((m : Int))), some (vi ((n : Int) + 1))]) hC dL_types_93 (by decide) rfl rfl ?_
        refine g_goto (tgt := 15) hC dL_types_96 (by decide) ?_
        refine gV.widen (k := 1 * (n + 1)) (n := 6 * (n + 1)) (by omega) (by omega) ?_
        exact gV.eqs (lv' := [some (.ref oa), some (.ref ga), some (vi (a)), some (vi (c)), some (vi (1)), some (vi ((m : Int))), some (vi (((n + 1 : Nat) : Int)))]) (lcons rfl (lcons rfl (lcons rfl (lcons rfl (lcons rfl (lcons rfl (lcons (svi (by omega)) rfl))))))) rfl rfl (ih _ ⟨ad1, ct50, _, _, G46, P1, Q1, E1, hR48, ⟨hCI49, ⟨c51, c52, c53, c54⟩, by rw [eG46, show gup G1 4 (z1 1 + 0) = G1 by rw [Int.add_zero, ← g41]; exact gup_self G1 4]; exact hLI1.2.2⟩, hA1, k31, k111, k01, by rw [n59]; exact k51⟩)
    · intro gh1 hLO
      refine g_iload hC dL_types_15 rfl ?_
      refine g_iload hC dL_types_17 rfl ?_
      refine g_icmp_ge (tgt := 99) hC dL_types_19 (by decide) (by omega) (by omega) (fun c_19 => ?_) (fun c_19 => False.elim (by omega))
      refine g_iload hC dL_types_99 rfl ?_
      exact g_bret (b := true) hC hq dL_types_101 (by show 1 * m ≤ 4; omega) (by show 6 * m ≤ 24; omega) ⟨rfl, hLO⟩
  exact gV.eqs (lv' := [some (.ref oa), some (.ref ga), some (vi (a)), some (vi (c)), some (vi (1)), some (vi ((m : Int))), some (vi (((0 : Nat) : Int)))]) (lcons rfl (lcons rfl (lcons rfl (lcons rfl (lcons rfl (lcons (svi (hm)) (lcons (svi (rfl)) rfl))))))) rfl rfl (lp 0 (Nat.zero_le _) gh ⟨ad, ct, z, F, G, P, Q, E, hR, hLI, hA, Int.le_refl _, Int.le_refl _, Int.le_refl _, Int.le_refl _⟩)

end Q6
