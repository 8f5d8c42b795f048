/-! p16: the law tells a name -/
section Q7
set_option maxHeartbeats 4000000 in
set_option maxRecDepth 100000 in
theorem kL_names {l : Launch} (hl : l.stackTraces = false) {D : gD} {base : Nat} {oa ga pa qa ea : Nat} {ad : Tg → Nat} {z : Nat → Int} {F : Nat → Nat → Int} {ct : Tg → Option gC} {G P Q E : Nat → Int} (hLI : LI ad z F ct G P Q E) (hA : lA ad oa ga pa qa ea) (i : Nat) (hi : (i : Int) < z 3) (gh : gH) (hR : cR ad ct gh) : gM l D base yL_names cL_names 5 (some Jvm.ClassFile.FieldType.boolean) 11 244 14 88 [.ref oa, .ref ga, .ref pa, vi ((i : Int))] gh (fun r gh' => r = some (vi 1) ∧ LO oa ga pa qa ea z (z 0) (G 5) gh') gNo := by
  refine gM.of hl (by decide) (by simp [Value.category]) (Nat.le_of_ble_eq_true rfl) [some (.ref oa), some (.ref ga), some (.ref pa), some (vi ((i : Int))), none] rfl (fun x hC hq => ?_)
  obtain ⟨hCI, ⟨c30, c31, c32, c33⟩, ⟨g0, g1, g2, g3, g4, g5⟩, lP, lQ, lE⟩ := id hLI
  obtain ⟨hS, hI, hE, hQ, h10⟩ := id hCI
  obtain ⟨i0, i1, i3, i11, i22, iw, ip, inn, inm, ish⟩ := id hI
  have f1 : gh ga = some (gI 1 6 (G)) := by have h9_ := hR.1 (30, 0, 0) _ c30; rw [hA.2.1] at h9_; exact h9_
  have f2 : gh pa = some (gI 1 50 (P)) := by have h9_ := hR.1 (31, 0, 0) _ c31; rw [hA.2.2.1] at h9_; exact h9_
  have f3 : gh qa = some (gI 1 12 (Q)) := by have h9_ := hR.1 (32, 0, 0) _ c32; rw [hA.2.2.2.1] at h9_; exact h9_
  have f4 : gh ea = some (gI 1 20 (E)) := by have h9_ := hR.1 (33, 0, 0) _ c33; rw [hA.2.2.2.2] at h9_; exact h9_
  obtain ⟨p3, p4, -⟩ := lP i (by omega)
  have h7 := inn i (by omega)
  refine g_ald_n hC dL_names_0 rfl ?_
  refine g_iload_n hC dL_names_1 rfl ?_
  refine g_callSW (rest := []) hC (kL_name hl hCI hA.1 i hi gh hR) gcw_96 rfl ⟨by decide, by decide⟩ ⟨by decide, by decide⟩ (Nat.le_of_ble_eq_true rfl) rfl dL_names_2 (fun r g2_ hp => ?_)
  rcases hp with ⟨⟨hB1, hB2⟩, rfl, hx⟩ | ⟨hB, rfl, hgh⟩
  · have hpl := pushUp_lim (F := F) (np := (z 3).toNat) (on := z 0) (G := namF z F i) (i := i) (by omega) (z 11).toNat
    rw [Int.toNat_of_nonneg i3.1, Int.toNat_of_nonneg i11.1] at hpl
    have hmm : 0 ≤ (z 3 - 1) * z 11 ∧ (z 3 - 1) * z 11 ≤ 40 := by rcases (show z 11 = 0 ∨ z 11 = 1 ∨ z 11 = 2 ∨ z 11 = 3 ∨ z 11 = 4 by omega) with e | e | e | e | e <;> rw [e] <;> omega
    obtain ⟨pu, epu⟩ : ∃ y_ : Int, y_ = pushUp F (namF z F i) i (z 3).toNat (z 0) (z 11).toNat := ⟨_, rfl⟩
    rw [← epu] at hpl ⊢
    obtain ⟨mm, emm⟩ : ∃ y_ : Int, y_ = (z 3 - 1) * z 11 := ⟨_, rfl⟩
    rw [← emm] at hpl hmm
    refine gV.eqs (st' := [vi (pu)]) rfl rfl rfl ?_
    obtain ⟨ad5, ct6, hR7, hS8, hx9⟩ := hx
    have hA10 := hA.x hx9
    have hCI11 : CI ad5 (gup z 1 0) (namF z F i) ct6 := ⟨hS8, ci_name hI hE hQ h10 hi hB1 hB2⟩
    have c12 := (hx9.1 (30, 0, 0) (Or.inr (by decide))).1.trans c30
    have c13 := (hx9.1 (31, 0, 0) (Or.inr (by decide))).1.trans c31
    have c14 := (hx9.1 (32, 0, 0) (Or.inr (by decide))).1.trans c32
    have c15 := (hx9.1 (33, 0, 0) (Or.inr (by decide))).1.trans c33
    have f16 : g2_ ga = some (gI 1 6 (G)) := by have h9_ := hR7.1 (30, 0, 0) _ c12; rw [hA10.2.1] at h9_; exact h9_
    have f17 : g2_ pa = some (gI 1 50 (P)) := by have h9_ := hR7.1 (31, 0, 0) _ c13; rw [hA10.2.2.1] at h9_; exact h9_
    have f18 : g2_ qa = some (gI 1 12 (Q)) := by have h9_ := hR7.1 (32, 0, 0) _ c14; rw [hA10.2.2.2.1] at h9_; exact h9_
    have f19 : g2_ ea = some (gI 1 20 (E)) := by have h9_ := hR7.1 (33, 0, 0) _ c15; rw [hA10.2.2.2.2] at h9_; exact h9_
    have hI2 := hCI11.2.1
    have s1 := spV_lt (F := namF z F i) (on := z 0) hI2 (i := i) (by omega) (by rw [nam_of hI (by omega) hB2]; omega) (t := (z 1 - 1).toNat) (by rw [nam_len hI (by omega) hB2]; omega)
    rw [show (((z 1 - 1).toNat : Nat) : Int) = z 1 - 1 by omega] at s1
    have s2 : spV (namF z F i) (z 0) (z 1) i = 32 := spV_out (Or.inr (by rw [nam_len hI (by omega) hB2]; exact Int.le_refl _))
    have s3 : spV (namF z F i) 10000 0 i = spV (namF z F i) (z 0) 0 i := spV_pass hI2 (by omega) i0.2
    have s4 := spV_rng (F := namF z F i) (on := z 0) hI2 (i := i) (by omega) (wh := 0) (by decide)
    refine g_istore (lv' := [some (.ref oa), some (.ref ga), some (.ref pa), some (vi ((i : Int))), some (vi (pu))]) hC dL_names_5 (by decide) rfl ?_
    refine g_ald_n hC dL_names_7 rfl ?_
    refine g_iconst hC dL_names_8 rfl ?_
    refine g_ialdK hC (4) dL_names_9 f16 (by omega) (by omega) (by omega) ?_
    refine g_top (b := z 1) (g4) ?_
    refine g_if_eq (tgt := 25) hC dL_names_10 (by decide) (by omega) (fun c_10 => False.elim (by omega)) (fun c_10 => ?_)
    refine g_ald_n hC dL_names_13 rfl ?_
    refine g_iconst hC dL_names_14 rfl ?_
    refine g_iload_n hC dL_names_15 rfl ?_
    refine g_imul hC dL_names_16 ?_
    refine g_iconst hC dL_names_17 rfl ?_
    refine g_iadd hC dL_names_18 ?_
    refine g_ialdK hC (5 * i + 3) dL_names_19 f17 (by omega) (by omega) (by omega) ?_
    refine g_top (b := F 7 i) (p3) ?_
    refine g_bipush (z := 6) hC dL_names_20 rfl ?_
    refine g_icmp_ne (tgt := 38) hC dL_names_22 (by decide) (by omega) (by omega) (fun c_22 => ?_) (fun c_22 => False.elim (by omega))
    refine g_ald_n hC dL_names_38 rfl ?_
    refine g_iconst hC dL_names_39 rfl ?_
    refine g_iload_n hC dL_names_40 rfl ?_
    refine g_imul hC dL_names_41 ?_
    refine g_iconst hC dL_names_42 rfl ?_
    refine g_iadd hC dL_names_43 ?_
    refine g_dup2 hC dL_names_44 rfl rfl ?_
    refine g_ialdK hC (5 * i + 3) dL_names_45 f17 (by omega) (by omega) (by omega) ?_
    refine g_top (b := F 7 i) (p3) ?_
    refine g_iconst hC dL_names_46 rfl ?_
    refine g_iadd hC dL_names_47 ?_
    refine g_iastK hC (5 * i + 3) dL_names_48 f17 (by omega) (by omega) (by omega) ?_
    obtain ⟨P20, eP20⟩ : ∃ y_, y_ = gup (P) (5 * i + 3) ((F 7 i) + (1)) := ⟨_, rfl⟩
    rw [← eP20]
    obtain ⟨gh21, egh21⟩ : ∃ g_, g_ = gset g2_ pa (gI 1 50 P20) := ⟨_, rfl⟩
    rw [← egh21]
    have hR22 := hR7.put c13 (gI 1 50 P20)
    rw [hA10.2.2.1, ← egh21] at hR22
    have hCI23 := hCI11.put (31, 0, 0) (by decide) (gI 1 50 P20)
    obtain ⟨ct24, ect24⟩ : ∃ y_, y_ = cup ct6 (31, 0, 0) (gI 1 50 P20) := ⟨_, rfl⟩
    rw [← ect24] at hR22 hCI23
    have c25 : ct24 (30, 0, 0) = some (gI 1 6 G) := by rw [ect24, cup_ne (by simp)]; exact c12
    have c26 : ct24 (31, 0, 0) = some (gI 1 50 P20) := by rw [ect24]; exact cup_eq
    have c27 : ct24 (32, 0, 0) = some (gI 1 12 Q) := by rw [ect24, cup_ne (by simp)]; exact c14
    have c28 : ct24 (33, 0, 0) = some (gI 1 20 E) := by rw [ect24, cup_ne (by simp)]; exact c15
    have n29 : P20 (5 * i + 4) = lnF F (z 0) i := by rw [eP20]; exact (gup_ne (by omega)).trans (p4)
    have n30 : P20 (5 * i + 3) = (F 7 i) + (1) := by rw [eP20]; exact gup_eq
    have f31 : gh21 ga = some (gI 1 6 (G)) := by have h9_ := hR22.1 (30, 0, 0) _ c25; rw [hA10.2.1] at h9_; exact h9_
    have f32 : gh21 pa = some (gI 1 50 (P20)) := by have h9_ := hR22.1 (31, 0, 0) _ c26; rw [hA10.2.2.1] at h9_; exact h9_
    have f33 : gh21 qa = some (gI 1 12 (Q)) := by have h9_ := hR22.1 (32, 0, 0) _ c27; rw [hA10.2.2.2.1] at h9_; exact h9_
    have f34 : gh21 ea = some (gI 1 20 (E)) := by have h9_ := hR22.1 (33, 0, 0) _ c28; rw [hA10.2.2.2.2] at h9_; exact h9_
    refine g_ald_n hC dL_names_49 rfl ?_
    refine g_iconst hC dL_names_50 rfl ?_
    refine g_iload_n hC dL_names_51 rfl ?_
    refine g_imul hC dL_names_52 ?_
    refine g_iconst hC dL_names_53 rfl ?_
    refine g_iadd hC dL_names_54 ?_
    refine g_ald_n hC dL_names_55 rfl ?_
    refine g_iconst hC dL_names_56 rfl ?_
    refine g_ialdK hC (4) dL_names_57 f31 (by omega) (by omega) (by omega) ?_
    refine g_top (b := z 1) (g4) ?_
    refine g_iastK hC (5 * i + 4) dL_names_58 f32 (by omega) (by omega) (by omega) ?_
    obtain ⟨P35, eP35⟩ : ∃ y_, y_ = gup (P20) (5 * i + 4) (z 1) := ⟨_, rfl⟩
    rw [← eP35]
    obtain ⟨gh36, egh36⟩ : ∃ g_, g_ = gset gh21 pa (gI 1 50 P35) := ⟨_, rfl⟩
    rw [← egh36]
    have hR37 := hR22.put c26 (gI 1 50 P35)
    rw [hA10.2.2.1, ← egh36] at hR37
    have hCI38 := hCI23.put (31, 0, 0) (by decide) (gI 1 50 P35)
    obtain ⟨ct39, ect39⟩ : ∃ y_, y_ = cup ct24 (31, 0, 0) (gI 1 50 P35) := ⟨_, rfl⟩
    rw [← ect39] at hR37 hCI38
    have c40 : ct39 (30, 0, 0) = some (gI 1 6 G) := by rw [ect39, cup_ne (by simp)]; exact c25
    have c41 : ct39 (31, 0, 0) = some (gI 1 50 P35) := by rw [ect39]; exact cup_eq
    have c42 : ct39 (32, 0, 0) = some (gI 1 12 Q) := by rw [ect39, cup_ne (by simp)]; exact c27
    have c43 : ct39 (33, 0, 0) = some (gI 1 20 E) := by rw [ect39, cup_ne (by simp)]; exact c28
    have n44 : P35 (5 * i + 3) = (F 7 i) + (1) := by rw [eP35]; exact (gup_ne (by omega)).trans (n30)
    have n45 : P35 (5 * i + 4) = z 1 := by rw [eP35]; exact gup_eq
    have f46 : gh36 ga = some (gI 1 6 (G)) := by have h9_ := hR37.1 (30, 0, 0) _ c40; rw [hA10.2.1] at h9_; exact h9_
    have f47 : gh36 pa = some (gI 1 50 (P35)) := by have h9_ := hR37.1 (31, 0, 0) _ c41; rw [hA10.2.2.1] at h9_; exact h9_
    have f48 : gh36 qa = some (gI 1 12 (Q)) := by have h9_ := hR37.1 (32, 0, 0) _ c42; rw [hA10.2.2.2.1] at h9_; exact h9_
    have f49 : gh36 ea = some (gI 1 20 (E)) := by have h9_ := hR37.1 (33, 0, 0) _ c43; rw [hA10.2.2.2.2] at h9_; exact h9_
    refine g_ald_n hC dL_names_59 rfl ?_
    refine g_iconst hC dL_names_60 rfl ?_
    refine g_iconst hC dL_names_61 rfl ?_
    refine g_iastK hC (4) dL_names_62 f46 (by omega) (by omega) (by omega) ?_
    obtain ⟨G50, eG50⟩ : ∃ y_, y_ = gup (G) (4) (0) := ⟨_, rfl⟩
    rw [← eG50]
    obtain ⟨gh51, egh51⟩ : ∃ g_, g_ = gset gh36 ga (gI 1 6 G50) := ⟨_, rfl⟩
    rw [← egh51]
    have hR52 := hR37.put c40 (gI 1 6 G50)
    rw [hA10.2.1, ← egh51] at hR52
    have hCI53 := hCI38.put (30, 0, 0) (by decide) (gI 1 6 G50)
    obtain ⟨ct54, ect54⟩ : ∃ y_, y_ = cup ct39 (30, 0, 0) (gI 1 6 G50) := ⟨_, rfl⟩
    rw [← ect54] at hR52 hCI53
    have c55 : ct54 (30, 0, 0) = some (gI 1 6 G50) := by rw [ect54]; exact cup_eq
    have c56 : ct54 (31, 0, 0) = some (gI 1 50 P35) := by rw [ect54, cup_ne (by simp)]; exact c41
    have c57 : ct54 (32, 0, 0) = some (gI 1 12 Q) := by rw [ect54, cup_ne (by simp)]; exact c42
    have c58 : ct54 (33, 0, 0) = some (gI 1 20 E) := by rw [ect54, cup_ne (by simp)]; exact c43
    have n59 : G50 (0) = z 3 := by rw [eG50]; exact (gup_ne (by omega)).trans (g0)
    have n60 : G50 (1) = z 11 := by rw [eG50]; exact (gup_ne (by omega)).trans (g1)
    have n61 : G50 (2) = z 22 := by rw [eG50]; exact (gup_ne (by omega)).trans (g2)
    have n62 : G50 (3) = z 0 := by rw [eG50]; exact (gup_ne (by omega)).trans (g3)
    have n63 : G50 (5) = G 5 := by rw [eG50]; exact (gup_ne (by omega)).trans (rfl)
    have n64 : G50 (4) = 0 := by rw [eG50]; exact gup_eq
    have f65 : gh51 ga = some (gI 1 6 (G50)) := by have h9_ := hR52.1 (30, 0, 0) _ c55; rw [hA10.2.1] at h9_; exact h9_
    have f66 : gh51 pa = some (gI 1 50 (P35)) := by have h9_ := hR52.1 (31, 0, 0) _ c56; rw [hA10.2.2.1] at h9_; exact h9_
    have f67 : gh51 qa = some (gI 1 12 (Q)) := by have h9_ := hR52.1 (32, 0, 0) _ c57; rw [hA10.2.2.2.1] at h9_; exact h9_
    have f68 : gh51 ea = some (gI 1 20 (E)) := by have h9_ := hR52.1 (33, 0, 0) _ c58; rw [hA10.2.2.2.2] at h9_; exact h9_
    refine g_iload hC dL_names_63 rfl ?_
    refine g_if_lt (tgt := 182) hC dL_names_65 (by decide) (by omega) (fun c_65 => False.elim (by omega)) (fun c_65 => ?_)
    refine g_iload hC dL_names_68 rfl ?_
    refine g_ald_n hC dL_names_70 rfl ?_
    refine g_iconst hC dL_names_71 rfl ?_
    refine g_ialdK hC (0) dL_names_72 f65 (by omega) (by omega) (by omega) ?_
    refine g_top (b := z 3) (n59) ?_
    refine g_iconst hC dL_names_73 rfl ?_
    refine g_isub hC dL_names_74 ?_
    refine g_ald_n hC dL_names_75 rfl ?_
    refine g_iconst hC dL_names_76 rfl ?_
    refine g_ialdK hC (1) dL_names_77 f65 (by omega) (by omega) (by omega) ?_
    refine g_top (b := z 11) (n60) ?_
    refine g_imul hC dL_names_78 ?_
    refine g_top (b := mm) emm.symm ?_
    refine g_icmp_gt (tgt := 182) hC dL_names_79 (by decide) (by omega) (by omega) (fun c_79 => False.elim (by omega)) (fun c_79 => ?_)
    refine g_ald_n hC dL_names_82 rfl ?_
    refine g_iload_n hC dL_names_83 rfl ?_
    refine g_ald_n hC dL_names_84 rfl ?_
    refine g_iconst hC dL_names_85 rfl ?_
    refine g_ialdK hC (3) dL_names_86 f65 (by omega) (by omega) (by omega) ?_
    refine g_top (b := z 0) (n62) ?_
    refine g_ald_n hC dL_names_87 rfl ?_
    refine g_iconst hC dL_names_88 rfl ?_
    refine g_iload_n hC dL_names_89 rfl ?_
    refine g_imul hC dL_names_90 ?_
    refine g_iconst hC dL_names_91 rfl ?_
    refine g_iadd hC dL_names_92 ?_
    refine g_ialdK hC (5 * i + 4) dL_names_93 f66 (by omega) (by omega) (by omega) ?_
    refine g_top (b := z 1) (n45) ?_
    refine g_iconst hC dL_names_94 rfl ?_
    refine g_isub hC dL_names_95 ?_
    refine g_callSW (rest := []) hC (kL_spelled hl hCI53 hA10.1 i hi (z 0) (z 1 - 1) (by omega) (by omega) gh51 hR52) gcw_88 rfl ⟨by decide, by decide⟩ ⟨by decide, by decide⟩ (Nat.le_of_ble_eq_true rfl) rfl dL_names_96 (fun r g_ hp => ?_)
    obtain ⟨rfl, hgh⟩ := hp
    rw [hgh]
    clear hgh
    refine gV.eqs (st' := [vi (spV (namF z F i) (z 0) (z 1 - 1) i)]) rfl rfl rfl ?_
    refine g_bipush (z := 32) hC dL_names_99 rfl ?_
    refine g_icmp_eq (tgt := 182) hC dL_names_101 (by decide) (by omega) (by omega) (fun c_101 => False.elim (by omega)) (fun c_101 => ?_)
    refine g_ald_n hC dL_names_104 rfl ?_
    refine g_iload_n hC dL_names_105 rfl ?_
    refine g_ald_n hC dL_names_106 rfl ?_
    refine g_iconst hC dL_names_107 rfl ?_
    refine g_ialdK hC (3) dL_names_108 f65 (by omega) (by omega) (by omega) ?_
    refine g_top (b := z 0) (n62) ?_
    refine g_ald_n hC dL_names_109 rfl ?_
    refine g_iconst hC dL_names_110 rfl ?_
    refine g_iload_n hC dL_names_111 rfl ?_
    refine g_imul hC dL_names_112 ?_
    refine g_iconst hC dL_names_113 rfl ?_
    refine g_iadd hC dL_names_114 ?_
    refine g_ialdK hC (5 * i + 4) dL_names_115 f66 (by omega) (by omega) (by omega) ?_
    refine g_top (b := z 1) (n45) ?_
    refine g_callSW (rest := []) hC (kL_spelled hl hCI53 hA10.1 i hi (z 0) (z 1) (by omega) (by omega) gh51 hR52) gcw_88 rfl ⟨by decide, by decide⟩ ⟨by decide, by decide⟩ (Nat.le_of_ble_eq_true rfl) rfl dL_names_116 (fun r g_ hp => ?_)
    obtain ⟨rfl, hgh⟩ := hp
    rw [hgh]
    clear hgh
    refine gV.eqs (st' := [vi (spV (namF z F i) (z 0) (z 1) i)]) rfl rfl rfl ?_
    refine g_bipush (z := 32) hC dL_names_119 rfl ?_
    refine g_icmp_ne (tgt := 182) hC dL_names_121 (by decide) (by omega) (by omega) (fun c_121 => False.elim (by omega)) (fun c_121 => ?_)
    refine g_ald_n hC dL_names_124 rfl ?_
    refine g_iload_n hC dL_names_125 rfl ?_
    refine g_sipush (z := 10000) hC dL_names_126 rfl ?_
    refine g_iconst hC dL_names_129 rfl ?_
    refine g_callSW (rest := []) hC (kL_spelled hl hCI53 hA10.1 i hi 10000 0 (by decide) (by decide) gh51 hR52) gcw_88 rfl ⟨by decide, by decide⟩ ⟨by decide, by decide⟩ (Nat.le_of_ble_eq_true rfl) rfl dL_names_130 (fun r g_ hp => ?_)
    obtain ⟨rfl, hgh⟩ := hp
    rw [hgh]
    clear hgh
    refine gV.eqs (st' := [vi (spV (namF z F i) 10000 0 i)]) rfl rfl rfl ?_
    refine g_ald_n hC dL_names_133 rfl ?_
    refine g_iload_n hC dL_names_134 rfl ?_
    refine g_ald_n hC dL_names_135 rfl ?_
    refine g_iconst hC dL_names_136 rfl ?_
    refine g_ialdK hC (3) dL_names_137 f65 (by omega) (by omega) (by omega) ?_
    refine g_top (b := z 0) (n62) ?_
    refine g_iconst hC dL_names_138 rfl ?_
    refine g_callSW (rest := [vi (spV (namF z F i) 10000 0 i)]) hC (kL_spelled hl hCI53 hA10.1 i hi (z 0) 0 (by omega) (by decide) gh51 hR52) gcw_88 rfl ⟨by decide, by decide⟩ ⟨by decide, by decide⟩ (Nat.le_of_ble_eq_true rfl) rfl dL_names_139 (fun r g_ hp => ?_)
    obtain ⟨rfl, hgh⟩ := hp
    rw [hgh]
    clear hgh
    refine gV.eqs (st' := [vi (spV (namF z F i) (z 0) 0 i), vi (spV (namF z F i) 10000 0 i)]) rfl rfl rfl ?_
    refine g_icmp_ne (tgt := 182) hC dL_names_142 (by decide) (by omega) (by omega) (fun c_142 => False.elim (by omega)) (fun c_142 => ?_)
    refine g_ald_n hC dL_names_145 rfl ?_
    refine g_iconst hC dL_names_146 rfl ?_
    refine g_iload_n hC dL_names_147 rfl ?_
    refine g_imul hC dL_names_148 ?_
    refine g_iconst hC dL_names_149 rfl ?_
    refine g_iadd hC dL_names_150 ?_
    refine g_ialdK hC (5 * i + 3) dL_names_151 f66 (by omega) (by omega) (by omega) ?_
    refine g_top (b := (F 7 i) + (1)) (n44) ?_
    refine g_iconst hC dL_names_152 rfl ?_
    refine g_icmp_gt (tgt := 178) hC dL_names_153 (by decide) (by omega) (by omega) (fun hf => ?_) (fun hf => ?_)
    · refine g_iconst hC dL_names_178 rfl ?_
      refine g_goto (tgt := 183) hC dL_names_179 (by decide) ?_
      exact g_bret (b := true) hC hq dL_names_183 (by decide) (by decide) ⟨rfl, ad5, ct54, _, _, G50, P35, Q, E, hR52, ⟨hCI53, ⟨c55, c56, c57, c58⟩, by rw [eG50, eP35, eP20]; exact lw_name hI hE hQ hLI.2.2 hi h10 hB2⟩, hA10, Int.le_refl (z 3), Int.le_refl (z 11), Int.le_refl (z 0), by rw [n63]; exact Int.le_refl _⟩
    · refine g_ald_n hC dL_names_156 rfl ?_
      refine g_iconst hC dL_names_157 rfl ?_
      refine g_ialdK hC (3) dL_names_158 f65 (by omega) (by omega) (by omega) ?_
      refine g_top (b := z 0) (n62) ?_
      refine g_if_eq (tgt := 178) hC dL_names_159 (by decide) (by omega) (fun hd => ?_) (fun hd => ?_)
      · refine g_iconst hC dL_names_178 rfl ?_
        refine g_goto (tgt := 183) hC dL_names_179 (by decide) ?_
        exact g_bret (b := true) hC hq dL_names_183 (by decide) (by decide) ⟨rfl, ad5, ct54, _, _, G50, P35, Q, E, hR52, ⟨hCI53, ⟨c55, c56, c57, c58⟩, by rw [eG50, eP35, eP20]; exact lw_name hI hE hQ hLI.2.2 hi h10 hB2⟩, hA10, Int.le_refl (z 3), Int.le_refl (z 11), Int.le_refl (z 0), by rw [n63]; exact Int.le_refl _⟩
      · have s5 : spV (namF z F i) (z 0 - 1) 0 i = 32 := spV_none (nam_first hI (by omega) (by omega))
        refine g_ald_n hC dL_names_162 rfl ?_
        refine g_iload_n hC dL_names_163 rfl ?_
        refine g_ald_n hC dL_names_164 rfl ?_
        refine g_iconst hC dL_names_165 rfl ?_
        refine g_ialdK hC (3) dL_names_166 f65 (by omega) (by omega) (by omega) ?_
        refine g_top (b := z 0) (n62) ?_
        refine g_iconst hC dL_names_167 rfl ?_
        refine g_isub hC dL_names_168 ?_
        refine g_iconst hC dL_names_169 rfl ?_
        refine g_callSW (rest := []) hC (kL_spelled hl hCI53 hA10.1 i hi (z 0 - 1) 0 (by omega) (by decide) gh51 hR52) gcw_88 rfl ⟨by decide, by decide⟩ ⟨by decide, by decide⟩ (Nat.le_of_ble_eq_true rfl) rfl dL_names_170 (fun r g_ hp => ?_)
        obtain ⟨rfl, hgh⟩ := hp
        rw [hgh]
        clear hgh
        refine gV.eqs (st' := [vi (spV (namF z F i) (z 0 - 1) 0 i)]) rfl rfl rfl ?_
        refine g_bipush (z := 32) hC dL_names_173 rfl ?_
        refine g_icmp_ne (tgt := 182) hC dL_names_175 (by decide) (by omega) (by omega) (fun c_175 => False.elim (by omega)) (fun c_175 => ?_)
        refine g_iconst hC dL_names_178 rfl ?_
        refine g_goto (tgt := 183) hC dL_names_179 (by decide) ?_
        exact g_bret (b := true) hC hq dL_names_183 (by decide) (by decide) ⟨rfl, ad5, ct54, _, _, G50, P35, Q, E, hR52, ⟨hCI53, ⟨c55, c56, c57, c58⟩, by rw [eG50, eP35, eP20]; exact lw_name hI hE hQ hLI.2.2 hi h10 hB2⟩, hA10, Int.le_refl (z 3), Int.le_refl (z 11), Int.le_refl (z 0), by rw [n63]; exact Int.le_refl _⟩
  · rw [hgh]
    refine gV.eqs (st' := [vi ((-1000003))]) rfl rfl rfl ?_
    refine g_istore (lv' := [some (.ref oa), some (.ref ga), some (.ref pa), some (vi ((i : Int))), some (vi ((-1000003)))]) hC dL_names_5 (by decide) rfl ?_
    refine g_ald_n hC dL_names_7 rfl ?_
    refine g_iconst hC dL_names_8 rfl ?_
    refine g_ialdK hC (4) dL_names_9 f1 (by omega) (by omega) (by omega) ?_
    refine g_top (b := z 1) (g4) ?_
    refine g_if_eq (tgt := 25) hC dL_names_10 (by decide) (by omega) (fun hz => ?_) (fun hz => ?_)
    · refine g_iload hC dL_names_25 rfl ?_
      refine g_ldcI (z := (-1000003)) hC dL_names_27 gk_RL_21 (by decide +kernel) ?_
      refine g_icmp_ne (tgt := 36) hC dL_names_29 (by decide) (by omega) (by omega) (fun c_29 => False.elim (by omega)) (fun c_29 => ?_)
      refine g_iconst hC dL_names_32 rfl ?_
      refine g_goto (tgt := 37) hC dL_names_33 (by decide) ?_
      exact g_bret (b := true) hC hq dL_names_37 (by decide) (by decide) ⟨rfl, ⟨ad, ct, z, F, G, P, Q, E, hR, hLI, hA, Int.le_refl _, Int.le_refl _, Int.le_refl _, Int.le_refl _⟩⟩
    · refine g_ald_n hC dL_names_13 rfl ?_
      refine g_iconst hC dL_names_14 rfl ?_
      refine g_iload_n hC dL_names_15 rfl ?_
      refine g_imul hC dL_names_16 ?_
      refine g_iconst hC dL_names_17 rfl ?_
      refine g_iadd hC dL_names_18 ?_
      refine g_ialdK hC (5 * i + 3) dL_names_19 f2 (by omega) (by omega) (by omega) ?_
      refine g_top (b := F 7 i) (p3) ?_
      refine g_bipush (z := 6) hC dL_names_20 rfl ?_
      refine g_icmp_ne (tgt := 38) hC dL_names_22 (by decide) (by omega) (by omega) (fun c_22 => False.elim (by omega)) (fun c_22 => ?_)
      refine g_iload hC dL_names_25 rfl ?_
      refine g_ldcI (z := (-1000003)) hC dL_names_27 gk_RL_21 (by decide +kernel) ?_
      refine g_icmp_ne (tgt := 36) hC dL_names_29 (by decide) (by omega) (by omega) (fun c_29 => False.elim (by omega)) (fun c_29 => ?_)
      refine g_iconst hC dL_names_32 rfl ?_
      refine g_goto (tgt := 37) hC dL_names_33 (by decide) ?_
      exact g_bret (b := true) hC hq dL_names_37 (by decide) (by decide) ⟨rfl, ⟨ad, ct, z, F, G, P, Q, E, hR, hLI, hA, Int.le_refl _, Int.le_refl _, Int.le_refl _, Int.le_refl _⟩⟩

end Q7
