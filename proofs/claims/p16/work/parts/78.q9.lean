/-! p16: the law prints, and looks at what was printed -/
section Q9
set_option maxHeartbeats 4000000 in
set_option maxRecDepth 100000 in
theorem kL_prints {l : Launch} (hl : l.stackTraces = false) {D : gD} {base : Nat} {oa ga pa qa ea : Nat} {ad : Tg → Nat} {z : Nat → Int} {F : Nat → Nat → Int} {ct : Tg → Option gC} {G P Q E : Nat → Int} (hLI : LI ad z F ct G P Q E) (hA : lA ad oa ga pa qa ea) (c : Int) (rc : -2147483648 ≤ c ∧ c < 2147483648) (h1 : 1 ≤ z 11) (gh : gH) (hR : cR ad ct gh) : gM l D base yL_prints cL_prints 9 (some Jvm.ClassFile.FieldType.boolean) 9 153 16 3885 [.ref oa, .ref ga, .ref ea, vi (c)] gh (fun r gh' => r = some (vi 1) ∧ LO oa ga pa qa ea z (z 0) (G 5) gh') gNo := by
  refine gM.of hl (by decide) (by simp [Value.category]) (Nat.le_of_ble_eq_true rfl) [some (.ref oa), some (.ref ga), some (.ref ea), some (vi (c)), none, none, none, none, none] rfl (fun x hC hq => ?_)
  obtain ⟨hCI, ⟨c30, c31, c32, c33⟩, ⟨g0, g1, g2, g3, g4, g5⟩, lP, lQ, lE⟩ := id hLI
  obtain ⟨hS, hI, hE, hQ, h10⟩ := id hCI
  obtain ⟨i0, i1, i3, i11, i22, iw, ip, inn, inm, ish⟩ := id hI
  have f1 : gh ga = some (gI 1 6 (G)) := by have h9_ := hR.1 (30, 0, 0) _ c30; rw [hA.2.1] at h9_; exact h9_
  have f2 : gh pa = some (gI 1 50 (P)) := by have h9_ := hR.1 (31, 0, 0) _ c31; rw [hA.2.2.1] at h9_; exact h9_
  have f3 : gh qa = some (gI 1 12 (Q)) := by have h9_ := hR.1 (32, 0, 0) _ c32; rw [hA.2.2.2.1] at h9_; exact h9_
  have f4 : gh ea = some (gI 1 20 (E)) := by have h9_ := hR.1 (33, 0, 0) _ c33; rw [hA.2.2.2.2] at h9_; exact h9_
  obtain ⟨n, hn⟩ : ∃ n : Nat, z 22 = (n : Int) := ⟨(z 22).toNat, by omega⟩
  refine g_iload_n hC dL_prints_0 rfl ?_
  refine g_ald_n hC dL_prints_1 rfl ?_
  refine g_iconst hC dL_prints_2 rfl ?_
  refine g_ialdK hC (1) dL_prints_3 f1 (by omega) (by omega) (by omega) ?_
  refine g_top (b := z 11) (g1) ?_
  refine g_callS (rest := []) hC (kL_low hl c (z 11) rc (by omega) gh ) gc_RL_90 rfl ⟨by decide, by decide⟩ ⟨by decide, by decide⟩ (Nat.le_of_ble_eq_true rfl) rfl dL_prints_4 (fun r g_ hp => ?_)
  obtain ⟨rfl, hgh⟩ := hp
  rw [hgh]
  clear hgh
  obtain ⟨w5, ew5⟩ : ∃ y_ : Int, y_ = c % 2147483648 % (z 11) := ⟨_, rfl⟩
  have rw5 : 0 ≤ w5 ∧ w5 < z 11 := by rw [ew5]; exact ⟨Int.emod_nonneg _ (by omega), Int.emod_lt_of_pos _ (by omega)⟩
  rw [← ew5]
  refine gV.eqs (st' := [vi (w5)]) rfl rfl rfl ?_
  obtain ⟨t, ht⟩ : ∃ y_ : Nat, w5 = (y_ : Int) := ⟨w5.toNat, by omega⟩
  refine g_top (b := (t : Int)) ht ?_
  refine g_istore (lv' := [some (.ref oa), some (.ref ga), some (.ref ea), some (vi (c)), some (vi ((t : Int))), none, none, none, none]) hC dL_prints_7 (by decide) rfl ?_
  refine g_iload_n hC dL_prints_9 rfl ?_
  refine g_iconst hC dL_prints_10 rfl ?_
  refine g_ishrT hC dL_prints_11 ?_
  have rv6 := iI_rng (iI (c) >>> (iI (3) &&& 31))
  obtain ⟨v6, ev6⟩ : ∃ y_ : Int, y_ = (iI (c) >>> (iI (3) &&& 31)).toInt := ⟨_, rfl⟩
  rw [← ev6] at rv6 ⊢
  refine g_bipush (z := 24) hC dL_prints_12 rfl ?_
  refine g_callS (rest := []) hC (kL_low hl v6 24 rv6 (by omega) gh ) gc_RL_90 rfl ⟨by decide, by decide⟩ ⟨by decide, by decide⟩ (Nat.le_of_ble_eq_true rfl) rfl dL_prints_14 (fun r g_ hp => ?_)
  obtain ⟨rfl, hgh⟩ := hp
  rw [hgh]
  clear hgh
  obtain ⟨w7, ew7⟩ : ∃ y_ : Int, y_ = v6 % 2147483648 % 24 := ⟨_, rfl⟩
  have rw7 : 0 ≤ w7 ∧ w7 < 24 := by rw [ew7]; exact ⟨Int.emod_nonneg _ (by omega), Int.emod_lt_of_pos _ (by omega)⟩
  rw [← ew7]
  refine gV.eqs (st' := [vi (w7)]) rfl rfl rfl ?_
  refine g_istore (lv' := [some (.ref oa), some (.ref ga), some (.ref ea), some (vi (c)), some (vi ((t : Int))), some (vi (w7)), none, none, none]) hC dL_prints_17 (by decide) rfl ?_
  refine g_iload_n hC dL_prints_19 rfl ?_
  refine g_bipush (z := 8) hC dL_prints_20 rfl ?_
  refine g_ishrT hC dL_prints_22 ?_
  have rv8 := iI_rng (iI (c) >>> (iI (8) &&& 31))
  obtain ⟨v8, ev8⟩ : ∃ y_ : Int, y_ = (iI (c) >>> (iI (8) &&& 31)).toInt := ⟨_, rfl⟩
  rw [← ev8] at rv8 ⊢
  refine g_bipush (z := 40) hC dL_prints_23 rfl ?_
  refine g_callS (rest := []) hC (kL_low hl v8 40 rv8 (by omega) gh ) gc_RL_90 rfl ⟨by decide, by decide⟩ ⟨by decide, by decide⟩ (Nat.le_of_ble_eq_true rfl) rfl dL_prints_25 (fun r g_ hp => ?_)
  obtain ⟨rfl, hgh⟩ := hp
  rw [hgh]
  clear hgh
  obtain ⟨w9, ew9⟩ : ∃ y_ : Int, y_ = v8 % 2147483648 % 40 := ⟨_, rfl⟩
  have rw9 : 0 ≤ w9 ∧ w9 < 40 := by rw [ew9]; exact ⟨Int.emod_nonneg _ (by omega), Int.emod_lt_of_pos _ (by omega)⟩
  rw [← ew9]
  refine gV.eqs (st' := [vi (w9)]) rfl rfl rfl ?_
  refine g_istore (lv' := [some (.ref oa), some (.ref ga), some (.ref ea), some (vi (c)), some (vi ((t : Int))), some (vi (w7)), some (vi (w9)), none, none]) hC dL_prints_28 (by decide) rfl ?_
  refine g_ald_n hC dL_prints_30 rfl ?_
  refine g_iload hC dL_prints_31 rfl ?_
  refine g_iload hC dL_prints_33 rfl ?_
  refine g_iload hC dL_prints_35 rfl ?_
  refine g_callSW (rest := []) hC (kL_drawn hl hCI hA.1 t (by omega) w7 w9 (by omega) (by omega) gh hR) gcw_85 rfl ⟨by decide, by decide⟩ ⟨by decide, by decide⟩ (Nat.le_of_ble_eq_true rfl) rfl dL_prints_37 (fun r g_ hp => ?_)
  obtain ⟨rfl, hgh⟩ := hp
  rw [hgh]
  clear hgh
  refine gV.eqs (st' := [vi ((lay0 F t (z 3).toNat (z 0)).2 (40 * w7 + w9).toNat)]) rfl rfl rfl ?_
  have hsg := lay0_okP hI (s := t) (np := (z 3).toNat) (on := z 0) (by omega) (40 * w7 + w9).toNat
  obtain ⟨sg, esg⟩ : ∃ y_ : Int, y_ = (lay0 F t (z 3).toNat (z 0)).2 (40 * w7 + w9).toNat := ⟨_, rfl⟩
  rw [← esg] at hsg ⊢
  refine g_istore (lv' := [some (.ref oa), some (.ref ga), some (.ref ea), some (vi (c)), some (vi ((t : Int))), some (vi (w7)), some (vi (w9)), some (vi (sg)), none]) hC dL_prints_40 (by decide) rfl ?_
  refine g_ald_n hC dL_prints_42 rfl ?_
  refine g_callSW (rest := []) hC (kL_print hl hCI hA.1 gh hR) gcw_102 rfl ⟨by decide, by decide⟩ ⟨by decide, by decide⟩ (Nat.le_of_ble_eq_true rfl) rfl dL_prints_43 (fun r g2_ hp => ?_)
  rcases hp with ⟨h5, rfl, hx⟩ | ⟨h5, rfl, hgh⟩
  · refine gV.eqs (st' := [vi (z 22)]) rfl rfl rfl ?_
    refine g_top (b := (n : Int)) hn ?_
    obtain ⟨ad10, ct11, hR12, hS13, hx14⟩ := hx
    have hA15 := hA.x hx14
    have hCI16 : CI ad10 (gup z 22 (z 22 + 1)) (prF z F) ct11 := ⟨hS13, ci_print hI hE hQ h10 h5⟩
    have c17 := (hx14.1 (30, 0, 0) (Or.inr (by decide))).1.trans c30
    have c18 := (hx14.1 (31, 0, 0) (Or.inr (by decide))).1.trans c31
    have c19 := (hx14.1 (32, 0, 0) (Or.inr (by decide))).1.trans c32
    have c20 := (hx14.1 (33, 0, 0) (Or.inr (by decide))).1.trans c33
    have f21 : g2_ ga = some (gI 1 6 (G)) := by have h9_ := hR12.1 (30, 0, 0) _ c17; rw [hA15.2.1] at h9_; exact h9_
    have f22 : g2_ pa = some (gI 1 50 (P)) := by have h9_ := hR12.1 (31, 0, 0) _ c18; rw [hA15.2.2.1] at h9_; exact h9_
    have f23 : g2_ qa = some (gI 1 12 (Q)) := by have h9_ := hR12.1 (32, 0, 0) _ c19; rw [hA15.2.2.2.1] at h9_; exact h9_
    have f24 : g2_ ea = some (gI 1 20 (E)) := by have h9_ := hR12.1 (33, 0, 0) _ c20; rw [hA15.2.2.2.2] at h9_; exact h9_
    refine g_istore (lv' := [some (.ref oa), some (.ref ga), some (.ref ea), some (vi (c)), some (vi ((t : Int))), some (vi (w7)), some (vi (w9)), some (vi (sg)), some (vi ((n : Int)))]) hC dL_prints_46 (by decide) rfl ?_
    refine g_ald_n hC dL_prints_48 rfl ?_
    refine g_iconst hC dL_prints_49 rfl ?_
    refine g_ialdK hC (2) dL_prints_50 f21 (by omega) (by omega) (by omega) ?_
    refine g_top (b := (n : Int)) (g2.trans hn) ?_
    refine g_iconst hC dL_prints_51 rfl ?_
    refine g_icmp_ne (tgt := 68) hC dL_prints_52 (by decide) (by omega) (by omega) (fun c_52 => ?_) (fun c_52 => False.elim (by omega))
    refine g_ald_n hC dL_prints_68 rfl ?_
    refine g_iconst hC dL_prints_69 rfl ?_
    refine g_iload hC dL_prints_70 rfl ?_
    refine g_imul hC dL_prints_72 ?_
    refine g_iload hC dL_prints_73 rfl ?_
    refine g_iastK hC (4 * n) dL_prints_75 f24 (by omega) (by omega) (by omega) ?_
    obtain ⟨E25, eE25⟩ : ∃ y_, y_ = gup (E) (4 * n) ((t : Int)) := ⟨_, rfl⟩
    rw [← eE25]
    obtain ⟨gh26, egh26⟩ : ∃ g_, g_ = gset g2_ ea (gI 1 20 E25) := ⟨_, rfl⟩
    rw [← egh26]
    have hR27 := hR12.put c20 (gI 1 20 E25)
    rw [hA15.2.2.2.2, ← egh26] at hR27
    have hCI28 := hCI16.put (33, 0, 0) (by decide) (gI 1 20 E25)
    obtain ⟨ct29, ect29⟩ : ∃ y_, y_ = cup ct11 (33, 0, 0) (gI 1 20 E25) := ⟨_, rfl⟩
    rw [← ect29] at hR27 hCI28
    have c30 : ct29 (30, 0, 0) = some (gI 1 6 G) := by rw [ect29, cup_ne (by simp)]; exact c17
    have c31 : ct29 (31, 0, 0) = some (gI 1 50 P) := by rw [ect29, cup_ne (by simp)]; exact c18
    have c32 : ct29 (32, 0, 0) = some (gI 1 12 Q) := by rw [ect29, cup_ne (by simp)]; exact c19
    have c33 : ct29 (33, 0, 0) = some (gI 1 20 E25) := by rw [ect29]; exact cup_eq
    have n34 : E25 (4 * n) = (t : Int) := by rw [eE25]; exact gup_eq
    have f35 : gh26 ga = some (gI 1 6 (G)) := by have h9_ := hR27.1 (30, 0, 0) _ c30; rw [hA15.2.1] at h9_; exact h9_
    have f36 : gh26 pa = some (gI 1 50 (P)) := by have h9_ := hR27.1 (31, 0, 0) _ c31; rw [hA15.2.2.1] at h9_; exact h9_
    have f37 : gh26 qa = some (gI 1 12 (Q)) := by have h9_ := hR27.1 (32, 0, 0) _ c32; rw [hA15.2.2.2.1] at h9_; exact h9_
    have f38 : gh26 ea = some (gI 1 20 (E25)) := by have h9_ := hR27.1 (33, 0, 0) _ c33; rw [hA15.2.2.2.2] at h9_; exact h9_
    refine g_ald_n hC dL_prints_76 rfl ?_
    refine g_iconst hC dL_prints_77 rfl ?_
    refine g_iload hC dL_prints_78 rfl ?_
    refine g_imul hC dL_prints_80 ?_
    refine g_iconst hC dL_prints_81 rfl ?_
    refine g_iadd hC dL_prints_82 ?_
    refine g_iload hC dL_prints_83 rfl ?_
    refine g_iastK hC (4 * n + 1) dL_prints_85 f38 (by omega) (by omega) (by omega) ?_
    obtain ⟨E39, eE39⟩ : ∃ y_, y_ = gup (E25) (4 * n + 1) (w7) := ⟨_, rfl⟩
    rw [← eE39]
    obtain ⟨gh40, egh40⟩ : ∃ g_, g_ = gset gh26 ea (gI 1 20 E39) := ⟨_, rfl⟩
    rw [← egh40]
    have hR41 := hR27.put c33 (gI 1 20 E39)
    rw [hA15.2.2.2.2, ← egh40] at hR41
    have hCI42 := hCI28.put (33, 0, 0) (by decide) (gI 1 20 E39)
    obtain ⟨ct43, ect43⟩ : ∃ y_, y_ = cup ct29 (33, 0, 0) (gI 1 20 E39) := ⟨_, rfl⟩
    rw [← ect43] at hR41 hCI42
    have c44 : ct43 (30, 0, 0) = some (gI 1 6 G) := by rw [ect43, cup_ne (by simp)]; exact c30
    have c45 : ct43 (31, 0, 0) = some (gI 1 50 P) := by rw [ect43, cup_ne (by simp)]; exact c31
    have c46 : ct43 (32, 0, 0) = some (gI 1 12 Q) := by rw [ect43, cup_ne (by simp)]; exact c32
    have c47 : ct43 (33, 0, 0) = some (gI 1 20 E39) := by rw [ect43]; exact cup_eq
    have n48 : E39 (4 * n) = (t : Int) := by rw [eE39]; exact (gup_ne (by omega)).trans (n34)
    have n49 : E39 (4 * n + 1) = w7 := by rw [eE39]; exact gup_eq
    have f50 : gh40 ga = some (gI 1 6 (G)) := by have h9_ := hR41.1 (30, 0, 0) _ c44; rw [hA15.2.1] at h9_; exact h9_
    have f51 : gh40 pa = some (gI 1 50 (P)) := by have h9_ := hR41.1 (31, 0, 0) _ c45; rw [hA15.2.2.1] at h9_; exact h9_
    have f52 : gh40 qa = some (gI 1 12 (Q)) := by have h9_ := hR41.1 (32, 0, 0) _ c46; rw [hA15.2.2.2.1] at h9_; exact h9_
    have f53 : gh40 ea = some (gI 1 20 (E39)) := by have h9_ := hR41.1 (33, 0, 0) _ c47; rw [hA15.2.2.2.2] at h9_; exact h9_
    refine g_ald_n hC dL_prints_86 rfl ?_
    refine g_iconst hC dL_prints_87 rfl ?_
    refine g_iload hC dL_prints_88 rfl ?_
    refine g_imul hC dL_prints_90 ?_
    refine g_iconst hC dL_prints_91 rfl ?_
    refine g_iadd hC dL_prints_92 ?_
    refine g_iload hC dL_prints_93 rfl ?_
    refine g_iastK hC (4 * n + 2) dL_prints_95 f53 (by omega) (by omega) (by omega) ?_
    obtain ⟨E54, eE54⟩ : ∃ y_, y_ = gup (E39) (4 * n + 2) (w9) := ⟨_, rfl⟩
    rw [← eE54]
    obtain ⟨gh55, egh55⟩ : ∃ g_, g_ = gset gh40 ea (gI 1 20 E54) := ⟨_, rfl⟩
    rw [← egh55]
    have hR56 := hR41.put c47 (gI 1 20 E54)
    rw [hA15.2.2.2.2, ← egh55] at hR56
    have hCI57 := hCI42.put (33, 0, 0) (by decide) (gI 1 20 E54)
    obtain ⟨ct58, ect58⟩ : ∃ y_, y_ = cup ct43 (33, 0, 0) (gI 1 20 E54) := ⟨_, rfl⟩
    rw [← ect58] at hR56 hCI57
    have c59 : ct58 (30, 0, 0) = some (gI 1 6 G) := by rw [ect58, cup_ne (by simp)]; exact c44
    have c60 : ct58 (31, 0, 0) = some (gI 1 50 P) := by rw [ect58, cup_ne (by simp)]; exact c45
    have c61 : ct58 (32, 0, 0) = some (gI 1 12 Q) := by rw [ect58, cup_ne (by simp)]; exact c46
    have c62 : ct58 (33, 0, 0) = some (gI 1 20 E54) := by rw [ect58]; exact cup_eq
    have n63 : E54 (4 * n) = (t : Int) := by rw [eE54]; exact (gup_ne (by omega)).trans (n48)
    have n64 : E54 (4 * n + 1) = w7 := by rw [eE54]; exact (gup_ne (by omega)).trans (n49)
    have n65 : E54 (4 * n + 2) = w9 := by rw [eE54]; exact gup_eq
    have f66 : gh55 ga = some (gI 1 6 (G)) := by have h9_ := hR56.1 (30, 0, 0) _ c59; rw [hA15.2.1] at h9_; exact h9_
    have f67 : gh55 pa = some (gI 1 50 (P)) := by have h9_ := hR56.1 (31, 0, 0) _ c60; rw [hA15.2.2.1] at h9_; exact h9_
    have f68 : gh55 qa = some (gI 1 12 (Q)) := by have h9_ := hR56.1 (32, 0, 0) _ c61; rw [hA15.2.2.2.1] at h9_; exact h9_
    have f69 : gh55 ea = some (gI 1 20 (E54)) := by have h9_ := hR56.1 (33, 0, 0) _ c62; rw [hA15.2.2.2.2] at h9_; exact h9_
    refine g_ald_n hC dL_prints_96 rfl ?_
    refine g_iconst hC dL_prints_97 rfl ?_
    refine g_iload hC dL_prints_98 rfl ?_
    refine g_imul hC dL_prints_100 ?_
    refine g_iconst hC dL_prints_101 rfl ?_
    refine g_iadd hC dL_prints_102 ?_
    refine g_iload hC dL_prints_103 rfl ?_
    refine g_iastK hC (4 * n + 3) dL_prints_105 f69 (by omega) (by omega) (by omega) ?_
    obtain ⟨E70, eE70⟩ : ∃ y_, y_ = gup (E54) (4 * n + 3) (sg) := ⟨_, rfl⟩
    rw [← eE70]
    obtain ⟨gh71, egh71⟩ : ∃ g_, g_ = gset gh55 ea (gI 1 20 E70) := ⟨_, rfl⟩
    rw [← egh71]
    have hR72 := hR56.put c62 (gI 1 20 E70)
    rw [hA15.2.2.2.2, ← egh71] at hR72
    have hCI73 := hCI57.put (33, 0, 0) (by decide) (gI 1 20 E70)
    obtain ⟨ct74, ect74⟩ : ∃ y_, y_ = cup ct58 (33, 0, 0) (gI 1 20 E70) := ⟨_, rfl⟩
    rw [← ect74] at hR72 hCI73
    have c75 : ct74 (30, 0, 0) = some (gI 1 6 G) := by rw [ect74, cup_ne (by simp)]; exact c59
    have c76 : ct74 (31, 0, 0) = some (gI 1 50 P) := by rw [ect74, cup_ne (by simp)]; exact c60
    have c77 : ct74 (32, 0, 0) = some (gI 1 12 Q) := by rw [ect74, cup_ne (by simp)]; exact c61
    have c78 : ct74 (33, 0, 0) = some (gI 1 20 E70) := by rw [ect74]; exact cup_eq
    have n79 : E70 (4 * n) = (t : Int) := by rw [eE70]; exact (gup_ne (by omega)).trans (n63)
    have n80 : E70 (4 * n + 1) = w7 := by rw [eE70]; exact (gup_ne (by omega)).trans (n64)
    have n81 : E70 (4 * n + 2) = w9 := by rw [eE70]; exact (gup_ne (by omega)).trans (n65)
    have n82 : E70 (4 * n + 3) = sg := by rw [eE70]; exact gup_eq
    have f83 : gh71 ga = some (gI 1 6 (G)) := by have h9_ := hR72.1 (30, 0, 0) _ c75; rw [hA15.2.1] at h9_; exact h9_
    have f84 : gh71 pa = some (gI 1 50 (P)) := by have h9_ := hR72.1 (31, 0, 0) _ c76; rw [hA15.2.2.1] at h9_; exact h9_
    have f85 : gh71 qa = some (gI 1 12 (Q)) := by have h9_ := hR72.1 (32, 0, 0) _ c77; rw [hA15.2.2.2.1] at h9_; exact h9_
    have f86 : gh71 ea = some (gI 1 20 (E70)) := by have h9_ := hR72.1 (33, 0, 0) _ c78; rw [hA15.2.2.2.2] at h9_; exact h9_
    refine g_ald_n hC dL_prints_106 rfl ?_
    refine g_iconst hC dL_prints_107 rfl ?_
    refine g_dup2 hC dL_prints_108 rfl rfl ?_
    refine g_ialdK hC (2) dL_prints_109 f83 (by omega) (by omega) (by omega) ?_
    refine g_top (b := (n : Int)) (g2.trans hn) ?_
    refine g_iconst hC dL_prints_110 rfl ?_
    refine g_iadd hC dL_prints_111 ?_
    refine g_iastK hC (2) dL_prints_112 f83 (by omega) (by omega) (by omega) ?_
    obtain ⟨G87, eG87⟩ : ∃ y_, y_ = gup (G) (2) (((n : Int)) + (1)) := ⟨_, rfl⟩
    rw [← eG87]
    obtain ⟨gh88, egh88⟩ : ∃ g_, g_ = gset gh71 ga (gI 1 6 G87) := ⟨_, rfl⟩
    rw [← egh88]
    have hR89 := hR72.put c75 (gI 1 6 G87)
    rw [hA15.2.1, ← egh88] at hR89
    have hCI90 := hCI73.put (30, 0, 0) (by decide) (gI 1 6 G87)
    obtain ⟨ct91, ect91⟩ : ∃ y_, y_ = cup ct74 (30, 0, 0) (gI 1 6 G87) := ⟨_, rfl⟩
    rw [← ect91] at hR89 hCI90
    have c92 : ct91 (30, 0, 0) = some (gI 1 6 G87) := by rw [ect91]; exact cup_eq
    have c93 : ct91 (31, 0, 0) = some (gI 1 50 P) := by rw [ect91, cup_ne (by simp)]; exact c76
    have c94 : ct91 (32, 0, 0) = some (gI 1 12 Q) := by rw [ect91, cup_ne (by simp)]; exact c77
    have c95 : ct91 (33, 0, 0) = some (gI 1 20 E70) := by rw [ect91, cup_ne (by simp)]; exact c78
    have n96 : G87 (0) = z 3 := by rw [eG87]; exact (gup_ne (by omega)).trans (g0)
    have n97 : G87 (1) = z 11 := by rw [eG87]; exact (gup_ne (by omega)).trans (g1)
    have n98 : G87 (3) = z 0 := by rw [eG87]; exact (gup_ne (by omega)).trans (g3)
    have n99 : G87 (4) = z 1 := by rw [eG87]; exact (gup_ne (by omega)).trans (g4)
    have n100 : G87 (5) = G 5 := by rw [eG87]; exact (gup_ne (by omega)).trans (rfl)
    have n101 : G87 (2) = ((n : Int)) + (1) := by rw [eG87]; exact gup_eq
    have f102 : gh88 ga = some (gI 1 6 (G87)) := by have h9_ := hR89.1 (30, 0, 0) _ c92; rw [hA15.2.1] at h9_; exact h9_
    have f103 : gh88 pa = some (gI 1 50 (P)) := by have h9_ := hR89.1 (31, 0, 0) _ c93; rw [hA15.2.2.1] at h9_; exact h9_
    have f104 : gh88 qa = some (gI 1 12 (Q)) := by have h9_ := hR89.1 (32, 0, 0) _ c94; rw [hA15.2.2.2.1] at h9_; exact h9_
    have f105 : gh88 ea = some (gI 1 20 (E70)) := by have h9_ := hR89.1 (33, 0, 0) _ c95; rw [hA15.2.2.2.2] at h9_; exact h9_
    refine g_iload hC dL_prints_113 rfl ?_
    refine g_ald_n hC dL_prints_115 rfl ?_
    refine g_iconst hC dL_prints_116 rfl ?_
    refine g_ialdK hC (2) dL_prints_117 f102 (by omega) (by omega) (by omega) ?_
    refine g_top (b := ((n : Int)) + (1)) (n101) ?_
    refine g_iconst hC dL_prints_118 rfl ?_
    refine g_isub hC dL_prints_119 ?_
    refine g_icmp_ne (tgt := 159) hC dL_prints_120 (by decide) (by omega) (by omega) (fun c_120 => False.elim (by omega)) (fun c_120 => ?_)
    refine g_ald_n hC dL_prints_123 rfl ?_
    refine g_iload hC dL_prints_124 rfl ?_
    refine g_iload hC dL_prints_126 rfl ?_
    refine g_iload hC dL_prints_128 rfl ?_
    refine g_iload hC dL_prints_130 rfl ?_
    have s1 : (if (inB (n : Int) 0 (gup z 22 (z 22 + 1) 22 - 1) && (inB (t : Int) 0 (gup z 22 (z 22 + 1) 11 - 1) && (inB w7 0 23 && inB w9 0 39))) = true then printedV (prF z F) ((n : Int)).toNat ((t : Int)).toNat w7 w9 else -1000001) = sg := by
      rw [if_pos (by rw [inB_iff.mpr (by show 0 ≤ (n : Int) ∧ (n : Int) ≤ (z 22 + 1) - 1; omega), inB_iff.mpr (by show 0 ≤ (t : Int) ∧ (t : Int) ≤ z 11 - 1; omega), inB_iff.mpr (by omega), inB_iff.mpr (by omega)]; rfl), Int.toNat_natCast, Int.toNat_natCast, esg, show n = (z 22).toNat by omega]
      exact pv_new hI (by omega)
    refine g_callSW (rest := []) hC (kL_printed hl hCI90 hA15.1 (n : Int) (t : Int) w7 w9 (by omega) (by omega) (by omega) (by omega) gh88 hR89) gcw_105 rfl ⟨by decide, by decide⟩ ⟨by decide, by decide⟩ (Nat.le_of_ble_eq_true rfl) rfl dL_prints_132 (fun r g_ hp => ?_)
    obtain ⟨rfl, hgh⟩ := hp
    rw [hgh]
    clear hgh
    refine gV.eqs (st' := [vi (if (inB (n : Int) 0 (gup z 22 (z 22 + 1) 22 - 1) && (inB (t : Int) 0 (gup z 22 (z 22 + 1) 11 - 1) && (inB w7 0 23 && inB w9 0 39))) = true then printedV (prF z F) ((n : Int)).toNat ((t : Int)).toNat w7 w9 else -1000001)]) rfl rfl rfl ?_
    refine g_top (b := sg) s1 ?_
    refine g_iload hC dL_prints_135 rfl ?_
    refine g_icmp_ne (tgt := 159) hC dL_prints_137 (by decide) (by omega) (by omega) (fun c_137 => False.elim (by omega)) (fun c_137 => ?_)
    refine g_ald_n hC dL_prints_140 rfl ?_
    refine g_ald_n hC dL_prints_141 rfl ?_
    refine g_iconst hC dL_prints_142 rfl ?_
    refine g_ialdK hC (2) dL_prints_143 f102 (by omega) (by omega) (by omega) ?_
    refine g_top (b := ((n : Int)) + (1)) (n101) ?_
    refine g_iconst hC dL_prints_144 rfl ?_
    refine g_iconst hC dL_prints_145 rfl ?_
    refine g_iconst hC dL_prints_146 rfl ?_
    have s2 : (if (inB ((n : Int) + 1) 0 (gup z 22 (z 22 + 1) 22 - 1) && (inB (0 : Int) 0 (gup z 22 (z 22 + 1) 11 - 1) && (inB (0 : Int) 0 23 && inB (0 : Int) 0 39))) = true then printedV (prF z F) (((n : Int) + 1)).toNat ((0 : Int)).toNat (0 : Int) (0 : Int) else -1000001) = -1000001 := by
      rw [if_neg (by rw [show inB ((n : Int) + 1) 0 (gup z 22 (z 22 + 1) 22 - 1) = false from decide_eq_false (by show ¬ (0 ≤ (n : Int) + 1 ∧ (n : Int) + 1 ≤ (z 22 + 1) - 1); omega)]; exact Bool.noConfusion)]
    refine g_callSW (rest := []) hC (kL_printed hl hCI90 hA15.1 ((n : Int) + 1) 0 0 0 (by omega) (by decide) (by decide) (by decide) gh88 hR89) gcw_105 rfl ⟨by decide, by decide⟩ ⟨by decide, by decide⟩ (Nat.le_of_ble_eq_true rfl) rfl dL_prints_147 (fun r g_ hp => ?_)
    obtain ⟨rfl, hgh⟩ := hp
    rw [hgh]
    clear hgh
    refine gV.eqs (st' := [vi (if (inB ((n : Int) + 1) 0 (gup z 22 (z 22 + 1) 22 - 1) && (inB (0 : Int) 0 (gup z 22 (z 22 + 1) 11 - 1) && (inB (0 : Int) 0 23 && inB (0 : Int) 0 39))) = true then printedV (prF z F) (((n : Int) + 1)).toNat ((0 : Int)).toNat (0 : Int) (0 : Int) else -1000001)]) rfl rfl rfl ?_
    refine g_top (b := -1000001) s2 ?_
    refine g_ldcI (z := (-1000001)) hC dL_prints_150 gk_RL_32 (by decide +kernel) ?_
    refine g_icmp_ne (tgt := 159) hC dL_prints_152 (by decide) (by omega) (by omega) (fun c_152 => False.elim (by omega)) (fun c_152 => ?_)
    refine g_iconst hC dL_prints_155 rfl ?_
    refine g_goto (tgt := 160) hC dL_prints_156 (by decide) ?_
    exact g_bret (b := true) hC hq dL_prints_160 (by decide) (by decide) ⟨rfl, ad10, ct91, _, _, G87, P, Q, E70, hR89, ⟨hCI90, ⟨c92, c93, c94, c95⟩, by rw [eG87, eE70, eE54, eE39, eE25, esg]; exact lw_print hI hE hQ hLI.2.2 hn (by omega) (by omega) (by omega)⟩, hA15, Int.le_refl (z 3), Int.le_refl (z 11), Int.le_refl (z 0), by rw [n100]; exact Int.le_refl _⟩
  · rw [hgh]
    refine gV.eqs (st' := [vi ((-1000003))]) rfl rfl rfl ?_
    refine g_istore (lv' := [some (.ref oa), some (.ref ga), some (.ref ea), some (vi (c)), some (vi ((t : Int))), some (vi (w7)), some (vi (w9)), some (vi (sg)), some (vi ((-1000003)))]) hC dL_prints_46 (by decide) rfl ?_
    refine g_ald_n hC dL_prints_48 rfl ?_
    refine g_iconst hC dL_prints_49 rfl ?_
    refine g_ialdK hC (2) dL_prints_50 f1 (by omega) (by omega) (by omega) ?_
    refine g_top (b := (n : Int)) (g2.trans hn) ?_
    refine g_iconst hC dL_prints_51 rfl ?_
    refine g_icmp_ne (tgt := 68) hC dL_prints_52 (by decide) (by omega) (by omega) (fun c_52 => False.elim (by omega)) (fun c_52 => ?_)
    refine g_iload hC dL_prints_55 rfl ?_
    refine g_ldcI (z := (-1000003)) hC dL_prints_57 gk_RL_21 (by decide +kernel) ?_
    refine g_icmp_ne (tgt := 66) hC dL_prints_59 (by decide) (by omega) (by omega) (fun c_59 => False.elim (by omega)) (fun c_59 => ?_)
    refine g_iconst hC dL_prints_62 rfl ?_
    refine g_goto (tgt := 67) hC dL_prints_63 (by decide) ?_
    exact g_bret (b := true) hC hq dL_prints_67 (by decide) (by decide) ⟨rfl, ⟨ad, ct, z, F, G, P, Q, E, hR, hLI, hA, Int.le_refl _, Int.le_refl _, Int.le_refl _, Int.le_refl _⟩⟩

set_option maxHeartbeats 4000000 in
set_option maxRecDepth 100000 in
theorem kL_arePrinted {l : Launch} (hl : l.stackTraces = false) {D : gD} {base : Nat} {oa ga pa qa ea : Nat} {ad : Tg → Nat} {z : Nat → Int} {F : Nat → Nat → Int} {ct : Tg → Option gC} {G P Q E : Nat → Int} (hLI : LI ad z F ct G P Q E) (hA : lA ad oa ga pa qa ea) (gh : gH) (hR : cR ad ct gh) : gM l D base yL_arePrinted cL_arePrinted 5 (some Jvm.ClassFile.FieldType.boolean) 9 153 10 60 [.ref oa, .ref ga, .ref ea] gh (fun r gh' => r = some (vi 1) ∧ gh' = gh) gNo := by
  refine gM.of hl (by decide) (by simp [Value.category]) (Nat.le_of_ble_eq_true rfl) [some (.ref oa), some (.ref ga), some (.ref ea), none, none] rfl (fun x hC hq => ?_)
  obtain ⟨hCI, ⟨c30, c31, c32, c33⟩, ⟨g0, g1, g2, g3, g4, g5⟩, lP, lQ, lE⟩ := id hLI
  obtain ⟨hS, hI, hE, hQ, h10⟩ := id hCI
  obtain ⟨i0, i1, i3, i11, i22, iw, ip, inn, inm, ish⟩ := id hI
  have f1 : gh ga = some (gI 1 6 (G)) := by have h9_ := hR.1 (30, 0, 0) _ c30; rw [hA.2.1] at h9_; exact h9_
  have f2 : gh pa = some (gI 1 50 (P)) := by have h9_ := hR.1 (31, 0, 0) _ c31; rw [hA.2.2.1] at h9_; exact h9_
  have f3 : gh qa = some (gI 1 12 (Q)) := by have h9_ := hR.1 (32, 0, 0) _ c32; rw [hA.2.2.2.1] at h9_; exact h9_
  have f4 : gh ea = some (gI 1 20 (E)) := by have h9_ := hR.1 (33, 0, 0) _ c33; rw [hA.2.2.2.2] at h9_; exact h9_
  obtain ⟨m, hm⟩ : ∃ m : Nat, z 22 = (m : Int) := ⟨(z 22).toNat, by omega⟩
  refine g_iconst hC dL_arePrinted_0 rfl ?_
  refine g_istore_n (lv' := [some (.ref oa), some (.ref ga), some (.ref ea), some (vi (1)), none]) hC dL_arePrinted_1 (by decide) rfl ?_
  refine g_iconst hC dL_arePrinted_2 rfl ?_
  refine g_istore (lv' := [some (.ref oa), some (.ref ga), some (.ref ea), some (vi (1)), some (vi (0))]) hC dL_arePrinted_3 (by decide) rfl ?_
  have lp : ∀ n : Nat, n ≤ m → gV x D base 5 5 [some (.ref oa), some (.ref ga), some (.ref ea), some (vi (1)), some (vi ((n : Int)))] [] gh (2 * n) (12 * n) := by
    refine g_for _ (fun n hn ih => ?_) ?_
    · obtain ⟨⟨e1, e2⟩, ⟨e3, e4⟩, ⟨e5, e6⟩, e7⟩ := lE n (by omega)
      have e8 : 0 ≤ E (4 * n + 3) ∧ E (4 * n + 3) ≤ 122 := by rw [e7]; exact pv_rng hE (by omega)
      refine g_iload hC dL_arePrinted_5 rfl ?_
      refine g_ald_n hC dL_arePrinted_7 rfl ?_
      refine g_iconst hC dL_arePrinted_8 rfl ?_
      refine g_ialdK hC (2) dL_arePrinted_9 f1 (by omega) (by omega) (by omega) ?_
      refine g_top (b := (m : Int)) (g2.trans hm) ?_
      refine g_icmp_ge (tgt := 68) hC dL_arePrinted_10 (by decide) (by omega) (by omega) (fun c_10 => False.elim (by omega)) (fun c_10 => ?_)
      refine g_iload_n hC dL_arePrinted_13 rfl ?_
      refine g_if_eq (tgt := 68) hC dL_arePrinted_14 (by decide) (by omega) (fun c_14 => False.elim (by revert c_14; decide)) (fun c_14 => ?_)
      refine g_ald_n hC dL_arePrinted_17 rfl ?_
      refine g_iload hC dL_arePrinted_18 rfl ?_
      refine g_ald_n hC dL_arePrinted_20 rfl ?_
      refine g_iconst hC dL_arePrinted_21 rfl ?_
      refine g_iload hC dL_arePrinted_22 rfl ?_
      refine g_imul hC dL_arePrinted_24 ?_
      refine g_ialdK hC (4 * n) dL_arePrinted_25 f4 (by omega) (by omega) (by omega) ?_
      refine g_ald_n hC dL_arePrinted_26 rfl ?_
      refine g_iconst hC dL_arePrinted_27 rfl ?_
      refine g_iload hC dL_arePrinted_28 rfl ?_
      refine g_imul hC dL_arePrinted_30 ?_
      refine g_iconst hC dL_arePrinted_31 rfl ?_
      refine g_iadd hC dL_arePrinted_32 ?_
      refine g_ialdK hC (4 * n + 1) dL_arePrinted_33 f4 (by omega) (by omega) (by omega) ?_
      refine g_ald_n hC dL_arePrinted_34 rfl ?_
      refine g_iconst hC dL_arePrinted_35 rfl ?_
      refine g_iload hC dL_arePrinted_36 rfl ?_
      refine g_imul hC dL_arePrinted_38 ?_
      refine g_iconst hC dL_arePrinted_39 rfl ?_
      refine g_iadd hC dL_arePrinted_40 ?_
      refine g_ialdK hC (4 * n + 2) dL_arePrinted_41 f4 (by omega) (by omega) (by omega) ?_
      refine g_callSW (rest := []) hC (kL_printed hl hCI hA.1 (n : Int) (E (4 * n)) (E (4 * n + 1)) (E (4 * n + 2)) (by omega) (by omega) (by omega) (by omega) gh hR) gcw_105 rfl ⟨by decide, by decide⟩ ⟨by show 2 * n + 2 ≤ 10; omega, by show 12 * n + 12 ≤ 60; omega⟩ (Nat.le_of_ble_eq_true rfl) rfl dL_arePrinted_42 (fun r g_ hp => ?_)
      obtain ⟨rfl, hgh⟩ := hp
      rw [hgh]
      clear hgh
      refine gV.eqs (st' := [vi (if (inB (n : Int) 0 (z 22 - 1) && (inB (E (4 * n)) 0 (z 11 - 1) && (inB (E (4 * n + 1)) 0 23 && inB (E (4 * n + 2)) 0 39))) = true then printedV F ((n : Int)).toNat (E (4 * n)).toNat (E (4 * n + 1)) (E (4 * n + 2)) else -1000001)]) rfl rfl rfl ?_
      have s1 : (if (inB (n : Int) 0 (z 22 - 1) && (inB (E (4 * n)) 0 (z 11 - 1) && (inB (E (4 * n + 1)) 0 23 && inB (E (4 * n + 2)) 0 39))) = true then printedV F ((n : Int)).toNat (E (4 * n)).toNat (E (4 * n + 1)) (E (4 * n + 2)) else -1000001) = E (4 * n + 3) := by rw [if_pos (by rw [inB_iff.mpr (by omega), inB_iff.mpr (by omega), inB_iff.mpr (by omega), inB_iff.mpr (by omega)]; rfl), Int.toNat_natCast]; exact e7.symm
      refine g_top (b := E (4 * n + 3)) s1 ?_
      refine g_ald_n hC dL_arePrinted_45 rfl ?_
      refine g_iconst hC dL_arePrinted_46 rfl ?_
      refine g_iload hC dL_arePrinted_47 rfl ?_
      refine g_imul hC dL_arePrinted_49 ?_
      refine g_iconst hC dL_arePrinted_50 rfl ?_
      refine g_iadd hC dL_arePrinted_51 ?_
      refine g_ialdK hC (4 * n + 3) dL_arePrinted_52 f4 (by omega) (by omega) (by omega) ?_
      refine g_icmp_ne (tgt := 60) hC dL_arePrinted_53 (by decide) (by omega) (by omega) (fun c_53 => False.elim (by omega)) (fun c_53 => ?_)
      refine g_iconst hC dL_arePrinted_56 rfl ?_
      refine g_goto (tgt := 61) hC dL_arePrinted_57 (by decide) ?_
      refine g_istore_n (lv' := [some (.ref oa), some (.ref ga), some (.ref ea), some (vi (1)), some (vi ((n : Int)))]) hC dL_arePrinted_61 (by decide) rfl ?_
      refine g_iinc (lv' := [some (.ref oa), some (.ref ga), some (.ref ea), some (vi (1)), some (vi ((n : Int) + 1))]) hC dL_arePrinted_62 (by decide) rfl rfl ?_
      refine g_goto (tgt := 5) hC dL_arePrinted_65 (by decide) ?_
      refine gV.widen (k := 2 * (n + 1)) (n := 12 * (n + 1)) (by omega) (by omega) ?_
      exact gV.eqs (lv' := [some (.ref oa), some (.ref ga), some (.ref ea), some (vi (1)), some (vi (((n + 1 : Nat) : Int)))]) (lcons rfl (lcons rfl (lcons rfl (lcons rfl (lcons (svi (by omega)) rfl))))) rfl rfl ih
    · refine g_iload hC dL_arePrinted_5 rfl ?_
      refine g_ald_n hC dL_arePrinted_7 rfl ?_
      refine g_iconst hC dL_arePrinted_8 rfl ?_
      refine g_ialdK hC (2) dL_arePrinted_9 f1 (by omega) (by omega) (by omega) ?_
      refine g_top (b := (m : Int)) (g2.trans hm) ?_
      refine g_icmp_ge (tgt := 68) hC dL_arePrinted_10 (by decide) (by omega) (by omega) (fun c_10 => ?_) (fun c_10 => False.elim (by omega))
      refine g_iload_n hC dL_arePrinted_68 rfl ?_
      exact g_bret (b := true) hC hq dL_arePrinted_69 (by show 2 * m ≤ 10; omega) (by show 12 * m ≤ 60; omega) ⟨rfl, rfl⟩
  exact gV.eqs (lv' := [some (.ref oa), some (.ref ga), some (.ref ea), some (vi (1)), some (vi (((0 : Nat) : Int)))]) (lcons rfl (lcons rfl (lcons rfl (lcons rfl (lcons (svi (rfl)) rfl))))) rfl rfl (lp 0 (Nat.zero_le _))

end Q9
