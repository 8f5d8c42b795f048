/-! the law's cases: a call of the class beside the reference's -/
section C31
theorem goesN_rng {a b c : Bool} : 0 ≤ goesN a b c ∧ goesN a b c ≤ 3 := by cases a <;> cases b <;> cases c <;> decide
theorem goes_0 {a b c : Bool} (h : (a && b && c) = true) : goesN a b c = 0 := by cases a <;> cases b <;> cases c <;> first | rfl | cases h
theorem goes_ne {a b c : Bool} (h : ¬ (a && b && c) = true) : goesN a b c ≠ 0 := by cases a <;> cases b <;> cases c <;> first | decide | exact absurd rfl h
theorem gcw_letter : gCsW RL 66 yL_letter cL_letter 4 (some Jvm.ClassFile.FieldType.int) [((0 : Nat), (9 : Nat), (12 : Nat), (13 : Nat)), ((0 : Nat), (9 : Nat), (15 : Nat), (15 : Nat))] 3 := ⟨gwA_at 102 (by decide +kernel) rfl, gwA_at 100 (by decide +kernel) rfl, gwA_at 0 (by decide +kernel) rfl, gwA_at 101 (by decide +kernel) rfl, by decide +kernel, by decide +kernel, by decide +kernel⟩
theorem gcw_place : gCsW RL 75 yL_place cL_place 6 (some Jvm.ClassFile.FieldType.int) [((0 : Nat), (12 : Nat), (15 : Nat), (13 : Nat)), ((0 : Nat), (12 : Nat), (19 : Nat), (15 : Nat))] 5 := ⟨gwA_at 298 (by decide +kernel) rfl, gwA_at 296 (by decide +kernel) rfl, gwA_at 0 (by decide +kernel) rfl, gwA_at 297 (by decide +kernel) rfl, by decide +kernel, by decide +kernel, by decide +kernel⟩
theorem gcw_name : gCsW RL 79 yL_name cL_name 4 (some Jvm.ClassFile.FieldType.int) [((0 : Nat), (9 : Nat), (12 : Nat), (25 : Nat)), ((0 : Nat), (9 : Nat), (15 : Nat), (15 : Nat))] 3 := ⟨gwA_at 499 (by decide +kernel) rfl, gwA_at 497 (by decide +kernel) rfl, gwA_at 0 (by decide +kernel) rfl, gwA_at 498 (by decide +kernel) rfl, by decide +kernel, by decide +kernel, by decide +kernel⟩
theorem gcw_spelled : gCsW RL 83 yL_spelled cL_spelled 6 (some Jvm.ClassFile.FieldType.int) [((0 : Nat), (12 : Nat), (15 : Nat), (25 : Nat)), ((0 : Nat), (12 : Nat), (19 : Nat), (13 : Nat))] 5 := ⟨gwA_at 749 (by decide +kernel) rfl, gwA_at 747 (by decide +kernel) rfl, gwA_at 0 (by decide +kernel) rfl, gwA_at 748 (by decide +kernel) rfl, by decide +kernel, by decide +kernel, by decide +kernel⟩
theorem gcw_pass : gCsW RL 86 yL_pass cL_pass 4 (some Jvm.ClassFile.FieldType.int) [((0 : Nat), (9 : Nat), (12 : Nat), (13 : Nat)), ((0 : Nat), (9 : Nat), (15 : Nat), (15 : Nat))] 3 := ⟨gwA_at 761 (by decide +kernel) rfl, gwA_at 759 (by decide +kernel) rfl, gwA_at 0 (by decide +kernel) rfl, gwA_at 760 (by decide +kernel) rfl, by decide +kernel, by decide +kernel, by decide +kernel⟩
theorem gcw_sheet : gCsW RL 89 yL_sheet cL_sheet 6 (some Jvm.ClassFile.FieldType.int) [((0 : Nat), (12 : Nat), (15 : Nat), (13 : Nat)), ((0 : Nat), (12 : Nat), (19 : Nat), (15 : Nat))] 5 := ⟨gwA_at 770 (by decide +kernel) rfl, gwA_at 768 (by decide +kernel) rfl, gwA_at 0 (by decide +kernel) rfl, gwA_at 769 (by decide +kernel) rfl, by decide +kernel, by decide +kernel, by decide +kernel⟩
theorem gcw_dot : gCsW RL 92 yL_dot cL_dot 6 (some Jvm.ClassFile.FieldType.int) [((0 : Nat), (12 : Nat), (15 : Nat), (25 : Nat))] 5 := ⟨gwA_at 825 (by decide +kernel) rfl, gwA_at 823 (by decide +kernel) rfl, gwA_at 0 (by decide +kernel) rfl, gwA_at 824 (by decide +kernel) rfl, by decide +kernel, by decide +kernel, by decide +kernel⟩
theorem gcw_side : gCsW RL 96 yL_side cL_side 5 (some Jvm.ClassFile.FieldType.int) [((0 : Nat), (10 : Nat), (13 : Nat), (25 : Nat))] 4 := ⟨gwA_at 845 (by decide +kernel) rfl, gwA_at 843 (by decide +kernel) rfl, gwA_at 0 (by decide +kernel) rfl, gwA_at 844 (by decide +kernel) rfl, by decide +kernel, by decide +kernel, by decide +kernel⟩
theorem gcw_drawn : gCsW RL 100 yL_drawn cL_drawn 6 (some Jvm.ClassFile.FieldType.int) [((0 : Nat), (12 : Nat), (15 : Nat), (25 : Nat))] 5 := ⟨gwA_at 852 (by decide +kernel) rfl, gwA_at 850 (by decide +kernel) rfl, gwA_at 0 (by decide +kernel) rfl, gwA_at 851 (by decide +kernel) rfl, by decide +kernel, by decide +kernel, by decide +kernel⟩
theorem gcw_worth : gCsW RL 103 yL_worth cL_worth 4 (some Jvm.ClassFile.FieldType.int) [((0 : Nat), (9 : Nat), (12 : Nat), (25 : Nat))] 3 := ⟨gwA_at 862 (by decide +kernel) rfl, gwA_at 860 (by decide +kernel) rfl, gwA_at 0 (by decide +kernel) rfl, gwA_at 861 (by decide +kernel) rfl, by decide +kernel, by decide +kernel, by decide +kernel⟩
theorem gcw_best : gCsW RL 106 yL_best cL_best 4 (some Jvm.ClassFile.FieldType.int) [((0 : Nat), (9 : Nat), (12 : Nat), (25 : Nat)), ((0 : Nat), (9 : Nat), (15 : Nat), (15 : Nat))] 3 := ⟨gwA_at 873 (by decide +kernel) rfl, gwA_at 871 (by decide +kernel) rfl, gwA_at 0 (by decide +kernel) rfl, gwA_at 872 (by decide +kernel) rfl, by decide +kernel, by decide +kernel, by decide +kernel⟩
theorem gcw_print : gCsW RL 109 yL_print cL_print 3 (some Jvm.ClassFile.FieldType.int) [((0 : Nat), (8 : Nat), (11 : Nat), (15 : Nat))] 2 := ⟨gwA_at 902 (by decide +kernel) rfl, gwA_at 900 (by decide +kernel) rfl, gwA_at 0 (by decide +kernel) rfl, gwA_at 901 (by decide +kernel) rfl, by decide +kernel, by decide +kernel, by decide +kernel⟩
theorem gcw_printed : gCsW RL 113 yL_printed cL_printed 7 (some Jvm.ClassFile.FieldType.int) [((0 : Nat), (14 : Nat), (17 : Nat), (25 : Nat))] 6 := ⟨gwA_at 930 (by decide +kernel) rfl, gwA_at 928 (by decide +kernel) rfl, gwA_at 0 (by decide +kernel) rfl, gwA_at 929 (by decide +kernel) rfl, by decide +kernel, by decide +kernel, by decide +kernel⟩
set_option maxHeartbeats 4000000 in
set_option maxRecDepth 100000 in
theorem lc_letter {x : gX} {l : Launch} (hl : l.stackTraces = false) {D : gD} {base : Nat} (hC : gK x l D base 7 RL cL_law room_1) {b L : Nat} {xs : Nat → Int32} (hX : gScr x base b L xs) (hL : L ≤ 2560) {i : Nat} (hi : i + 5 ≤ L) {ad : Tg → Nat} {z : Nat → Int} {F : Nat → Nat → Int} {ct : Tg → Option gC} {gh : gH} (hR : cR ad ct gh) (hLI : LI ad z F ct) {cells slots : Nat} (hcl : cells + 21 ≤ 601024) (hsl : slots + 3849 ≤ 7293034)
    (kk : ∀ (gh2 : gH) (ad2 : Tg → Nat) (ct2 : Tg → Option gC) (z2 : Nat → Int) (F2 : Nat → Nat → Int), cR ad2 ct2 gh2 → LI ad2 z2 F2 ct2 → ad2 (2, 0, 0) = ad (2, 0, 0) → ad2 (0, 0, 0) = ad (0, 0, 0) → ad2 (30, 0, 0) = ad (30, 0, 0) → gV x D base 7 1006 [some (.ref b), some (.ref (ad (2, 0, 0))), some (.ref (ad (0, 0, 0))), some (.ref (ad (30, 0, 0))), some (vi (i : Int)), none, none] [] gh2 (cells + 21) (slots + 3849)) : gV x D base 7 104 [some (.ref b), some (.ref (ad (2, 0, 0))), some (.ref (ad (0, 0, 0))), some (.ref (ad (30, 0, 0))), some (vi ((i : Int))), none, none] [] gh cells slots := by
  obtain ⟨hS, hM, hI, hE, hQ, f0, ho⟩ := hLI
  have r1 := iI_rng (xs (i + 1))
  have r2 := iI_rng (xs (i + 2))
  have r3 := iI_rng (xs (i + 3))
  have r4 := iI_rng (xs (i + 4))
  refine g_ald_n hC dL_law_104 rfl ?_
  refine g_ald_n hC dL_law_105 rfl ?_
  refine g_iload hC dL_law_106 rfl ?_
  refine g_iconst hC dL_law_108 rfl ?_
  refine g_iadd hC dL_law_109 ?_
  refine g_sld hC hX (by omega) (i + 1) (by omega) (by omega) dL_law_110 ?_
  refine g_i2c (b := (xs (i + 1)).toInt % 65536) hC dL_law_111 (iI_i2cC (by omega)) ?_
  refine g_ald_n hC dL_law_112 rfl ?_
  refine g_callSW (rest := []) hC (kL_letter hl hI hS hE hQ ((xs (i + 1)).toInt % 65536) (by omega) ho gh hR) gcw_letter rfl ⟨by decide, by decide⟩ ⟨by show cells + 1 ≤ 601024; omega, by show slots + 6 ≤ 7293034; omega⟩ (Nat.le_of_ble_eq_true rfl) rfl dL_law_113 (fun r g1 hp => ?_)
  obtain ⟨rfl, ad1, ct1, f1, h1R, hlo, ex, eo, ho1, hif⟩ := hp
  obtain ⟨kv, ekv⟩ : ∃ kv : Int, kv = goesN (inB ((xs (i + 1)).toInt % 65536) 97 122) (decide (z 1 < 8)) true := ⟨_, rfl⟩
  rw [← ekv]
  have hkr := goesN_rng (a := (inB ((xs (i + 1)).toInt % 65536) 97 122)) (b := (decide (z 1 < 8))) (c := true)
  rw [← ekv] at hkr
  refine gV.eqs (st' := [vi kv]) rfl rfl rfl ?_
  have e0 := (hlo (0, 0, 0) (Nat.zero_le 1)).2
  have hM1 := hM.fr hlo
  have hrep := hM1.rep h1R
  rw [e0] at hrep
  refine g_istore (lv' := [some (.ref b), some (.ref (ad (2, 0, 0))), some (.ref (ad (0, 0, 0))), some (.ref (ad (30, 0, 0))), some (vi ((i : Int))), some (vi (kv)), none]) hC dL_law_116 (by decide) rfl ?_
  refine g_ald_n hC dL_law_118 rfl ?_
  refine g_ald_n hC dL_law_119 rfl ?_
  refine g_iload hC dL_law_120 rfl ?_
  refine g_iconst hC dL_law_122 rfl ?_
  refine g_iadd hC dL_law_123 ?_
  refine g_sld hC hX (by omega) (i + 1) (by omega) (by omega) dL_law_124 ?_
  refine g_i2c (b := (xs (i + 1)).toInt % 65536) hC dL_law_125 (iI_i2cC (by omega)) ?_
  refine g_callV (rest := []) hC (kX7_letter hl hI ((xs (i + 1)).toInt % 65536) (by omega) g1 hrep) gc_RL_71 rfl hrep.1 rfl ⟨by decide, by decide⟩ ⟨by show cells + 1 + 0 ≤ 601024; omega, by show slots + 6 + 0 ≤ 7293034; omega⟩ (Nat.le_of_ble_eq_true rfl) rfl dL_law_126 (fun r g2 hp => ?_)
  obtain ⟨z2, F2, hp, h3, h4⟩ := hp
  rw [← e0] at h3 h4
  obtain ⟨ct2, h2R, hM2, hc2⟩ := hM1.mod h1R h3 h4
  have hrep2 := hM2.rep h2R
  rw [e0] at hrep2
  by_cases hc : ((inB ((xs (i + 1)).toInt % 65536) 97 122) && (decide (z 1 < 8)) && true) = true
  · rw [if_pos hc] at hp hif
    obtain ⟨rfl, hz, hF⟩ := hp
    obtain ⟨hST1, hf1⟩ := hif
    have hz27 : z2 27 = kv := by rw [hz, ekv]; rfl
    have hsc : mSc (gup z 1 (z 1 + 1)) (gup F 2 (gup (F 2) (z 1).toNat ((xs (i + 1)).toInt % 65536))) z2 F2 := by rw [hz, hF]; exact mSc_up
    have hk0 : kv = 0 := by rw [ekv]; exact goes_0 hc
    obtain ⟨hAB, -⟩ := (Bool.and_eq_true _ _).mp hc
    obtain ⟨hA, hB⟩ := (Bool.and_eq_true _ _).mp hAB
    have hI1 : mI (gup z 1 (z 1 + 1)) (gup F 2 (gup (F 2) (z 1).toNat ((xs (i + 1)).toInt % 65536))) := mI_letter hI (inB_t hA) (of_decide_eq_true hB)
    have hED : mE (gup z 1 (z 1 + 1)) (gup F 2 (gup (F 2) (z 1).toNat ((xs (i + 1)).toInt % 65536))) ∧ eQ (gup z 1 (z 1 + 1)) (gup F 2 (gup (F 2) (z 1).toNat ((xs (i + 1)).toInt % 65536))) := ed_letter hI hE hQ
    refine gV.eqs (st' := [vi (z 1 + 1)]) rfl rfl rfl ?_
    obtain ⟨bv, ebv⟩ : ∃ bv : Int, bv = z 1 + 1 := ⟨_, rfl⟩
    rw [← ebv]
    refine g_istore (lv' := [some (.ref b), some (.ref (ad (2, 0, 0))), some (.ref (ad (0, 0, 0))), some (.ref (ad (30, 0, 0))), some (vi ((i : Int))), some (vi (kv)), some (vi (bv))]) hC dL_law_129 (by decide) rfl ?_
    refine g_ald_n hC dL_law_131 rfl ?_
    refine g_callV (rest := []) hC (kX7_thrown hl g2 hrep2) gc_RL_72 rfl hrep2.1 rfl ⟨by decide, by decide⟩ ⟨by show cells + 1 + 0 + 0 ≤ 601024; omega, by show slots + 6 + 0 + 0 ≤ 7293034; omega⟩ (Nat.le_of_ble_eq_true rfl) rfl dL_law_132 (fun r g3 hp => ?_)
    obtain ⟨z3, F3, ⟨rfl, hz3, hF3⟩, h5, h6⟩ := hp
    rw [hz3, hF3] at h5
    rw [← e0] at h5 h6
    obtain ⟨ct3, h3R, hM3, hc3⟩ := hM2.mod h2R h5 h6
    rw [hz27]
    refine gV.eqs (st' := [vi kv]) rfl rfl rfl ?_
    refine g_iload hC dL_law_135 rfl ?_
    refine g_icmp_eq (tgt := 142) hC dL_law_137 (by decide) (by omega) (by omega) (fun c_137 => ?_) (fun c_137 => False.elim (by omega))
    refine g_iload hC dL_law_142 rfl ?_
    have hc31 : ∀ t : Tg, 2 ≤ t.1 → ct3 t = ct1 t := fun t ht => by rw [hc3 t ht, hc2 t ht]
    refine g_if_ne (tgt := 159) hC dL_law_144 (by decide) (by omega) (fun c_144 => False.elim (by omega)) (fun c_144 => ?_)
    have hout : g3 (ad (30, 0, 0)) = some (gL 3 1 f1) := by have h9_ := h3R.1 (30, 0, 0) _ ((hc31 _ (by decide)).trans ho1); rw [eo] at h9_; exact h9_
    refine g_ald_n hC dL_law_147 rfl ?_
    refine g_iconst hC dL_law_148 rfl ?_
    refine g_lald hC dL_law_149 hout (by decide) (by decide) ?_
    refine gV.eqs (st' := [.long (iI bv).toInt64]) rfl (by rw [ebv, ← hf1]; rfl) rfl ?_
    refine g_iload hC dL_law_150 rfl ?_
    refine g_i2l hC dL_law_152 ?_
    refine g_lcmpE hC dL_law_153 ?_
    refine g_if_eq (tgt := 159) hC dL_law_154 (by decide) (by omega) (fun c_154 => ?_) (fun c_154 => False.elim (by omega))
    refine g_goto (tgt := 1006) hC dL_law_159 (by decide) ?_
    refine gV.drop (lv' := [some (.ref b), some (.ref (ad (2, 0, 0))), some (.ref (ad (0, 0, 0))), some (.ref (ad (30, 0, 0))), some (vi ((i : Int))), none, none]) (by intro k v hk; match k, hk with | 0, hk => exact hk | 1, hk => exact hk | 2, hk => exact hk | 3, hk => exact hk | 4, hk => exact hk | 5, hk => exact absurd hk (by simp) | 6, hk => exact absurd hk (by simp) | k + 7, hk => exact absurd hk (by simp)) ?_
    refine gV.widen (k := cells + 21) (n := slots + 3849) (by omega) (by omega) ?_
    exact kk g3 ad1 ct3 z2 F2 h3R (LI.mk (hST1.fr (fun t h1 _ => hc31 t h1)) hM3 hI1 hED.1 hED.2 hsc ⟨f1, (hc31 _ (by decide)).trans ho1⟩) ex e0 eo
  · rw [if_neg hc] at hp hif
    obtain ⟨rfl, hz, hF⟩ := hp
    have hz27 : z2 27 = kv := by rw [hz, ekv]; rfl
    have hsc : mSc z F z2 F2 := by rw [hz, hF]; exact mSc.rf
    have hk0 : kv ≠ 0 := by rw [ekv]; exact goes_ne hc
    refine gV.eqs (st' := [vi (0)]) rfl rfl rfl ?_
    obtain ⟨bv, ebv⟩ : ∃ bv : Int, bv = 0 := ⟨_, rfl⟩
    rw [← ebv]
    refine g_istore (lv' := [some (.ref b), some (.ref (ad (2, 0, 0))), some (.ref (ad (0, 0, 0))), some (.ref (ad (30, 0, 0))), some (vi ((i : Int))), some (vi (kv)), some (vi (bv))]) hC dL_law_129 (by decide) rfl ?_
    refine g_ald_n hC dL_law_131 rfl ?_
    refine g_callV (rest := []) hC (kX7_thrown hl g2 hrep2) gc_RL_72 rfl hrep2.1 rfl ⟨by decide, by decide⟩ ⟨by show cells + 1 + 0 + 0 ≤ 601024; omega, by show slots + 6 + 0 + 0 ≤ 7293034; omega⟩ (Nat.le_of_ble_eq_true rfl) rfl dL_law_132 (fun r g3 hp => ?_)
    obtain ⟨z3, F3, ⟨rfl, hz3, hF3⟩, h5, h6⟩ := hp
    rw [hz3, hF3] at h5
    rw [← e0] at h5 h6
    obtain ⟨ct3, h3R, hM3, hc3⟩ := hM2.mod h2R h5 h6
    rw [hz27]
    refine gV.eqs (st' := [vi kv]) rfl rfl rfl ?_
    refine g_iload hC dL_law_135 rfl ?_
    refine g_icmp_eq (tgt := 142) hC dL_law_137 (by decide) (by omega) (by omega) (fun c_137 => ?_) (fun c_137 => False.elim (by omega))
    refine g_iload hC dL_law_142 rfl ?_
    have hc31 : ∀ t : Tg, 2 ≤ t.1 → ct3 t = ct1 t := fun t ht => by rw [hc3 t ht, hc2 t ht]
    refine g_if_ne (tgt := 159) hC dL_law_144 (by decide) (by omega) (fun c_144 => ?_) (fun c_144 => False.elim (by omega))
    refine g_goto (tgt := 1006) hC dL_law_159 (by decide) ?_
    refine gV.drop (lv' := [some (.ref b), some (.ref (ad (2, 0, 0))), some (.ref (ad (0, 0, 0))), some (.ref (ad (30, 0, 0))), some (vi ((i : Int))), none, none]) (by intro k v hk; match k, hk with | 0, hk => exact hk | 1, hk => exact hk | 2, hk => exact hk | 3, hk => exact hk | 4, hk => exact hk | 5, hk => exact absurd hk (by simp) | 6, hk => exact absurd hk (by simp) | k + 7, hk => exact absurd hk (by simp)) ?_
    refine gV.widen (k := cells + 21) (n := slots + 3849) (by omega) (by omega) ?_
    exact kk g3 ad1 ct3 z2 F2 h3R (LI.mk (hif.fr (fun t h1 _ => hc31 t h1)) hM3 hI hE hQ hsc ⟨f1, (hc31 _ (by decide)).trans ho1⟩) ex e0 eo

set_option maxHeartbeats 4000000 in
set_option maxRecDepth 100000 in
theorem lc_place {x : gX} {l : Launch} (hl : l.stackTraces = false) {D : gD} {base : Nat} (hC : gK x l D base 7 RL cL_law room_1) {b L : Nat} {xs : Nat → Int32} (hX : gScr x base b L xs) (hL : L ≤ 2560) {i : Nat} (hi : i + 5 ≤ L) {ad : Tg → Nat} {z : Nat → Int} {F : Nat → Nat → Int} {ct : Tg → Option gC} {gh : gH} (hR : cR ad ct gh) (hLI : LI ad z F ct) {cells slots : Nat} (hcl : cells + 21 ≤ 601024) (hsl : slots + 3849 ≤ 7293034)
    (kk : ∀ (gh2 : gH) (ad2 : Tg → Nat) (ct2 : Tg → Option gC) (z2 : Nat → Int) (F2 : Nat → Nat → Int), cR ad2 ct2 gh2 → LI ad2 z2 F2 ct2 → ad2 (2, 0, 0) = ad (2, 0, 0) → ad2 (0, 0, 0) = ad (0, 0, 0) → ad2 (30, 0, 0) = ad (30, 0, 0) → gV x D base 7 1006 [some (.ref b), some (.ref (ad (2, 0, 0))), some (.ref (ad (0, 0, 0))), some (.ref (ad (30, 0, 0))), some (vi (i : Int)), none, none] [] gh2 (cells + 21) (slots + 3849)) : gV x D base 7 162 [some (.ref b), some (.ref (ad (2, 0, 0))), some (.ref (ad (0, 0, 0))), some (.ref (ad (30, 0, 0))), some (vi ((i : Int))), none, none] [] gh cells slots := by
  obtain ⟨hS, hM, hI, hE, hQ, f0, ho⟩ := hLI
  have r1 := iI_rng (xs (i + 1))
  have r2 := iI_rng (xs (i + 2))
  have r3 := iI_rng (xs (i + 3))
  have r4 := iI_rng (xs (i + 4))
  refine g_ald_n hC dL_law_162 rfl ?_
  refine g_ald_n hC dL_law_163 rfl ?_
  refine g_iload hC dL_law_164 rfl ?_
  refine g_iconst hC dL_law_166 rfl ?_
  refine g_iadd hC dL_law_167 ?_
  refine g_sld hC hX (by omega) (i + 1) (by omega) (by omega) dL_law_168 ?_
  refine g_ald_n hC dL_law_169 rfl ?_
  refine g_iload hC dL_law_170 rfl ?_
  refine g_iconst hC dL_law_172 rfl ?_
  refine g_iadd hC dL_law_173 ?_
  refine g_sld hC hX (by omega) (i + 2) (by omega) (by omega) dL_law_174 ?_
  refine g_ald_n hC dL_law_175 rfl ?_
  refine g_iload hC dL_law_176 rfl ?_
  refine g_iconst hC dL_law_178 rfl ?_
  refine g_iadd hC dL_law_179 ?_
  refine g_sld hC hX (by omega) (i + 3) (by omega) (by omega) dL_law_180 ?_
  refine g_ald_n hC dL_law_181 rfl ?_
  refine g_callSW (rest := []) hC (kL_place hl hI hS hE hQ ((xs (i + 1)).toInt) ((xs (i + 2)).toInt) ((xs (i + 3)).toInt) (by omega) (by omega) (by omega) ho gh hR) gcw_place rfl ⟨by decide, by decide⟩ ⟨by show cells + 6 ≤ 601024; omega, by show slots + 39 ≤ 7293034; omega⟩ (Nat.le_of_ble_eq_true rfl) rfl dL_law_182 (fun r g1 hp => ?_)
  obtain ⟨rfl, ad1, ct1, f1, h1R, hlo, ex, eo, ho1, hif⟩ := hp
  obtain ⟨kv, ekv⟩ : ∃ kv : Int, kv = goesN (inB ((xs (i + 1)).toInt) (-180) 179 && inB ((xs (i + 2)).toInt) (-60) 60 && inB ((xs (i + 3)).toInt) (1) 5) (decide (z 3 < 14)) true := ⟨_, rfl⟩
  rw [← ekv]
  have hkr := goesN_rng (a := (inB ((xs (i + 1)).toInt) (-180) 179 && inB ((xs (i + 2)).toInt) (-60) 60 && inB ((xs (i + 3)).toInt) (1) 5)) (b := (decide (z 3 < 14))) (c := true)
  rw [← ekv] at hkr
  refine gV.eqs (st' := [vi kv]) rfl rfl rfl ?_
  have e0 := (hlo (0, 0, 0) (Nat.zero_le 1)).2
  have hM1 := hM.fr hlo
  have hrep := hM1.rep h1R
  rw [e0] at hrep
  refine g_istore (lv' := [some (.ref b), some (.ref (ad (2, 0, 0))), some (.ref (ad (0, 0, 0))), some (.ref (ad (30, 0, 0))), some (vi ((i : Int))), some (vi (kv)), none]) hC dL_law_185 (by decide) rfl ?_
  refine g_ald_n hC dL_law_187 rfl ?_
  refine g_ald_n hC dL_law_188 rfl ?_
  refine g_iload hC dL_law_189 rfl ?_
  refine g_iconst hC dL_law_191 rfl ?_
  refine g_iadd hC dL_law_192 ?_
  refine g_sld hC hX (by omega) (i + 1) (by omega) (by omega) dL_law_193 ?_
  refine g_ald_n hC dL_law_194 rfl ?_
  refine g_iload hC dL_law_195 rfl ?_
  refine g_iconst hC dL_law_197 rfl ?_
  refine g_iadd hC dL_law_198 ?_
  refine g_sld hC hX (by omega) (i + 2) (by omega) (by omega) dL_law_199 ?_
  refine g_ald_n hC dL_law_200 rfl ?_
  refine g_iload hC dL_law_201 rfl ?_
  refine g_iconst hC dL_law_203 rfl ?_
  refine g_iadd hC dL_law_204 ?_
  refine g_sld hC hX (by omega) (i + 3) (by omega) (by omega) dL_law_205 ?_
  refine g_callV (rest := []) hC (kX7_place hl hI ((xs (i + 1)).toInt) ((xs (i + 2)).toInt) ((xs (i + 3)).toInt) (by omega) (by omega) (by omega) g1 hrep) gc_RL_78 rfl hrep.1 rfl ⟨by decide, by decide⟩ ⟨by show cells + 6 + 0 ≤ 601024; omega, by show slots + 39 + 0 ≤ 7293034; omega⟩ (Nat.le_of_ble_eq_true rfl) rfl dL_law_206 (fun r g2 hp => ?_)
  obtain ⟨z2, F2, hp, h3, h4⟩ := hp
  rw [← e0] at h3 h4
  obtain ⟨ct2, h2R, hM2, hc2⟩ := hM1.mod h1R h3 h4
  have hrep2 := hM2.rep h2R
  rw [e0] at hrep2
  by_cases hc : ((inB ((xs (i + 1)).toInt) (-180) 179 && inB ((xs (i + 2)).toInt) (-60) 60 && inB ((xs (i + 3)).toInt) (1) 5) && (decide (z 3 < 14)) && true) = true
  · rw [if_pos hc] at hp hif
    obtain ⟨rfl, hz, hF⟩ := hp
    obtain ⟨hST1, hf1⟩ := hif
    have hz27 : z2 27 = kv := by rw [hz, ekv]; rfl
    have hsc : mSc (gup z 3 (z 3 + 1)) (plF z F ((xs (i + 1)).toInt) ((xs (i + 2)).toInt) ((xs (i + 3)).toInt)) z2 F2 := by rw [hz, hF]; exact mSc_up
    have hk0 : kv = 0 := by rw [ekv]; exact goes_0 hc
    obtain ⟨hAB, -⟩ := (Bool.and_eq_true _ _).mp hc
    obtain ⟨hA, hB⟩ := (Bool.and_eq_true _ _).mp hAB
    obtain ⟨hA12, hA3⟩ := (Bool.and_eq_true _ _).mp hA
    obtain ⟨hA1, hA2⟩ := (Bool.and_eq_true _ _).mp hA12
    have hI1 : mI (gup z 3 (z 3 + 1)) (plF z F ((xs (i + 1)).toInt) ((xs (i + 2)).toInt) ((xs (i + 3)).toInt)) := mI_place hI (inB_t hA1) (inB_t hA2) (inB_t hA3) (of_decide_eq_true hB)
    have hED : mE (gup z 3 (z 3 + 1)) (plF z F ((xs (i + 1)).toInt) ((xs (i + 2)).toInt) ((xs (i + 3)).toInt)) ∧ eQ (gup z 3 (z 3 + 1)) (plF z F ((xs (i + 1)).toInt) ((xs (i + 2)).toInt) ((xs (i + 3)).toInt)) := ed_place hI hE hQ
    refine gV.eqs (st' := [vi (z 3)]) rfl rfl rfl ?_
    obtain ⟨bv, ebv⟩ : ∃ bv : Int, bv = z 3 := ⟨_, rfl⟩
    rw [← ebv]
    refine g_istore (lv' := [some (.ref b), some (.ref (ad (2, 0, 0))), some (.ref (ad (0, 0, 0))), some (.ref (ad (30, 0, 0))), some (vi ((i : Int))), some (vi (kv)), some (vi (bv))]) hC dL_law_209 (by decide) rfl ?_
    refine g_ald_n hC dL_law_211 rfl ?_
    refine g_callV (rest := []) hC (kX7_thrown hl g2 hrep2) gc_RL_72 rfl hrep2.1 rfl ⟨by decide, by decide⟩ ⟨by show cells + 6 + 0 + 0 ≤ 601024; omega, by show slots + 39 + 0 + 0 ≤ 7293034; omega⟩ (Nat.le_of_ble_eq_true rfl) rfl dL_law_212 (fun r g3 hp => ?_)
    obtain ⟨z3, F3, ⟨rfl, hz3, hF3⟩, h5, h6⟩ := hp
    rw [hz3, hF3] at h5
    rw [← e0] at h5 h6
    obtain ⟨ct3, h3R, hM3, hc3⟩ := hM2.mod h2R h5 h6
    rw [hz27]
    refine gV.eqs (st' := [vi kv]) rfl rfl rfl ?_
    refine g_iload hC dL_law_215 rfl ?_
    refine g_icmp_eq (tgt := 222) hC dL_law_217 (by decide) (by omega) (by omega) (fun c_217 => ?_) (fun c_217 => False.elim (by omega))
    refine g_iload hC dL_law_222 rfl ?_
    have hc31 : ∀ t : Tg, 2 ≤ t.1 → ct3 t = ct1 t := fun t ht => by rw [hc3 t ht, hc2 t ht]
    refine g_if_ne (tgt := 239) hC dL_law_224 (by decide) (by omega) (fun c_224 => False.elim (by omega)) (fun c_224 => ?_)
    have hout : g3 (ad (30, 0, 0)) = some (gL 3 1 f1) := by have h9_ := h3R.1 (30, 0, 0) _ ((hc31 _ (by decide)).trans ho1); rw [eo] at h9_; exact h9_
    refine g_ald_n hC dL_law_227 rfl ?_
    refine g_iconst hC dL_law_228 rfl ?_
    refine g_lald hC dL_law_229 hout (by decide) (by decide) ?_
    refine gV.eqs (st' := [.long (iI bv).toInt64]) rfl (by rw [ebv, ← hf1]; rfl) rfl ?_
    refine g_iload hC dL_law_230 rfl ?_
    refine g_i2l hC dL_law_232 ?_
    refine g_lcmpE hC dL_law_233 ?_
    refine g_if_eq (tgt := 239) hC dL_law_234 (by decide) (by omega) (fun c_234 => ?_) (fun c_234 => False.elim (by omega))
    refine g_goto (tgt := 1006) hC dL_law_239 (by decide) ?_
    refine gV.drop (lv' := [some (.ref b), some (.ref (ad (2, 0, 0))), some (.ref (ad (0, 0, 0))), some (.ref (ad (30, 0, 0))), some (vi ((i : Int))), none, none]) (by intro k v hk; match k, hk with | 0, hk => exact hk | 1, hk => exact hk | 2, hk => exact hk | 3, hk => exact hk | 4, hk => exact hk | 5, hk => exact absurd hk (by simp) | 6, hk => exact absurd hk (by simp) | k + 7, hk => exact absurd hk (by simp)) ?_
    refine gV.widen (k := cells + 21) (n := slots + 3849) (by omega) (by omega) ?_
    exact kk g3 ad1 ct3 z2 F2 h3R (LI.mk (hST1.fr (fun t h1 _ => hc31 t h1)) hM3 hI1 hED.1 hED.2 hsc ⟨f1, (hc31 _ (by decide)).trans ho1⟩) ex e0 eo
  · rw [if_neg hc] at hp hif
    obtain ⟨rfl, hz, hF⟩ := hp
    have hz27 : z2 27 = kv := by rw [hz, ekv]; rfl
    have hsc : mSc z F z2 F2 := by rw [hz, hF]; exact mSc.rf
    have hk0 : kv ≠ 0 := by rw [ekv]; exact goes_ne hc
    refine gV.eqs (st' := [vi (0)]) rfl rfl rfl ?_
    obtain ⟨bv, ebv⟩ : ∃ bv : Int, bv = 0 := ⟨_, rfl⟩
    rw [← ebv]
    refine g_istore (lv' := [some (.ref b), some (.ref (ad (2, 0, 0))), some (.ref (ad (0, 0, 0))), some (.ref (ad (30, 0, 0))), some (vi ((i : Int))), some (vi (kv)), some (vi (bv))]) hC dL_law_209 (by decide) rfl ?_
    refine g_ald_n hC dL_law_211 rfl ?_
    refine g_callV (rest := []) hC (kX7_thrown hl g2 hrep2) gc_RL_72 rfl hrep2.1 rfl ⟨by decide, by decide⟩ ⟨by show cells + 6 + 0 + 0 ≤ 601024; omega, by show slots + 39 + 0 + 0 ≤ 7293034; omega⟩ (Nat.le_of_ble_eq_true rfl) rfl dL_law_212 (fun r g3 hp => ?_)
    obtain ⟨z3, F3, ⟨rfl, hz3, hF3⟩, h5, h6⟩ := hp
    rw [hz3, hF3] at h5
    rw [← e0] at h5 h6
    obtain ⟨ct3, h3R, hM3, hc3⟩ := hM2.mod h2R h5 h6
    rw [hz27]
    refine gV.eqs (st' := [vi kv]) rfl rfl rfl ?_
    refine g_iload hC dL_law_215 rfl ?_
    refine g_icmp_eq (tgt := 222) hC dL_law_217 (by decide) (by omega) (by omega) (fun c_217 => ?_) (fun c_217 => False.elim (by omega))
    refine g_iload hC dL_law_222 rfl ?_
    have hc31 : ∀ t : Tg, 2 ≤ t.1 → ct3 t = ct1 t := fun t ht => by rw [hc3 t ht, hc2 t ht]
    refine g_if_ne (tgt := 239) hC dL_law_224 (by decide) (by omega) (fun c_224 => ?_) (fun c_224 => False.elim (by omega))
    refine g_goto (tgt := 1006) hC dL_law_239 (by decide) ?_
    refine gV.drop (lv' := [some (.ref b), some (.ref (ad (2, 0, 0))), some (.ref (ad (0, 0, 0))), some (.ref (ad (30, 0, 0))), some (vi ((i : Int))), none, none]) (by intro k v hk; match k, hk with | 0, hk => exact hk | 1, hk => exact hk | 2, hk => exact hk | 3, hk => exact hk | 4, hk => exact hk | 5, hk => exact absurd hk (by simp) | 6, hk => exact absurd hk (by simp) | k + 7, hk => exact absurd hk (by simp)) ?_
    refine gV.widen (k := cells + 21) (n := slots + 3849) (by omega) (by omega) ?_
    exact kk g3 ad1 ct3 z2 F2 h3R (LI.mk (hif.fr (fun t h1 _ => hc31 t h1)) hM3 hI hE hQ hsc ⟨f1, (hc31 _ (by decide)).trans ho1⟩) ex e0 eo

set_option maxHeartbeats 4000000 in
set_option maxRecDepth 100000 in
theorem lc_name {x : gX} {l : Launch} (hl : l.stackTraces = false) {D : gD} {base : Nat} (hC : gK x l D base 7 RL cL_law room_1) {b L : Nat} {xs : Nat → Int32} (hX : gScr x base b L xs) (hL : L ≤ 2560) {i : Nat} (hi : i + 5 ≤ L) {ad : Tg → Nat} {z : Nat → Int} {F : Nat → Nat → Int} {ct : Tg → Option gC} {gh : gH} (hR : cR ad ct gh) (hLI : LI ad z F ct) {cells slots : Nat} (hcl : cells + 21 ≤ 601024) (hsl : slots + 3849 ≤ 7293034)
    (kk : ∀ (gh2 : gH) (ad2 : Tg → Nat) (ct2 : Tg → Option gC) (z2 : Nat → Int) (F2 : Nat → Nat → Int), cR ad2 ct2 gh2 → LI ad2 z2 F2 ct2 → ad2 (2, 0, 0) = ad (2, 0, 0) → ad2 (0, 0, 0) = ad (0, 0, 0) → ad2 (30, 0, 0) = ad (30, 0, 0) → gV x D base 7 1006 [some (.ref b), some (.ref (ad (2, 0, 0))), some (.ref (ad (0, 0, 0))), some (.ref (ad (30, 0, 0))), some (vi (i : Int)), none, none] [] gh2 (cells + 21) (slots + 3849)) : gV x D base 7 242 [some (.ref b), some (.ref (ad (2, 0, 0))), some (.ref (ad (0, 0, 0))), some (.ref (ad (30, 0, 0))), some (vi ((i : Int))), none, none] [] gh cells slots := by
  obtain ⟨hS, hM, hI, hE, hQ, f0, ho⟩ := hLI
  have r1 := iI_rng (xs (i + 1))
  have r2 := iI_rng (xs (i + 2))
  have r3 := iI_rng (xs (i + 3))
  have r4 := iI_rng (xs (i + 4))
  refine g_ald_n hC dL_law_242 rfl ?_
  refine g_ald_n hC dL_law_243 rfl ?_
  refine g_iload hC dL_law_244 rfl ?_
  refine g_iconst hC dL_law_246 rfl ?_
  refine g_iadd hC dL_law_247 ?_
  refine g_sld hC hX (by omega) (i + 1) (by omega) (by omega) dL_law_248 ?_
  refine g_ald_n hC dL_law_249 rfl ?_
  refine g_callSW (rest := []) hC (kL_name hl hI hS hE hQ ((xs (i + 1)).toInt) (by omega) ho gh hR) gcw_name rfl ⟨by decide, by decide⟩ ⟨by show cells + 4 ≤ 601024; omega, by show slots + 28 ≤ 7293034; omega⟩ (Nat.le_of_ble_eq_true rfl) rfl dL_law_250 (fun r g1 hp => ?_)
  obtain ⟨rfl, ad1, ct1, f1, h1R, hlo, ex, eo, ho1, hif⟩ := hp
  obtain ⟨kv, ekv⟩ : ∃ kv : Int, kv = goesN (inB ((xs (i + 1)).toInt) 0 (z 3 - 1)) (decide (0 < z 1) && decide (F 7 (if inB ((xs (i + 1)).toInt) 0 (z 3 - 1) = true then ((xs (i + 1)).toInt).toNat else 0) < 6)) true := ⟨_, rfl⟩
  rw [← ekv]
  have hkr := goesN_rng (a := (inB ((xs (i + 1)).toInt) 0 (z 3 - 1))) (b := (decide (0 < z 1) && decide (F 7 (if inB ((xs (i + 1)).toInt) 0 (z 3 - 1) = true then ((xs (i + 1)).toInt).toNat else 0) < 6))) (c := true)
  rw [← ekv] at hkr
  refine gV.eqs (st' := [vi kv]) rfl rfl rfl ?_
  have e0 := (hlo (0, 0, 0) (Nat.zero_le 1)).2
  have hM1 := hM.fr hlo
  have hrep := hM1.rep h1R
  rw [e0] at hrep
  refine g_istore (lv' := [some (.ref b), some (.ref (ad (2, 0, 0))), some (.ref (ad (0, 0, 0))), some (.ref (ad (30, 0, 0))), some (vi ((i : Int))), some (vi (kv)), none]) hC dL_law_253 (by decide) rfl ?_
  refine g_ald_n hC dL_law_255 rfl ?_
  refine g_ald_n hC dL_law_256 rfl ?_
  refine g_iload hC dL_law_257 rfl ?_
  refine g_iconst hC dL_law_259 rfl ?_
  refine g_iadd hC dL_law_260 ?_
  refine g_sld hC hX (by omega) (i + 1) (by omega) (by omega) dL_law_261 ?_
  refine g_callV (rest := []) hC (kX7_name hl hI ((xs (i + 1)).toInt) (by omega) g1 hrep) gc_RL_82 rfl hrep.1 rfl ⟨by decide, by decide⟩ ⟨by show cells + 4 + 0 ≤ 601024; omega, by show slots + 28 + 0 ≤ 7293034; omega⟩ (Nat.le_of_ble_eq_true rfl) rfl dL_law_262 (fun r g2 hp => ?_)
  obtain ⟨z2, F2, hp, h3, h4⟩ := hp
  rw [← e0] at h3 h4
  obtain ⟨ct2, h2R, hM2, hc2⟩ := hM1.mod h1R h3 h4
  have hrep2 := hM2.rep h2R
  rw [e0] at hrep2
  by_cases hc : ((inB ((xs (i + 1)).toInt) 0 (z 3 - 1)) && (decide (0 < z 1) && decide (F 7 (if inB ((xs (i + 1)).toInt) 0 (z 3 - 1) = true then ((xs (i + 1)).toInt).toNat else 0) < 6)) && true) = true
  · rw [if_pos hc] at hp hif
    obtain ⟨rfl, hz27, hsc⟩ := hp
    obtain ⟨hST1, hf1⟩ := hif
    rw [← ekv] at hz27
    rw [if_pos hc] at hsc
    have hk0 : kv = 0 := by rw [ekv]; exact goes_0 hc
    obtain ⟨hAB, -⟩ := (Bool.and_eq_true _ _).mp hc
    obtain ⟨hA, hB⟩ := (Bool.and_eq_true _ _).mp hAB
    have hA1 := inB_t hA
    rw [if_pos hA] at hB
    obtain ⟨hB1, hB2⟩ := (Bool.and_eq_true _ _).mp hB
    have hB1 := of_decide_eq_true hB1
    have hB2 := of_decide_eq_true hB2
    have hI1 : mI (gup z 1 0) (namF z F ((xs (i + 1)).toInt).toNat) := mI_name hI (by omega) hB1 hB2 rfl rfl rfl rfl rfl
    have hED : mE (gup z 1 0) (namF z F ((xs (i + 1)).toInt).toNat) ∧ eQ (gup z 1 0) (namF z F ((xs (i + 1)).toInt).toNat) := ed_name hI hE hQ (by omega) hB2
    refine gV.eqs (st' := [vi (pushUp F (namF z F ((xs (i + 1)).toInt).toNat) ((xs (i + 1)).toInt).toNat (z 3).toNat (z 0) (z 11).toNat)]) rfl rfl rfl ?_
    obtain ⟨bv, ebv⟩ : ∃ bv : Int, bv = pushUp F (namF z F ((xs (i + 1)).toInt).toNat) ((xs (i + 1)).toInt).toNat (z 3).toNat (z 0) (z 11).toNat := ⟨_, rfl⟩
    rw [← ebv]
    refine g_istore (lv' := [some (.ref b), some (.ref (ad (2, 0, 0))), some (.ref (ad (0, 0, 0))), some (.ref (ad (30, 0, 0))), some (vi ((i : Int))), some (vi (kv)), some (vi (bv))]) hC dL_law_265 (by decide) rfl ?_
    refine g_ald_n hC dL_law_267 rfl ?_
    refine g_callV (rest := []) hC (kX7_thrown hl g2 hrep2) gc_RL_72 rfl hrep2.1 rfl ⟨by decide, by decide⟩ ⟨by show cells + 4 + 0 + 0 ≤ 601024; omega, by show slots + 28 + 0 + 0 ≤ 7293034; omega⟩ (Nat.le_of_ble_eq_true rfl) rfl dL_law_268 (fun r g3 hp => ?_)
    obtain ⟨z3, F3, ⟨rfl, hz3, hF3⟩, h5, h6⟩ := hp
    rw [hz3, hF3] at h5
    rw [← e0] at h5 h6
    obtain ⟨ct3, h3R, hM3, hc3⟩ := hM2.mod h2R h5 h6
    rw [hz27]
    refine gV.eqs (st' := [vi kv]) rfl rfl rfl ?_
    refine g_iload hC dL_law_271 rfl ?_
    refine g_icmp_eq (tgt := 278) hC dL_law_273 (by decide) (by omega) (by omega) (fun c_273 => ?_) (fun c_273 => False.elim (by omega))
    refine g_iload hC dL_law_278 rfl ?_
    have hc31 : ∀ t : Tg, 2 ≤ t.1 → ct3 t = ct1 t := fun t ht => by rw [hc3 t ht, hc2 t ht]
    refine g_if_ne (tgt := 295) hC dL_law_280 (by decide) (by omega) (fun c_280 => False.elim (by omega)) (fun c_280 => ?_)
    have hout : g3 (ad (30, 0, 0)) = some (gL 3 1 f1) := by have h9_ := h3R.1 (30, 0, 0) _ ((hc31 _ (by decide)).trans ho1); rw [eo] at h9_; exact h9_
    refine g_ald_n hC dL_law_283 rfl ?_
    refine g_iconst hC dL_law_284 rfl ?_
    refine g_lald hC dL_law_285 hout (by decide) (by decide) ?_
    refine gV.eqs (st' := [.long (iI bv).toInt64]) rfl (by rw [ebv, ← hf1]; rfl) rfl ?_
    refine g_iload hC dL_law_286 rfl ?_
    refine g_i2l hC dL_law_288 ?_
    refine g_lcmpE hC dL_law_289 ?_
    refine g_if_eq (tgt := 295) hC dL_law_290 (by decide) (by omega) (fun c_290 => ?_) (fun c_290 => False.elim (by omega))
    refine g_goto (tgt := 1006) hC dL_law_295 (by decide) ?_
    refine gV.drop (lv' := [some (.ref b), some (.ref (ad (2, 0, 0))), some (.ref (ad (0, 0, 0))), some (.ref (ad (30, 0, 0))), some (vi ((i : Int))), none, none]) (by intro k v hk; match k, hk with | 0, hk => exact hk | 1, hk => exact hk | 2, hk => exact hk | 3, hk => exact hk | 4, hk => exact hk | 5, hk => exact absurd hk (by simp) | 6, hk => exact absurd hk (by simp) | k + 7, hk => exact absurd hk (by simp)) ?_
    refine gV.widen (k := cells + 21) (n := slots + 3849) (by omega) (by omega) ?_
    exact kk g3 ad1 ct3 z2 F2 h3R (LI.mk (hST1.fr (fun t h1 _ => hc31 t h1)) hM3 hI1 hED.1 hED.2 hsc ⟨f1, (hc31 _ (by decide)).trans ho1⟩) ex e0 eo
  · rw [if_neg hc] at hp hif
    obtain ⟨rfl, hz27, hsc⟩ := hp
    rw [← ekv] at hz27
    rw [if_neg hc] at hsc
    have hk0 : kv ≠ 0 := by rw [ekv]; exact goes_ne hc
    refine gV.eqs (st' := [vi (0)]) rfl rfl rfl ?_
    obtain ⟨bv, ebv⟩ : ∃ bv : Int, bv = 0 := ⟨_, rfl⟩
    rw [← ebv]
    refine g_istore (lv' := [some (.ref b), some (.ref (ad (2, 0, 0))), some (.ref (ad (0, 0, 0))), some (.ref (ad (30, 0, 0))), some (vi ((i : Int))), some (vi (kv)), some (vi (bv))]) hC dL_law_265 (by decide) rfl ?_
    refine g_ald_n hC dL_law_267 rfl ?_
    refine g_callV (rest := []) hC (kX7_thrown hl g2 hrep2) gc_RL_72 rfl hrep2.1 rfl ⟨by decide, by decide⟩ ⟨by show cells + 4 + 0 + 0 ≤ 601024; omega, by show slots + 28 + 0 + 0 ≤ 7293034; omega⟩ (Nat.le_of_ble_eq_true rfl) rfl dL_law_268 (fun r g3 hp => ?_)
    obtain ⟨z3, F3, ⟨rfl, hz3, hF3⟩, h5, h6⟩ := hp
    rw [hz3, hF3] at h5
    rw [← e0] at h5 h6
    obtain ⟨ct3, h3R, hM3, hc3⟩ := hM2.mod h2R h5 h6
    rw [hz27]
    refine gV.eqs (st' := [vi kv]) rfl rfl rfl ?_
    refine g_iload hC dL_law_271 rfl ?_
    refine g_icmp_eq (tgt := 278) hC dL_law_273 (by decide) (by omega) (by omega) (fun c_273 => ?_) (fun c_273 => False.elim (by omega))
    refine g_iload hC dL_law_278 rfl ?_
    have hc31 : ∀ t : Tg, 2 ≤ t.1 → ct3 t = ct1 t := fun t ht => by rw [hc3 t ht, hc2 t ht]
    refine g_if_ne (tgt := 295) hC dL_law_280 (by decide) (by omega) (fun c_280 => ?_) (fun c_280 => False.elim (by omega))
    refine g_goto (tgt := 1006) hC dL_law_295 (by decide) ?_
    refine gV.drop (lv' := [some (.ref b), some (.ref (ad (2, 0, 0))), some (.ref (ad (0, 0, 0))), some (.ref (ad (30, 0, 0))), some (vi ((i : Int))), none, none]) (by intro k v hk; match k, hk with | 0, hk => exact hk | 1, hk => exact hk | 2, hk => exact hk | 3, hk => exact hk | 4, hk => exact hk | 5, hk => exact absurd hk (by simp) | 6, hk => exact absurd hk (by simp) | k + 7, hk => exact absurd hk (by simp)) ?_
    refine gV.widen (k := cells + 21) (n := slots + 3849) (by omega) (by omega) ?_
    exact kk g3 ad1 ct3 z2 F2 h3R (LI.mk (hif.fr (fun t h1 _ => hc31 t h1)) hM3 hI hE hQ hsc ⟨f1, (hc31 _ (by decide)).trans ho1⟩) ex e0 eo

set_option maxHeartbeats 4000000 in
set_option maxRecDepth 100000 in
theorem lc_spelled {x : gX} {l : Launch} (hl : l.stackTraces = false) {D : gD} {base : Nat} (hC : gK x l D base 7 RL cL_law room_1) {b L : Nat} {xs : Nat → Int32} (hX : gScr x base b L xs) (hL : L ≤ 2560) {i : Nat} (hi : i + 5 ≤ L) {ad : Tg → Nat} {z : Nat → Int} {F : Nat → Nat → Int} {ct : Tg → Option gC} {gh : gH} (hR : cR ad ct gh) (hLI : LI ad z F ct) {cells slots : Nat} (hcl : cells + 21 ≤ 601024) (hsl : slots + 3849 ≤ 7293034)
    (kk : ∀ (gh2 : gH) (ad2 : Tg → Nat) (ct2 : Tg → Option gC) (z2 : Nat → Int) (F2 : Nat → Nat → Int), cR ad2 ct2 gh2 → LI ad2 z2 F2 ct2 → ad2 (2, 0, 0) = ad (2, 0, 0) → ad2 (0, 0, 0) = ad (0, 0, 0) → ad2 (30, 0, 0) = ad (30, 0, 0) → gV x D base 7 1006 [some (.ref b), some (.ref (ad (2, 0, 0))), some (.ref (ad (0, 0, 0))), some (.ref (ad (30, 0, 0))), some (vi (i : Int)), none, none] [] gh2 (cells + 21) (slots + 3849)) : gV x D base 7 298 [some (.ref b), some (.ref (ad (2, 0, 0))), some (.ref (ad (0, 0, 0))), some (.ref (ad (30, 0, 0))), some (vi ((i : Int))), none, none] [] gh cells slots := by
  obtain ⟨hS, hM, hI, hE, hQ, f0, ho⟩ := hLI
  have r1 := iI_rng (xs (i + 1))
  have r2 := iI_rng (xs (i + 2))
  have r3 := iI_rng (xs (i + 3))
  have r4 := iI_rng (xs (i + 4))
  refine g_ald_n hC dL_law_298 rfl ?_
  refine g_ald_n hC dL_law_299 rfl ?_
  refine g_iload hC dL_law_300 rfl ?_
  refine g_iconst hC dL_law_302 rfl ?_
  refine g_iadd hC dL_law_303 ?_
  refine g_sld hC hX (by omega) (i + 1) (by omega) (by omega) dL_law_304 ?_
  refine g_ald_n hC dL_law_305 rfl ?_
  refine g_iload hC dL_law_306 rfl ?_
  refine g_iconst hC dL_law_308 rfl ?_
  refine g_iadd hC dL_law_309 ?_
  refine g_sld hC hX (by omega) (i + 2) (by omega) (by omega) dL_law_310 ?_
  refine g_ald_n hC dL_law_311 rfl ?_
  refine g_iload hC dL_law_312 rfl ?_
  refine g_iconst hC dL_law_314 rfl ?_
  refine g_iadd hC dL_law_315 ?_
  refine g_sld hC hX (by omega) (i + 3) (by omega) (by omega) dL_law_316 ?_
  refine g_ald_n hC dL_law_317 rfl ?_
  refine g_callSW (rest := []) hC (kL_spelled hl hI hS hE hQ ((xs (i + 1)).toInt) ((xs (i + 2)).toInt) ((xs (i + 3)).toInt) (by omega) (by omega) (by omega) ho gh hR) gcw_spelled rfl ⟨by decide, by decide⟩ ⟨by show cells + 2 ≤ 601024; omega, by show slots + 12 ≤ 7293034; omega⟩ (Nat.le_of_ble_eq_true rfl) rfl dL_law_318 (fun r g1 hp => ?_)
  obtain ⟨rfl, ad1, ct1, f1, h1R, hlo, ex, eo, ho1, hif⟩ := hp
  obtain ⟨kv, ekv⟩ : ∃ kv : Int, kv = goesN (inB ((xs (i + 1)).toInt) 0 (z 3 - 1) && decide (0 ≤ ((xs (i + 3)).toInt))) (inB ((xs (i + 2)).toInt) 0 10000) true := ⟨_, rfl⟩
  rw [← ekv]
  have hkr := goesN_rng (a := (inB ((xs (i + 1)).toInt) 0 (z 3 - 1) && decide (0 ≤ ((xs (i + 3)).toInt)))) (b := (inB ((xs (i + 2)).toInt) 0 10000)) (c := true)
  rw [← ekv] at hkr
  refine gV.eqs (st' := [vi kv]) rfl rfl rfl ?_
  have e0 := (hlo (0, 0, 0) (Nat.zero_le 1)).2
  have hM1 := hM.fr hlo
  have hrep := hM1.rep h1R
  rw [e0] at hrep
  refine g_istore (lv' := [some (.ref b), some (.ref (ad (2, 0, 0))), some (.ref (ad (0, 0, 0))), some (.ref (ad (30, 0, 0))), some (vi ((i : Int))), some (vi (kv)), none]) hC dL_law_321 (by decide) rfl ?_
  refine g_ald_n hC dL_law_323 rfl ?_
  refine g_ald_n hC dL_law_324 rfl ?_
  refine g_iload hC dL_law_325 rfl ?_
  refine g_iconst hC dL_law_327 rfl ?_
  refine g_iadd hC dL_law_328 ?_
  refine g_sld hC hX (by omega) (i + 1) (by omega) (by omega) dL_law_329 ?_
  refine g_ald_n hC dL_law_330 rfl ?_
  refine g_iload hC dL_law_331 rfl ?_
  refine g_iconst hC dL_law_333 rfl ?_
  refine g_iadd hC dL_law_334 ?_
  refine g_sld hC hX (by omega) (i + 2) (by omega) (by omega) dL_law_335 ?_
  refine g_ald_n hC dL_law_336 rfl ?_
  refine g_iload hC dL_law_337 rfl ?_
  refine g_iconst hC dL_law_339 rfl ?_
  refine g_iadd hC dL_law_340 ?_
  refine g_sld hC hX (by omega) (i + 3) (by omega) (by omega) dL_law_341 ?_
  refine g_callV (rest := []) hC (kX7_spelled hl hI ((xs (i + 1)).toInt) ((xs (i + 2)).toInt) ((xs (i + 3)).toInt) (by omega) (by omega) (by omega) g1 hrep) gc_RL_85 rfl hrep.1 rfl ⟨by decide, by decide⟩ ⟨by show cells + 2 + 0 ≤ 601024; omega, by show slots + 12 + 0 ≤ 7293034; omega⟩ (Nat.le_of_ble_eq_true rfl) rfl dL_law_342 (fun r g2 hp => ?_)
  obtain ⟨z2, F2, hp, h3, h4⟩ := hp
  rw [← e0] at h3 h4
  obtain ⟨ct2, h2R, hM2, hc2⟩ := hM1.mod h1R h3 h4
  have hrep2 := hM2.rep h2R
  rw [e0] at hrep2
  by_cases hc : ((inB ((xs (i + 1)).toInt) 0 (z 3 - 1) && decide (0 ≤ ((xs (i + 3)).toInt))) && (inB ((xs (i + 2)).toInt) 0 10000) && true) = true
  · rw [if_pos hc] at hp hif
    obtain ⟨rfl, hz, hF⟩ := hp
    obtain ⟨hST1, hf1⟩ := hif
    have hz27 : z2 27 = kv := by rw [hz, ekv]; rfl
    have hsc : mSc (z) (F) z2 F2 := by rw [hz, hF]; exact mSc.rf
    have hk0 : kv = 0 := by rw [ekv]; exact goes_0 hc
    obtain ⟨hAB, -⟩ := (Bool.and_eq_true _ _).mp hc
    obtain ⟨hA, hB⟩ := (Bool.and_eq_true _ _).mp hAB
    have hI1 : mI (z) (F) := hI
    have hED : mE (z) (F) ∧ eQ (z) (F) := ⟨hE, hQ⟩
    refine gV.eqs (st' := [vi (spV F ((xs (i + 2)).toInt) ((xs (i + 3)).toInt) ((xs (i + 1)).toInt).toNat)]) rfl rfl rfl ?_
    obtain ⟨bv, ebv⟩ : ∃ bv : Int, bv = spV F ((xs (i + 2)).toInt) ((xs (i + 3)).toInt) ((xs (i + 1)).toInt).toNat := ⟨_, rfl⟩
    rw [← ebv]
    refine g_istore (lv' := [some (.ref b), some (.ref (ad (2, 0, 0))), some (.ref (ad (0, 0, 0))), some (.ref (ad (30, 0, 0))), some (vi ((i : Int))), some (vi (kv)), some (vi (bv))]) hC dL_law_345 (by decide) rfl ?_
    refine g_ald_n hC dL_law_347 rfl ?_
    refine g_callV (rest := []) hC (kX7_thrown hl g2 hrep2) gc_RL_72 rfl hrep2.1 rfl ⟨by decide, by decide⟩ ⟨by show cells + 2 + 0 + 0 ≤ 601024; omega, by show slots + 12 + 0 + 0 ≤ 7293034; omega⟩ (Nat.le_of_ble_eq_true rfl) rfl dL_law_348 (fun r g3 hp => ?_)
    obtain ⟨z3, F3, ⟨rfl, hz3, hF3⟩, h5, h6⟩ := hp
    rw [hz3, hF3] at h5
    rw [← e0] at h5 h6
    obtain ⟨ct3, h3R, hM3, hc3⟩ := hM2.mod h2R h5 h6
    rw [hz27]
    refine gV.eqs (st' := [vi kv]) rfl rfl rfl ?_
    refine g_iload hC dL_law_351 rfl ?_
    refine g_icmp_eq (tgt := 358) hC dL_law_353 (by decide) (by omega) (by omega) (fun c_353 => ?_) (fun c_353 => False.elim (by omega))
    refine g_iload hC dL_law_358 rfl ?_
    have hc31 : ∀ t : Tg, 2 ≤ t.1 → ct3 t = ct1 t := fun t ht => by rw [hc3 t ht, hc2 t ht]
    refine g_if_ne (tgt := 375) hC dL_law_360 (by decide) (by omega) (fun c_360 => False.elim (by omega)) (fun c_360 => ?_)
    have hout : g3 (ad (30, 0, 0)) = some (gL 3 1 f1) := by have h9_ := h3R.1 (30, 0, 0) _ ((hc31 _ (by decide)).trans ho1); rw [eo] at h9_; exact h9_
    refine g_ald_n hC dL_law_363 rfl ?_
    refine g_iconst hC dL_law_364 rfl ?_
    refine g_lald hC dL_law_365 hout (by decide) (by decide) ?_
    refine gV.eqs (st' := [.long (iI bv).toInt64]) rfl (by rw [ebv, ← hf1]; rfl) rfl ?_
    refine g_iload hC dL_law_366 rfl ?_
    refine g_i2l hC dL_law_368 ?_
    refine g_lcmpE hC dL_law_369 ?_
    refine g_if_eq (tgt := 375) hC dL_law_370 (by decide) (by omega) (fun c_370 => ?_) (fun c_370 => False.elim (by omega))
    refine g_goto (tgt := 1006) hC dL_law_375 (by decide) ?_
    refine gV.drop (lv' := [some (.ref b), some (.ref (ad (2, 0, 0))), some (.ref (ad (0, 0, 0))), some (.ref (ad (30, 0, 0))), some (vi ((i : Int))), none, none]) (by intro k v hk; match k, hk with | 0, hk => exact hk | 1, hk => exact hk | 2, hk => exact hk | 3, hk => exact hk | 4, hk => exact hk | 5, hk => exact absurd hk (by simp) | 6, hk => exact absurd hk (by simp) | k + 7, hk => exact absurd hk (by simp)) ?_
    refine gV.widen (k := cells + 21) (n := slots + 3849) (by omega) (by omega) ?_
    exact kk g3 ad1 ct3 z2 F2 h3R (LI.mk (hST1.fr (fun t h1 _ => hc31 t h1)) hM3 hI1 hED.1 hED.2 hsc ⟨f1, (hc31 _ (by decide)).trans ho1⟩) ex e0 eo
  · rw [if_neg hc] at hp hif
    obtain ⟨rfl, hz, hF⟩ := hp
    have hz27 : z2 27 = kv := by rw [hz, ekv]; rfl
    have hsc : mSc z F z2 F2 := by rw [hz, hF]; exact mSc.rf
    have hk0 : kv ≠ 0 := by rw [ekv]; exact goes_ne hc
    refine gV.eqs (st' := [vi (32)]) rfl rfl rfl ?_
    obtain ⟨bv, ebv⟩ : ∃ bv : Int, bv = 32 := ⟨_, rfl⟩
    rw [← ebv]
    refine g_istore (lv' := [some (.ref b), some (.ref (ad (2, 0, 0))), some (.ref (ad (0, 0, 0))), some (.ref (ad (30, 0, 0))), some (vi ((i : Int))), some (vi (kv)), some (vi (bv))]) hC dL_law_345 (by decide) rfl ?_
    refine g_ald_n hC dL_law_347 rfl ?_
    refine g_callV (rest := []) hC (kX7_thrown hl g2 hrep2) gc_RL_72 rfl hrep2.1 rfl ⟨by decide, by decide⟩ ⟨by show cells + 2 + 0 + 0 ≤ 601024; omega, by show slots + 12 + 0 + 0 ≤ 7293034; omega⟩ (Nat.le_of_ble_eq_true rfl) rfl dL_law_348 (fun r g3 hp => ?_)
    obtain ⟨z3, F3, ⟨rfl, hz3, hF3⟩, h5, h6⟩ := hp
    rw [hz3, hF3] at h5
    rw [← e0] at h5 h6
    obtain ⟨ct3, h3R, hM3, hc3⟩ := hM2.mod h2R h5 h6
    rw [hz27]
    refine gV.eqs (st' := [vi kv]) rfl rfl rfl ?_
    refine g_iload hC dL_law_351 rfl ?_
    refine g_icmp_eq (tgt := 358) hC dL_law_353 (by decide) (by omega) (by omega) (fun c_353 => ?_) (fun c_353 => False.elim (by omega))
    refine g_iload hC dL_law_358 rfl ?_
    have hc31 : ∀ t : Tg, 2 ≤ t.1 → ct3 t = ct1 t := fun t ht => by rw [hc3 t ht, hc2 t ht]
    refine g_if_ne (tgt := 375) hC dL_law_360 (by decide) (by omega) (fun c_360 => ?_) (fun c_360 => False.elim (by omega))
    refine g_goto (tgt := 1006) hC dL_law_375 (by decide) ?_
    refine gV.drop (lv' := [some (.ref b), some (.ref (ad (2, 0, 0))), some (.ref (ad (0, 0, 0))), some (.ref (ad (30, 0, 0))), some (vi ((i : Int))), none, none]) (by intro k v hk; match k, hk with | 0, hk => exact hk | 1, hk => exact hk | 2, hk => exact hk | 3, hk => exact hk | 4, hk => exact hk | 5, hk => exact absurd hk (by simp) | 6, hk => exact absurd hk (by simp) | k + 7, hk => exact absurd hk (by simp)) ?_
    refine gV.widen (k := cells + 21) (n := slots + 3849) (by omega) (by omega) ?_
    exact kk g3 ad1 ct3 z2 F2 h3R (LI.mk (hif.fr (fun t h1 _ => hc31 t h1)) hM3 hI hE hQ hsc ⟨f1, (hc31 _ (by decide)).trans ho1⟩) ex e0 eo

set_option maxHeartbeats 4000000 in
set_option maxRecDepth 100000 in
theorem lc_pass {x : gX} {l : Launch} (hl : l.stackTraces = false) {D : gD} {base : Nat} (hC : gK x l D base 7 RL cL_law room_1) {b L : Nat} {xs : Nat → Int32} (hX : gScr x base b L xs) (hL : L ≤ 2560) {i : Nat} (hi : i + 5 ≤ L) {ad : Tg → Nat} {z : Nat → Int} {F : Nat → Nat → Int} {ct : Tg → Option gC} {gh : gH} (hR : cR ad ct gh) (hLI : LI ad z F ct) {cells slots : Nat} (hcl : cells + 21 ≤ 601024) (hsl : slots + 3849 ≤ 7293034)
    (kk : ∀ (gh2 : gH) (ad2 : Tg → Nat) (ct2 : Tg → Option gC) (z2 : Nat → Int) (F2 : Nat → Nat → Int), cR ad2 ct2 gh2 → LI ad2 z2 F2 ct2 → ad2 (2, 0, 0) = ad (2, 0, 0) → ad2 (0, 0, 0) = ad (0, 0, 0) → ad2 (30, 0, 0) = ad (30, 0, 0) → gV x D base 7 1006 [some (.ref b), some (.ref (ad (2, 0, 0))), some (.ref (ad (0, 0, 0))), some (.ref (ad (30, 0, 0))), some (vi (i : Int)), none, none] [] gh2 (cells + 21) (slots + 3849)) : gV x D base 7 378 [some (.ref b), some (.ref (ad (2, 0, 0))), some (.ref (ad (0, 0, 0))), some (.ref (ad (30, 0, 0))), some (vi ((i : Int))), none, none] [] gh cells slots := by
  obtain ⟨hS, hM, hI, hE, hQ, f0, ho⟩ := hLI
  have r1 := iI_rng (xs (i + 1))
  have r2 := iI_rng (xs (i + 2))
  have r3 := iI_rng (xs (i + 3))
  have r4 := iI_rng (xs (i + 4))
  refine g_ald_n hC dL_law_378 rfl ?_
  refine g_ald_n hC dL_law_379 rfl ?_
  refine g_iload hC dL_law_380 rfl ?_
  refine g_iconst hC dL_law_382 rfl ?_
  refine g_iadd hC dL_law_383 ?_
  refine g_sld hC hX (by omega) (i + 1) (by omega) (by omega) dL_law_384 ?_
  refine g_ald_n hC dL_law_385 rfl ?_
  refine g_callSW (rest := []) hC (kL_pass hl hI hS hE hQ ((xs (i + 1)).toInt) (by omega) ho gh hR) gcw_pass rfl ⟨by decide, by decide⟩ ⟨by show cells + 1 ≤ 601024; omega, by show slots + 6 ≤ 7293034; omega⟩ (Nat.le_of_ble_eq_true rfl) rfl dL_law_386 (fun r g1 hp => ?_)
  obtain ⟨rfl, ad1, ct1, f1, h1R, hlo, ex, eo, ho1, hif⟩ := hp
  obtain ⟨kv, ekv⟩ : ∃ kv : Int, kv = goesN (inB ((xs (i + 1)).toInt) 1 1000) (decide (iI (z 0 + ((xs (i + 1)).toInt)) ≤ iI 10000)) true := ⟨_, rfl⟩
  rw [← ekv]
  have hkr := goesN_rng (a := (inB ((xs (i + 1)).toInt) 1 1000)) (b := (decide (iI (z 0 + ((xs (i + 1)).toInt)) ≤ iI 10000))) (c := true)
  rw [← ekv] at hkr
  refine gV.eqs (st' := [vi kv]) rfl rfl rfl ?_
  have e0 := (hlo (0, 0, 0) (Nat.zero_le 1)).2
  have hM1 := hM.fr hlo
  have hrep := hM1.rep h1R
  rw [e0] at hrep
  refine g_istore (lv' := [some (.ref b), some (.ref (ad (2, 0, 0))), some (.ref (ad (0, 0, 0))), some (.ref (ad (30, 0, 0))), some (vi ((i : Int))), some (vi (kv)), none]) hC dL_law_389 (by decide) rfl ?_
  refine g_ald_n hC dL_law_391 rfl ?_
  refine g_ald_n hC dL_law_392 rfl ?_
  refine g_iload hC dL_law_393 rfl ?_
  refine g_iconst hC dL_law_395 rfl ?_
  refine g_iadd hC dL_law_396 ?_
  refine g_sld hC hX (by omega) (i + 1) (by omega) (by omega) dL_law_397 ?_
  refine g_callV (rest := []) hC (kX7_pass hl hI ((xs (i + 1)).toInt) (by omega) g1 hrep) gc_RL_88 rfl hrep.1 rfl ⟨by decide, by decide⟩ ⟨by show cells + 1 + 0 ≤ 601024; omega, by show slots + 6 + 0 ≤ 7293034; omega⟩ (Nat.le_of_ble_eq_true rfl) rfl dL_law_398 (fun r g2 hp => ?_)
  obtain ⟨z2, F2, hp, h3, h4⟩ := hp
  rw [← e0] at h3 h4
  obtain ⟨ct2, h2R, hM2, hc2⟩ := hM1.mod h1R h3 h4
  have hrep2 := hM2.rep h2R
  rw [e0] at hrep2
  by_cases hc : ((inB ((xs (i + 1)).toInt) 1 1000) && (decide (iI (z 0 + ((xs (i + 1)).toInt)) ≤ iI 10000)) && true) = true
  · rw [if_pos hc] at hp hif
    obtain ⟨rfl, hz, hF⟩ := hp
    obtain ⟨hST1, hf1⟩ := hif
    have hz27 : z2 27 = kv := by rw [hz, ekv]; rfl
    have hsc : mSc (gup z 0 (z 0 + ((xs (i + 1)).toInt))) (F) z2 F2 := by rw [hz, hF]; exact mSc_up
    have hk0 : kv = 0 := by rw [ekv]; exact goes_0 hc
    obtain ⟨hAB, -⟩ := (Bool.and_eq_true _ _).mp hc
    obtain ⟨hA, hB⟩ := (Bool.and_eq_true _ _).mp hAB
    have hA1 := inB_t hA
    have hi0 := hI.1
    have hB2 : z 0 + ((xs (i + 1)).toInt) ≤ 10000 := (iI_le (by omega) (by decide)).mp (of_decide_eq_true hB)
    have hI1 : mI (gup z 0 (z 0 + ((xs (i + 1)).toInt))) (F) := mI_pass hI (inB_t hA).1 hB2
    have hED : mE (gup z 0 (z 0 + ((xs (i + 1)).toInt))) (F) ∧ eQ (gup z 0 (z 0 + ((xs (i + 1)).toInt))) (F) := ⟨hE, hQ⟩
    refine gV.eqs (st' := [vi (z 0 + ((xs (i + 1)).toInt))]) rfl rfl rfl ?_
    obtain ⟨bv, ebv⟩ : ∃ bv : Int, bv = z 0 + ((xs (i + 1)).toInt) := ⟨_, rfl⟩
    rw [← ebv]
    refine g_istore (lv' := [some (.ref b), some (.ref (ad (2, 0, 0))), some (.ref (ad (0, 0, 0))), some (.ref (ad (30, 0, 0))), some (vi ((i : Int))), some (vi (kv)), some (vi (bv))]) hC dL_law_401 (by decide) rfl ?_
    refine g_ald_n hC dL_law_403 rfl ?_
    refine g_callV (rest := []) hC (kX7_thrown hl g2 hrep2) gc_RL_72 rfl hrep2.1 rfl ⟨by decide, by decide⟩ ⟨by show cells + 1 + 0 + 0 ≤ 601024; omega, by show slots + 6 + 0 + 0 ≤ 7293034; omega⟩ (Nat.le_of_ble_eq_true rfl) rfl dL_law_404 (fun r g3 hp => ?_)
    obtain ⟨z3, F3, ⟨rfl, hz3, hF3⟩, h5, h6⟩ := hp
    rw [hz3, hF3] at h5
    rw [← e0] at h5 h6
    obtain ⟨ct3, h3R, hM3, hc3⟩ := hM2.mod h2R h5 h6
    rw [hz27]
    refine gV.eqs (st' := [vi kv]) rfl rfl rfl ?_
    refine g_iload hC dL_law_407 rfl ?_
    refine g_icmp_eq (tgt := 414) hC dL_law_409 (by decide) (by omega) (by omega) (fun c_409 => ?_) (fun c_409 => False.elim (by omega))
    refine g_iload hC dL_law_414 rfl ?_
    have hc31 : ∀ t : Tg, 2 ≤ t.1 → ct3 t = ct1 t := fun t ht => by rw [hc3 t ht, hc2 t ht]
    refine g_if_ne (tgt := 431) hC dL_law_416 (by decide) (by omega) (fun c_416 => False.elim (by omega)) (fun c_416 => ?_)
    have hout : g3 (ad (30, 0, 0)) = some (gL 3 1 f1) := by have h9_ := h3R.1 (30, 0, 0) _ ((hc31 _ (by decide)).trans ho1); rw [eo] at h9_; exact h9_
    refine g_ald_n hC dL_law_419 rfl ?_
    refine g_iconst hC dL_law_420 rfl ?_
    refine g_lald hC dL_law_421 hout (by decide) (by decide) ?_
    refine gV.eqs (st' := [.long (iI bv).toInt64]) rfl (by rw [ebv, ← hf1]; rfl) rfl ?_
    refine g_iload hC dL_law_422 rfl ?_
    refine g_i2l hC dL_law_424 ?_
    refine g_lcmpE hC dL_law_425 ?_
    refine g_if_eq (tgt := 431) hC dL_law_426 (by decide) (by omega) (fun c_426 => ?_) (fun c_426 => False.elim (by omega))
    refine g_goto (tgt := 1006) hC dL_law_431 (by decide) ?_
    refine gV.drop (lv' := [some (.ref b), some (.ref (ad (2, 0, 0))), some (.ref (ad (0, 0, 0))), some (.ref (ad (30, 0, 0))), some (vi ((i : Int))), none, none]) (by intro k v hk; match k, hk with | 0, hk => exact hk | 1, hk => exact hk | 2, hk => exact hk | 3, hk => exact hk | 4, hk => exact hk | 5, hk => exact absurd hk (by simp) | 6, hk => exact absurd hk (by simp) | k + 7, hk => exact absurd hk (by simp)) ?_
    refine gV.widen (k := cells + 21) (n := slots + 3849) (by omega) (by omega) ?_
    exact kk g3 ad1 ct3 z2 F2 h3R (LI.mk (hST1.fr (fun t h1 _ => hc31 t h1)) hM3 hI1 hED.1 hED.2 hsc ⟨f1, (hc31 _ (by decide)).trans ho1⟩) ex e0 eo
  · rw [if_neg hc] at hp hif
    obtain ⟨rfl, hz, hF⟩ := hp
    have hz27 : z2 27 = kv := by rw [hz, ekv]; rfl
    have hsc : mSc z F z2 F2 := by rw [hz, hF]; exact mSc.rf
    have hk0 : kv ≠ 0 := by rw [ekv]; exact goes_ne hc
    refine gV.eqs (st' := [vi (0)]) rfl rfl rfl ?_
    obtain ⟨bv, ebv⟩ : ∃ bv : Int, bv = 0 := ⟨_, rfl⟩
    rw [← ebv]
    refine g_istore (lv' := [some (.ref b), some (.ref (ad (2, 0, 0))), some (.ref (ad (0, 0, 0))), some (.ref (ad (30, 0, 0))), some (vi ((i : Int))), some (vi (kv)), some (vi (bv))]) hC dL_law_401 (by decide) rfl ?_
    refine g_ald_n hC dL_law_403 rfl ?_
    refine g_callV (rest := []) hC (kX7_thrown hl g2 hrep2) gc_RL_72 rfl hrep2.1 rfl ⟨by decide, by decide⟩ ⟨by show cells + 1 + 0 + 0 ≤ 601024; omega, by show slots + 6 + 0 + 0 ≤ 7293034; omega⟩ (Nat.le_of_ble_eq_true rfl) rfl dL_law_404 (fun r g3 hp => ?_)
    obtain ⟨z3, F3, ⟨rfl, hz3, hF3⟩, h5, h6⟩ := hp
    rw [hz3, hF3] at h5
    rw [← e0] at h5 h6
    obtain ⟨ct3, h3R, hM3, hc3⟩ := hM2.mod h2R h5 h6
    rw [hz27]
    refine gV.eqs (st' := [vi kv]) rfl rfl rfl ?_
    refine g_iload hC dL_law_407 rfl ?_
    refine g_icmp_eq (tgt := 414) hC dL_law_409 (by decide) (by omega) (by omega) (fun c_409 => ?_) (fun c_409 => False.elim (by omega))
    refine g_iload hC dL_law_414 rfl ?_
    have hc31 : ∀ t : Tg, 2 ≤ t.1 → ct3 t = ct1 t := fun t ht => by rw [hc3 t ht, hc2 t ht]
    refine g_if_ne (tgt := 431) hC dL_law_416 (by decide) (by omega) (fun c_416 => ?_) (fun c_416 => False.elim (by omega))
    refine g_goto (tgt := 1006) hC dL_law_431 (by decide) ?_
    refine gV.drop (lv' := [some (.ref b), some (.ref (ad (2, 0, 0))), some (.ref (ad (0, 0, 0))), some (.ref (ad (30, 0, 0))), some (vi ((i : Int))), none, none]) (by intro k v hk; match k, hk with | 0, hk => exact hk | 1, hk => exact hk | 2, hk => exact hk | 3, hk => exact hk | 4, hk => exact hk | 5, hk => exact absurd hk (by simp) | 6, hk => exact absurd hk (by simp) | k + 7, hk => exact absurd hk (by simp)) ?_
    refine gV.widen (k := cells + 21) (n := slots + 3849) (by omega) (by omega) ?_
    exact kk g3 ad1 ct3 z2 F2 h3R (LI.mk (hif.fr (fun t h1 _ => hc31 t h1)) hM3 hI hE hQ hsc ⟨f1, (hc31 _ (by decide)).trans ho1⟩) ex e0 eo

set_option maxHeartbeats 4000000 in
set_option maxRecDepth 100000 in
theorem lc_sheet {x : gX} {l : Launch} (hl : l.stackTraces = false) {D : gD} {base : Nat} (hC : gK x l D base 7 RL cL_law room_1) {b L : Nat} {xs : Nat → Int32} (hX : gScr x base b L xs) (hL : L ≤ 2560) {i : Nat} (hi : i + 5 ≤ L) {ad : Tg → Nat} {z : Nat → Int} {F : Nat → Nat → Int} {ct : Tg → Option gC} {gh : gH} (hR : cR ad ct gh) (hLI : LI ad z F ct) {cells slots : Nat} (hcl : cells + 21 ≤ 601024) (hsl : slots + 3849 ≤ 7293034)
    (kk : ∀ (gh2 : gH) (ad2 : Tg → Nat) (ct2 : Tg → Option gC) (z2 : Nat → Int) (F2 : Nat → Nat → Int), cR ad2 ct2 gh2 → LI ad2 z2 F2 ct2 → ad2 (2, 0, 0) = ad (2, 0, 0) → ad2 (0, 0, 0) = ad (0, 0, 0) → ad2 (30, 0, 0) = ad (30, 0, 0) → gV x D base 7 1006 [some (.ref b), some (.ref (ad (2, 0, 0))), some (.ref (ad (0, 0, 0))), some (.ref (ad (30, 0, 0))), some (vi (i : Int)), none, none] [] gh2 (cells + 21) (slots + 3849)) : gV x D base 7 434 [some (.ref b), some (.ref (ad (2, 0, 0))), some (.ref (ad (0, 0, 0))), some (.ref (ad (30, 0, 0))), some (vi ((i : Int))), none, none] [] gh cells slots := by
  obtain ⟨hS, hM, hI, hE, hQ, f0, ho⟩ := hLI
  have r1 := iI_rng (xs (i + 1))
  have r2 := iI_rng (xs (i + 2))
  have r3 := iI_rng (xs (i + 3))
  have r4 := iI_rng (xs (i + 4))
  refine g_ald_n hC dL_law_434 rfl ?_
  refine g_ald_n hC dL_law_435 rfl ?_
  refine g_iload hC dL_law_436 rfl ?_
  refine g_iconst hC dL_law_438 rfl ?_
  refine g_iadd hC dL_law_439 ?_
  refine g_sld hC hX (by omega) (i + 1) (by omega) (by omega) dL_law_440 ?_
  refine g_ald_n hC dL_law_441 rfl ?_
  refine g_iload hC dL_law_442 rfl ?_
  refine g_iconst hC dL_law_444 rfl ?_
  refine g_iadd hC dL_law_445 ?_
  refine g_sld hC hX (by omega) (i + 2) (by omega) (by omega) dL_law_446 ?_
  refine g_ald_n hC dL_law_447 rfl ?_
  refine g_iload hC dL_law_448 rfl ?_
  refine g_iconst hC dL_law_450 rfl ?_
  refine g_iadd hC dL_law_451 ?_
  refine g_sld hC hX (by omega) (i + 3) (by omega) (by omega) dL_law_452 ?_
  refine g_ald_n hC dL_law_453 rfl ?_
  refine g_callSW (rest := []) hC (kL_sheet hl hI hS hE hQ ((xs (i + 1)).toInt) ((xs (i + 2)).toInt) ((xs (i + 3)).toInt) (by omega) (by omega) (by omega) ho gh hR) gcw_sheet rfl ⟨by decide, by decide⟩ ⟨by show cells + 21 ≤ 601024; omega, by show slots + 2057 ≤ 7293034; omega⟩ (Nat.le_of_ble_eq_true rfl) rfl dL_law_454 (fun r g1 hp => ?_)
  obtain ⟨rfl, ad1, ct1, f1, h1R, hlo, ex, eo, ho1, hif⟩ := hp
  obtain ⟨kv, ekv⟩ : ∃ kv : Int, kv = goesN (inB ((xs (i + 1)).toInt) (-180) 150 && inB ((xs (i + 2)).toInt) (-60) 41 && inB ((xs (i + 3)).toInt) (0) 1) (decide (z 11 < 4)) true := ⟨_, rfl⟩
  rw [← ekv]
  have hkr := goesN_rng (a := (inB ((xs (i + 1)).toInt) (-180) 150 && inB ((xs (i + 2)).toInt) (-60) 41 && inB ((xs (i + 3)).toInt) (0) 1)) (b := (decide (z 11 < 4))) (c := true)
  rw [← ekv] at hkr
  refine gV.eqs (st' := [vi kv]) rfl rfl rfl ?_
  have e0 := (hlo (0, 0, 0) (Nat.zero_le 1)).2
  have hM1 := hM.fr hlo
  have hrep := hM1.rep h1R
  rw [e0] at hrep
  refine g_istore (lv' := [some (.ref b), some (.ref (ad (2, 0, 0))), some (.ref (ad (0, 0, 0))), some (.ref (ad (30, 0, 0))), some (vi ((i : Int))), some (vi (kv)), none]) hC dL_law_457 (by decide) rfl ?_
  refine g_ald_n hC dL_law_459 rfl ?_
  refine g_ald_n hC dL_law_460 rfl ?_
  refine g_iload hC dL_law_461 rfl ?_
  refine g_iconst hC dL_law_463 rfl ?_
  refine g_iadd hC dL_law_464 ?_
  refine g_sld hC hX (by omega) (i + 1) (by omega) (by omega) dL_law_465 ?_
  refine g_ald_n hC dL_law_466 rfl ?_
  refine g_iload hC dL_law_467 rfl ?_
  refine g_iconst hC dL_law_469 rfl ?_
  refine g_iadd hC dL_law_470 ?_
  refine g_sld hC hX (by omega) (i + 2) (by omega) (by omega) dL_law_471 ?_
  refine g_ald_n hC dL_law_472 rfl ?_
  refine g_iload hC dL_law_473 rfl ?_
  refine g_iconst hC dL_law_475 rfl ?_
  refine g_iadd hC dL_law_476 ?_
  refine g_sld hC hX (by omega) (i + 3) (by omega) (by omega) dL_law_477 ?_
  refine g_callV (rest := []) hC (kX7_sheet hl hI ((xs (i + 1)).toInt) ((xs (i + 2)).toInt) ((xs (i + 3)).toInt) (by omega) (by omega) (by omega) g1 hrep) gc_RL_91 rfl hrep.1 rfl ⟨by decide, by decide⟩ ⟨by show cells + 21 + 0 ≤ 601024; omega, by show slots + 2057 + 0 ≤ 7293034; omega⟩ (Nat.le_of_ble_eq_true rfl) rfl dL_law_478 (fun r g2 hp => ?_)
  obtain ⟨z2, F2, hp, h3, h4⟩ := hp
  rw [← e0] at h3 h4
  obtain ⟨ct2, h2R, hM2, hc2⟩ := hM1.mod h1R h3 h4
  have hrep2 := hM2.rep h2R
  rw [e0] at hrep2
  by_cases hc : ((inB ((xs (i + 1)).toInt) (-180) 150 && inB ((xs (i + 2)).toInt) (-60) 41 && inB ((xs (i + 3)).toInt) (0) 1) && (decide (z 11 < 4)) && true) = true
  · rw [if_pos hc] at hp hif
    obtain ⟨rfl, hz, hF⟩ := hp
    obtain ⟨hST1, hf1⟩ := hif
    have hz27 : z2 27 = kv := by rw [hz, ekv]; rfl
    have hsc : mSc (gup z 11 (z 11 + 1)) (shF z F ((xs (i + 1)).toInt) ((xs (i + 2)).toInt) ((xs (i + 3)).toInt)) z2 F2 := by rw [hz, hF]; exact mSc_up
    have hk0 : kv = 0 := by rw [ekv]; exact goes_0 hc
    obtain ⟨hAB, -⟩ := (Bool.and_eq_true _ _).mp hc
    obtain ⟨hA, hB⟩ := (Bool.and_eq_true _ _).mp hAB
    obtain ⟨hA12, hA3⟩ := (Bool.and_eq_true _ _).mp hA
    obtain ⟨hA1, hA2⟩ := (Bool.and_eq_true _ _).mp hA12
    have hI1 : mI (gup z 11 (z 11 + 1)) (shF z F ((xs (i + 1)).toInt) ((xs (i + 2)).toInt) ((xs (i + 3)).toInt)) := mI_sheet hI (inB_t hA1) (inB_t hA2) (by have := inB_t hA3; omega) (of_decide_eq_true hB)
    have hED : mE (gup z 11 (z 11 + 1)) (shF z F ((xs (i + 1)).toInt) ((xs (i + 2)).toInt) ((xs (i + 3)).toInt)) ∧ eQ (gup z 11 (z 11 + 1)) (shF z F ((xs (i + 1)).toInt) ((xs (i + 2)).toInt) ((xs (i + 3)).toInt)) := ed_sheet hI hE hQ
    refine gV.eqs (st' := [vi (z 11)]) rfl rfl rfl ?_
    obtain ⟨bv, ebv⟩ : ∃ bv : Int, bv = z 11 := ⟨_, rfl⟩
    rw [← ebv]
    refine g_istore (lv' := [some (.ref b), some (.ref (ad (2, 0, 0))), some (.ref (ad (0, 0, 0))), some (.ref (ad (30, 0, 0))), some (vi ((i : Int))), some (vi (kv)), some (vi (bv))]) hC dL_law_481 (by decide) rfl ?_
    refine g_ald_n hC dL_law_483 rfl ?_
    refine g_callV (rest := []) hC (kX7_thrown hl g2 hrep2) gc_RL_72 rfl hrep2.1 rfl ⟨by decide, by decide⟩ ⟨by show cells + 21 + 0 + 0 ≤ 601024; omega, by show slots + 2057 + 0 + 0 ≤ 7293034; omega⟩ (Nat.le_of_ble_eq_true rfl) rfl dL_law_484 (fun r g3 hp => ?_)
    obtain ⟨z3, F3, ⟨rfl, hz3, hF3⟩, h5, h6⟩ := hp
    rw [hz3, hF3] at h5
    rw [← e0] at h5 h6
    obtain ⟨ct3, h3R, hM3, hc3⟩ := hM2.mod h2R h5 h6
    rw [hz27]
    refine gV.eqs (st' := [vi kv]) rfl rfl rfl ?_
    refine g_iload hC dL_law_487 rfl ?_
    refine g_icmp_eq (tgt := 494) hC dL_law_489 (by decide) (by omega) (by omega) (fun c_489 => ?_) (fun c_489 => False.elim (by omega))
    refine g_iload hC dL_law_494 rfl ?_
    have hc31 : ∀ t : Tg, 2 ≤ t.1 → ct3 t = ct1 t := fun t ht => by rw [hc3 t ht, hc2 t ht]
    refine g_if_ne (tgt := 511) hC dL_law_496 (by decide) (by omega) (fun c_496 => False.elim (by omega)) (fun c_496 => ?_)
    have hout : g3 (ad (30, 0, 0)) = some (gL 3 1 f1) := by have h9_ := h3R.1 (30, 0, 0) _ ((hc31 _ (by decide)).trans ho1); rw [eo] at h9_; exact h9_
    refine g_ald_n hC dL_law_499 rfl ?_
    refine g_iconst hC dL_law_500 rfl ?_
    refine g_lald hC dL_law_501 hout (by decide) (by decide) ?_
    refine gV.eqs (st' := [.long (iI bv).toInt64]) rfl (by rw [ebv, ← hf1]; rfl) rfl ?_
    refine g_iload hC dL_law_502 rfl ?_
    refine g_i2l hC dL_law_504 ?_
    refine g_lcmpE hC dL_law_505 ?_
    refine g_if_eq (tgt := 511) hC dL_law_506 (by decide) (by omega) (fun c_506 => ?_) (fun c_506 => False.elim (by omega))
    refine g_goto (tgt := 1006) hC dL_law_511 (by decide) ?_
    refine gV.drop (lv' := [some (.ref b), some (.ref (ad (2, 0, 0))), some (.ref (ad (0, 0, 0))), some (.ref (ad (30, 0, 0))), some (vi ((i : Int))), none, none]) (by intro k v hk; match k, hk with | 0, hk => exact hk | 1, hk => exact hk | 2, hk => exact hk | 3, hk => exact hk | 4, hk => exact hk | 5, hk => exact absurd hk (by simp) | 6, hk => exact absurd hk (by simp) | k + 7, hk => exact absurd hk (by simp)) ?_
    refine gV.widen (k := cells + 21) (n := slots + 3849) (by omega) (by omega) ?_
    exact kk g3 ad1 ct3 z2 F2 h3R (LI.mk (hST1.fr (fun t h1 _ => hc31 t h1)) hM3 hI1 hED.1 hED.2 hsc ⟨f1, (hc31 _ (by decide)).trans ho1⟩) ex e0 eo
  · rw [if_neg hc] at hp hif
    obtain ⟨rfl, hz, hF⟩ := hp
    have hz27 : z2 27 = kv := by rw [hz, ekv]; rfl
    have hsc : mSc z F z2 F2 := by rw [hz, hF]; exact mSc.rf
    have hk0 : kv ≠ 0 := by rw [ekv]; exact goes_ne hc
    refine gV.eqs (st' := [vi (0)]) rfl rfl rfl ?_
    obtain ⟨bv, ebv⟩ : ∃ bv : Int, bv = 0 := ⟨_, rfl⟩
    rw [← ebv]
    refine g_istore (lv' := [some (.ref b), some (.ref (ad (2, 0, 0))), some (.ref (ad (0, 0, 0))), some (.ref (ad (30, 0, 0))), some (vi ((i : Int))), some (vi (kv)), some (vi (bv))]) hC dL_law_481 (by decide) rfl ?_
    refine g_ald_n hC dL_law_483 rfl ?_
    refine g_callV (rest := []) hC (kX7_thrown hl g2 hrep2) gc_RL_72 rfl hrep2.1 rfl ⟨by decide, by decide⟩ ⟨by show cells + 21 + 0 + 0 ≤ 601024; omega, by show slots + 2057 + 0 + 0 ≤ 7293034; omega⟩ (Nat.le_of_ble_eq_true rfl) rfl dL_law_484 (fun r g3 hp => ?_)
    obtain ⟨z3, F3, ⟨rfl, hz3, hF3⟩, h5, h6⟩ := hp
    rw [hz3, hF3] at h5
    rw [← e0] at h5 h6
    obtain ⟨ct3, h3R, hM3, hc3⟩ := hM2.mod h2R h5 h6
    rw [hz27]
    refine gV.eqs (st' := [vi kv]) rfl rfl rfl ?_
    refine g_iload hC dL_law_487 rfl ?_
    refine g_icmp_eq (tgt := 494) hC dL_law_489 (by decide) (by omega) (by omega) (fun c_489 => ?_) (fun c_489 => False.elim (by omega))
    refine g_iload hC dL_law_494 rfl ?_
    have hc31 : ∀ t : Tg, 2 ≤ t.1 → ct3 t = ct1 t := fun t ht => by rw [hc3 t ht, hc2 t ht]
    refine g_if_ne (tgt := 511) hC dL_law_496 (by decide) (by omega) (fun c_496 => ?_) (fun c_496 => False.elim (by omega))
    refine g_goto (tgt := 1006) hC dL_law_511 (by decide) ?_
    refine gV.drop (lv' := [some (.ref b), some (.ref (ad (2, 0, 0))), some (.ref (ad (0, 0, 0))), some (.ref (ad (30, 0, 0))), some (vi ((i : Int))), none, none]) (by intro k v hk; match k, hk with | 0, hk => exact hk | 1, hk => exact hk | 2, hk => exact hk | 3, hk => exact hk | 4, hk => exact hk | 5, hk => exact absurd hk (by simp) | 6, hk => exact absurd hk (by simp) | k + 7, hk => exact absurd hk (by simp)) ?_
    refine gV.widen (k := cells + 21) (n := slots + 3849) (by omega) (by omega) ?_
    exact kk g3 ad1 ct3 z2 F2 h3R (LI.mk (hif.fr (fun t h1 _ => hc31 t h1)) hM3 hI hE hQ hsc ⟨f1, (hc31 _ (by decide)).trans ho1⟩) ex e0 eo

set_option maxHeartbeats 4000000 in
set_option maxRecDepth 100000 in
theorem lc_dot {x : gX} {l : Launch} (hl : l.stackTraces = false) {D : gD} {base : Nat} (hC : gK x l D base 7 RL cL_law room_1) {b L : Nat} {xs : Nat → Int32} (hX : gScr x base b L xs) (hL : L ≤ 2560) {i : Nat} (hi : i + 5 ≤ L) {ad : Tg → Nat} {z : Nat → Int} {F : Nat → Nat → Int} {ct : Tg → Option gC} {gh : gH} (hR : cR ad ct gh) (hLI : LI ad z F ct) {cells slots : Nat} (hcl : cells + 21 ≤ 601024) (hsl : slots + 3849 ≤ 7293034)
    (kk : ∀ (gh2 : gH) (ad2 : Tg → Nat) (ct2 : Tg → Option gC) (z2 : Nat → Int) (F2 : Nat → Nat → Int), cR ad2 ct2 gh2 → LI ad2 z2 F2 ct2 → ad2 (2, 0, 0) = ad (2, 0, 0) → ad2 (0, 0, 0) = ad (0, 0, 0) → ad2 (30, 0, 0) = ad (30, 0, 0) → gV x D base 7 1006 [some (.ref b), some (.ref (ad (2, 0, 0))), some (.ref (ad (0, 0, 0))), some (.ref (ad (30, 0, 0))), some (vi (i : Int)), none, none] [] gh2 (cells + 21) (slots + 3849)) : gV x D base 7 514 [some (.ref b), some (.ref (ad (2, 0, 0))), some (.ref (ad (0, 0, 0))), some (.ref (ad (30, 0, 0))), some (vi ((i : Int))), none, none] [] gh cells slots := by
  obtain ⟨hS, hM, hI, hE, hQ, f0, ho⟩ := hLI
  have r1 := iI_rng (xs (i + 1))
  have r2 := iI_rng (xs (i + 2))
  have r3 := iI_rng (xs (i + 3))
  have r4 := iI_rng (xs (i + 4))
  refine g_ald_n hC dL_law_514 rfl ?_
  refine g_ald_n hC dL_law_515 rfl ?_
  refine g_iload hC dL_law_516 rfl ?_
  refine g_iconst hC dL_law_518 rfl ?_
  refine g_iadd hC dL_law_519 ?_
  refine g_sld hC hX (by omega) (i + 1) (by omega) (by omega) dL_law_520 ?_
  refine g_ald_n hC dL_law_521 rfl ?_
  refine g_iload hC dL_law_522 rfl ?_
  refine g_iconst hC dL_law_524 rfl ?_
  refine g_iadd hC dL_law_525 ?_
  refine g_sld hC hX (by omega) (i + 2) (by omega) (by omega) dL_law_526 ?_
  refine g_ald_n hC dL_law_527 rfl ?_
  refine g_iload hC dL_law_528 rfl ?_
  refine g_iconst hC dL_law_530 rfl ?_
  refine g_iadd hC dL_law_531 ?_
  refine g_sld hC hX (by omega) (i + 3) (by omega) (by omega) dL_law_532 ?_
  refine g_cut (A := gV x D base 7 541 [some (.ref b), some (.ref (ad (2, 0, 0))), some (.ref (ad (0, 0, 0))), some (.ref (ad (30, 0, 0))), some (vi ((i : Int))), none, none] [vi (b2i (decide ((xs (i + 3)).toInt ≠ 0))), vi ((xs (i + 2)).toInt), vi ((xs (i + 1)).toInt), .ref (ad (2, 0, 0))] (gh) (cells) (slots)) ?_ (fun j_541 => ?_)
  · refine g_ald_n hC dL_law_541 rfl ?_
    refine g_callSW (rest := []) hC (kL_dot hl hI hS hE hQ ((xs (i + 1)).toInt) ((xs (i + 2)).toInt) (decide ((xs (i + 3)).toInt ≠ 0)) (by omega) (by omega) ho gh hR) gcw_dot rfl ⟨by decide, by decide⟩ ⟨by show cells + 2 ≤ 601024; omega, by show slots + 12 ≤ 7293034; omega⟩ (Nat.le_of_ble_eq_true rfl) rfl dL_law_542 (fun r g1 hp => ?_)
    obtain ⟨rfl, ad1, ct1, f1, h1R, hlo, ex, eo, ho1, hif⟩ := hp
    obtain ⟨kv, ekv⟩ : ∃ kv : Int, kv = goesN (inB ((xs (i + 1)).toInt) 0 (z 11 - 1) && inB ((xs (i + 2)).toInt) 0 (z 3 - 1)) (true) true := ⟨_, rfl⟩
    rw [← ekv]
    have hkr := goesN_rng (a := (inB ((xs (i + 1)).toInt) 0 (z 11 - 1) && inB ((xs (i + 2)).toInt) 0 (z 3 - 1))) (b := (true)) (c := true)
    rw [← ekv] at hkr
    refine gV.eqs (st' := [vi kv]) rfl rfl rfl ?_
    have e0 := (hlo (0, 0, 0) (Nat.zero_le 1)).2
    have hM1 := hM.fr hlo
    have hrep := hM1.rep h1R
    rw [e0] at hrep
    refine g_istore (lv' := [some (.ref b), some (.ref (ad (2, 0, 0))), some (.ref (ad (0, 0, 0))), some (.ref (ad (30, 0, 0))), some (vi ((i : Int))), some (vi (kv)), none]) hC dL_law_545 (by decide) rfl ?_
    refine g_ald_n hC dL_law_547 rfl ?_
    refine g_ald_n hC dL_law_548 rfl ?_
    refine g_iload hC dL_law_549 rfl ?_
    refine g_iconst hC dL_law_551 rfl ?_
    refine g_iadd hC dL_law_552 ?_
    refine g_sld hC hX (by omega) (i + 1) (by omega) (by omega) dL_law_553 ?_
    refine g_ald_n hC dL_law_554 rfl ?_
    refine g_iload hC dL_law_555 rfl ?_
    refine g_iconst hC dL_law_557 rfl ?_
    refine g_iadd hC dL_law_558 ?_
    refine g_sld hC hX (by omega) (i + 2) (by omega) (by omega) dL_law_559 ?_
    refine g_ald_n hC dL_law_560 rfl ?_
    refine g_iload hC dL_law_561 rfl ?_
    refine g_iconst hC dL_law_563 rfl ?_
    refine g_iadd hC dL_law_564 ?_
    refine g_sld hC hX (by omega) (i + 3) (by omega) (by omega) dL_law_565 ?_
    refine g_cut (A := gV x D base 7 574 [some (.ref b), some (.ref (ad (2, 0, 0))), some (.ref (ad (0, 0, 0))), some (.ref (ad (30, 0, 0))), some (vi ((i : Int))), some (vi (kv)), none] [vi (b2i (decide ((xs (i + 3)).toInt ≠ 0))), vi ((xs (i + 2)).toInt), vi ((xs (i + 1)).toInt), .ref (ad (0, 0, 0))] (g1) (cells + 2) (slots + 12)) ?_ (fun j_574 => ?_)
    · refine g_callV (rest := []) hC (kX7_dot hl hI ((xs (i + 1)).toInt) ((xs (i + 2)).toInt) (decide ((xs (i + 3)).toInt ≠ 0)) (by omega) (by omega) g1 hrep) gc_RL_95 rfl hrep.1 rfl ⟨by decide, by decide⟩ ⟨by show cells + 2 + 0 ≤ 601024; omega, by show slots + 12 + 0 ≤ 7293034; omega⟩ (Nat.le_of_ble_eq_true rfl) rfl dL_law_574 (fun r g2 hp => ?_)
      obtain ⟨z2, F2, hp, h3, h4⟩ := hp
      rw [← e0] at h3 h4
      obtain ⟨ct2, h2R, hM2, hc2⟩ := hM1.mod h1R h3 h4
      have hrep2 := hM2.rep h2R
      rw [e0] at hrep2
      by_cases hc : ((inB ((xs (i + 1)).toInt) 0 (z 11 - 1) && inB ((xs (i + 2)).toInt) 0 (z 3 - 1)) && (true) && true) = true
      · rw [if_pos hc] at hp hif
        obtain ⟨rfl, hz, hF⟩ := hp
        obtain ⟨hST1, hf1⟩ := hif
        have hz27 : z2 27 = kv := by rw [hz, ekv]; rfl
        have hsc : mSc (z) (F) z2 F2 := by rw [hz, hF]; exact mSc.rf
        have hk0 : kv = 0 := by rw [ekv]; exact goes_0 hc
        obtain ⟨hAB, -⟩ := (Bool.and_eq_true _ _).mp hc
        obtain ⟨hA, hB⟩ := (Bool.and_eq_true _ _).mp hAB
        have hI1 : mI (z) (F) := hI
        have hED : mE (z) (F) ∧ eQ (z) (F) := ⟨hE, hQ⟩
        refine gV.eqs (st' := [vi (dotV F ((xs (i + 1)).toInt).toNat ((xs (i + 2)).toInt).toNat (decide ((xs (i + 3)).toInt ≠ 0)))]) rfl rfl rfl ?_
        obtain ⟨bv, ebv⟩ : ∃ bv : Int, bv = dotV F ((xs (i + 1)).toInt).toNat ((xs (i + 2)).toInt).toNat (decide ((xs (i + 3)).toInt ≠ 0)) := ⟨_, rfl⟩
        rw [← ebv]
        refine g_istore (lv' := [some (.ref b), some (.ref (ad (2, 0, 0))), some (.ref (ad (0, 0, 0))), some (.ref (ad (30, 0, 0))), some (vi ((i : Int))), some (vi (kv)), some (vi (bv))]) hC dL_law_577 (by decide) rfl ?_
        refine g_ald_n hC dL_law_579 rfl ?_
        refine g_callV (rest := []) hC (kX7_thrown hl g2 hrep2) gc_RL_72 rfl hrep2.1 rfl ⟨by decide, by decide⟩ ⟨by show cells + 2 + 0 + 0 ≤ 601024; omega, by show slots + 12 + 0 + 0 ≤ 7293034; omega⟩ (Nat.le_of_ble_eq_true rfl) rfl dL_law_580 (fun r g3 hp => ?_)
        obtain ⟨z3, F3, ⟨rfl, hz3, hF3⟩, h5, h6⟩ := hp
        rw [hz3, hF3] at h5
        rw [← e0] at h5 h6
        obtain ⟨ct3, h3R, hM3, hc3⟩ := hM2.mod h2R h5 h6
        rw [hz27]
        refine gV.eqs (st' := [vi kv]) rfl rfl rfl ?_
        refine g_iload hC dL_law_583 rfl ?_
        refine g_icmp_eq (tgt := 590) hC dL_law_585 (by decide) (by omega) (by omega) (fun c_585 => ?_) (fun c_585 => False.elim (by omega))
        refine g_iload hC dL_law_590 rfl ?_
        have hc31 : ∀ t : Tg, 2 ≤ t.1 → ct3 t = ct1 t := fun t ht => by rw [hc3 t ht, hc2 t ht]
        refine g_if_ne (tgt := 607) hC dL_law_592 (by decide) (by omega) (fun c_592 => False.elim (by omega)) (fun c_592 => ?_)
        have hout : g3 (ad (30, 0, 0)) = some (gL 3 1 f1) := by have h9_ := h3R.1 (30, 0, 0) _ ((hc31 _ (by decide)).trans ho1); rw [eo] at h9_; exact h9_
        refine g_ald_n hC dL_law_595 rfl ?_
        refine g_iconst hC dL_law_596 rfl ?_
        refine g_lald hC dL_law_597 hout (by decide) (by decide) ?_
        refine gV.eqs (st' := [.long (iI bv).toInt64]) rfl (by rw [ebv, ← hf1]; rfl) rfl ?_
        refine g_iload hC dL_law_598 rfl ?_
        refine g_i2l hC dL_law_600 ?_
        refine g_lcmpE hC dL_law_601 ?_
        refine g_if_eq (tgt := 607) hC dL_law_602 (by decide) (by omega) (fun c_602 => ?_) (fun c_602 => False.elim (by omega))
        refine g_goto (tgt := 1006) hC dL_law_607 (by decide) ?_
        refine gV.drop (lv' := [some (.ref b), some (.ref (ad (2, 0, 0))), some (.ref (ad (0, 0, 0))), some (.ref (ad (30, 0, 0))), some (vi ((i : Int))), none, none]) (by intro k v hk; match k, hk with | 0, hk => exact hk | 1, hk => exact hk | 2, hk => exact hk | 3, hk => exact hk | 4, hk => exact hk | 5, hk => exact absurd hk (by simp) | 6, hk => exact absurd hk (by simp) | k + 7, hk => exact absurd hk (by simp)) ?_
        refine gV.widen (k := cells + 21) (n := slots + 3849) (by omega) (by omega) ?_
        exact kk g3 ad1 ct3 z2 F2 h3R (LI.mk (hST1.fr (fun t h1 _ => hc31 t h1)) hM3 hI1 hED.1 hED.2 hsc ⟨f1, (hc31 _ (by decide)).trans ho1⟩) ex e0 eo
      · rw [if_neg hc] at hp hif
        obtain ⟨rfl, hz, hF⟩ := hp
        have hz27 : z2 27 = kv := by rw [hz, ekv]; rfl
        have hsc : mSc z F z2 F2 := by rw [hz, hF]; exact mSc.rf
        have hk0 : kv ≠ 0 := by rw [ekv]; exact goes_ne hc
        refine gV.eqs (st' := [vi (0)]) rfl rfl rfl ?_
        obtain ⟨bv, ebv⟩ : ∃ bv : Int, bv = 0 := ⟨_, rfl⟩
        rw [← ebv]
        refine g_istore (lv' := [some (.ref b), some (.ref (ad (2, 0, 0))), some (.ref (ad (0, 0, 0))), some (.ref (ad (30, 0, 0))), some (vi ((i : Int))), some (vi (kv)), some (vi (bv))]) hC dL_law_577 (by decide) rfl ?_
        refine g_ald_n hC dL_law_579 rfl ?_
        refine g_callV (rest := []) hC (kX7_thrown hl g2 hrep2) gc_RL_72 rfl hrep2.1 rfl ⟨by decide, by decide⟩ ⟨by show cells + 2 + 0 + 0 ≤ 601024; omega, by show slots + 12 + 0 + 0 ≤ 7293034; omega⟩ (Nat.le_of_ble_eq_true rfl) rfl dL_law_580 (fun r g3 hp => ?_)
        obtain ⟨z3, F3, ⟨rfl, hz3, hF3⟩, h5, h6⟩ := hp
        rw [hz3, hF3] at h5
        rw [← e0] at h5 h6
        obtain ⟨ct3, h3R, hM3, hc3⟩ := hM2.mod h2R h5 h6
        rw [hz27]
        refine gV.eqs (st' := [vi kv]) rfl rfl rfl ?_
        refine g_iload hC dL_law_583 rfl ?_
        refine g_icmp_eq (tgt := 590) hC dL_law_585 (by decide) (by omega) (by omega) (fun c_585 => ?_) (fun c_585 => False.elim (by omega))
        refine g_iload hC dL_law_590 rfl ?_
        have hc31 : ∀ t : Tg, 2 ≤ t.1 → ct3 t = ct1 t := fun t ht => by rw [hc3 t ht, hc2 t ht]
        refine g_if_ne (tgt := 607) hC dL_law_592 (by decide) (by omega) (fun c_592 => ?_) (fun c_592 => False.elim (by omega))
        refine g_goto (tgt := 1006) hC dL_law_607 (by decide) ?_
        refine gV.drop (lv' := [some (.ref b), some (.ref (ad (2, 0, 0))), some (.ref (ad (0, 0, 0))), some (.ref (ad (30, 0, 0))), some (vi ((i : Int))), none, none]) (by intro k v hk; match k, hk with | 0, hk => exact hk | 1, hk => exact hk | 2, hk => exact hk | 3, hk => exact hk | 4, hk => exact hk | 5, hk => exact absurd hk (by simp) | 6, hk => exact absurd hk (by simp) | k + 7, hk => exact absurd hk (by simp)) ?_
        refine gV.widen (k := cells + 21) (n := slots + 3849) (by omega) (by omega) ?_
        exact kk g3 ad1 ct3 z2 F2 h3R (LI.mk (hif.fr (fun t h1 _ => hc31 t h1)) hM3 hI hE hQ hsc ⟨f1, (hc31 _ (by decide)).trans ho1⟩) ex e0 eo
    · refine g_if_eq (tgt := 573) hC dL_law_566 (by decide) (by omega) (fun c_566 => ?_) (fun c_566 => ?_)
      · refine g_iconst hC dL_law_573 rfl ?_
        refine g_top (b := b2i (decide ((xs (i + 3)).toInt ≠ 0))) (b2i_f (by simp [c_566])) ?_
        exact j_574
      · refine g_iconst hC dL_law_569 rfl ?_
        refine g_goto (tgt := 574) hC dL_law_570 (by decide) ?_
        refine g_top (b := b2i (decide ((xs (i + 3)).toInt ≠ 0))) (b2i_t (by simp [c_566])) ?_
        exact j_574
  · refine g_if_eq (tgt := 540) hC dL_law_533 (by decide) (by omega) (fun c_533 => ?_) (fun c_533 => ?_)
    · refine g_iconst hC dL_law_540 rfl ?_
      refine g_top (b := b2i (decide ((xs (i + 3)).toInt ≠ 0))) (b2i_f (by simp [c_533])) ?_
      exact j_541
    · refine g_iconst hC dL_law_536 rfl ?_
      refine g_goto (tgt := 541) hC dL_law_537 (by decide) ?_
      refine g_top (b := b2i (decide ((xs (i + 3)).toInt ≠ 0))) (b2i_t (by simp [c_533])) ?_
      exact j_541

set_option maxHeartbeats 4000000 in
set_option maxRecDepth 100000 in
theorem lc_side {x : gX} {l : Launch} (hl : l.stackTraces = false) {D : gD} {base : Nat} (hC : gK x l D base 7 RL cL_law room_1) {b L : Nat} {xs : Nat → Int32} (hX : gScr x base b L xs) (hL : L ≤ 2560) {i : Nat} (hi : i + 5 ≤ L) {ad : Tg → Nat} {z : Nat → Int} {F : Nat → Nat → Int} {ct : Tg → Option gC} {gh : gH} (hR : cR ad ct gh) (hLI : LI ad z F ct) {cells slots : Nat} (hcl : cells + 21 ≤ 601024) (hsl : slots + 3849 ≤ 7293034)
    (kk : ∀ (gh2 : gH) (ad2 : Tg → Nat) (ct2 : Tg → Option gC) (z2 : Nat → Int) (F2 : Nat → Nat → Int), cR ad2 ct2 gh2 → LI ad2 z2 F2 ct2 → ad2 (2, 0, 0) = ad (2, 0, 0) → ad2 (0, 0, 0) = ad (0, 0, 0) → ad2 (30, 0, 0) = ad (30, 0, 0) → gV x D base 7 1006 [some (.ref b), some (.ref (ad (2, 0, 0))), some (.ref (ad (0, 0, 0))), some (.ref (ad (30, 0, 0))), some (vi (i : Int)), none, none] [] gh2 (cells + 21) (slots + 3849)) : gV x D base 7 610 [some (.ref b), some (.ref (ad (2, 0, 0))), some (.ref (ad (0, 0, 0))), some (.ref (ad (30, 0, 0))), some (vi ((i : Int))), none, none] [] gh cells slots := by
  obtain ⟨hS, hM, hI, hE, hQ, f0, ho⟩ := hLI
  have r1 := iI_rng (xs (i + 1))
  have r2 := iI_rng (xs (i + 2))
  have r3 := iI_rng (xs (i + 3))
  have r4 := iI_rng (xs (i + 4))
  refine g_ald_n hC dL_law_610 rfl ?_
  refine g_ald_n hC dL_law_611 rfl ?_
  refine g_iload hC dL_law_612 rfl ?_
  refine g_iconst hC dL_law_614 rfl ?_
  refine g_iadd hC dL_law_615 ?_
  refine g_sld hC hX (by omega) (i + 1) (by omega) (by omega) dL_law_616 ?_
  refine g_ald_n hC dL_law_617 rfl ?_
  refine g_iload hC dL_law_618 rfl ?_
  refine g_iconst hC dL_law_620 rfl ?_
  refine g_iadd hC dL_law_621 ?_
  refine g_sld hC hX (by omega) (i + 2) (by omega) (by omega) dL_law_622 ?_
  refine g_ald_n hC dL_law_623 rfl ?_
  refine g_callSW (rest := []) hC (kL_side hl hI hS hE hQ ((xs (i + 1)).toInt) ((xs (i + 2)).toInt) (by omega) (by omega) ho gh hR) gcw_side rfl ⟨by decide, by decide⟩ ⟨by show cells + 2 ≤ 601024; omega, by show slots + 12 ≤ 7293034; omega⟩ (Nat.le_of_ble_eq_true rfl) rfl dL_law_624 (fun r g1 hp => ?_)
  obtain ⟨rfl, ad1, ct1, f1, h1R, hlo, ex, eo, ho1, hif⟩ := hp
  obtain ⟨kv, ekv⟩ : ∃ kv : Int, kv = goesN (inB ((xs (i + 1)).toInt) 0 (z 11 - 1) && inB ((xs (i + 2)).toInt) 0 (z 3 - 1)) (true) true := ⟨_, rfl⟩
  rw [← ekv]
  have hkr := goesN_rng (a := (inB ((xs (i + 1)).toInt) 0 (z 11 - 1) && inB ((xs (i + 2)).toInt) 0 (z 3 - 1))) (b := (true)) (c := true)
  rw [← ekv] at hkr
  refine gV.eqs (st' := [vi kv]) rfl rfl rfl ?_
  have e0 := (hlo (0, 0, 0) (Nat.zero_le 1)).2
  have hM1 := hM.fr hlo
  have hrep := hM1.rep h1R
  rw [e0] at hrep
  refine g_istore (lv' := [some (.ref b), some (.ref (ad (2, 0, 0))), some (.ref (ad (0, 0, 0))), some (.ref (ad (30, 0, 0))), some (vi ((i : Int))), some (vi (kv)), none]) hC dL_law_627 (by decide) rfl ?_
  refine g_ald_n hC dL_law_629 rfl ?_
  refine g_ald_n hC dL_law_630 rfl ?_
  refine g_iload hC dL_law_631 rfl ?_
  refine g_iconst hC dL_law_633 rfl ?_
  refine g_iadd hC dL_law_634 ?_
  refine g_sld hC hX (by omega) (i + 1) (by omega) (by omega) dL_law_635 ?_
  refine g_ald_n hC dL_law_636 rfl ?_
  refine g_iload hC dL_law_637 rfl ?_
  refine g_iconst hC dL_law_639 rfl ?_
  refine g_iadd hC dL_law_640 ?_
  refine g_sld hC hX (by omega) (i + 2) (by omega) (by omega) dL_law_641 ?_
  refine g_callV (rest := []) hC (kX7_side hl hI ((xs (i + 1)).toInt) ((xs (i + 2)).toInt) (by omega) (by omega) g1 hrep) gc_RL_99 rfl hrep.1 rfl ⟨by decide, by decide⟩ ⟨by show cells + 2 + 0 ≤ 601024; omega, by show slots + 12 + 0 ≤ 7293034; omega⟩ (Nat.le_of_ble_eq_true rfl) rfl dL_law_642 (fun r g2 hp => ?_)
  obtain ⟨z2, F2, hp, h3, h4⟩ := hp
  rw [← e0] at h3 h4
  obtain ⟨ct2, h2R, hM2, hc2⟩ := hM1.mod h1R h3 h4
  have hrep2 := hM2.rep h2R
  rw [e0] at hrep2
  by_cases hc : ((inB ((xs (i + 1)).toInt) 0 (z 11 - 1) && inB ((xs (i + 2)).toInt) 0 (z 3 - 1)) && (true) && true) = true
  · rw [if_pos hc] at hp hif
    obtain ⟨rfl, hz27, hsc⟩ := hp
    obtain ⟨hST1, hf1⟩ := hif
    rw [← ekv] at hz27
    have hk0 : kv = 0 := by rw [ekv]; exact goes_0 hc
    obtain ⟨hAB, -⟩ := (Bool.and_eq_true _ _).mp hc
    obtain ⟨hA, hB⟩ := (Bool.and_eq_true _ _).mp hAB
    have hI1 : mI (z) (F) := hI
    have hED : mE (z) (F) ∧ eQ (z) (F) := ⟨hE, hQ⟩
    refine gV.eqs (st' := [vi ((lay0 F ((xs (i + 1)).toInt).toNat (z 3).toNat (z 0)).1 ((xs (i + 2)).toInt).toNat)]) rfl rfl rfl ?_
    obtain ⟨bv, ebv⟩ : ∃ bv : Int, bv = (lay0 F ((xs (i + 1)).toInt).toNat (z 3).toNat (z 0)).1 ((xs (i + 2)).toInt).toNat := ⟨_, rfl⟩
    rw [← ebv]
    refine g_istore (lv' := [some (.ref b), some (.ref (ad (2, 0, 0))), some (.ref (ad (0, 0, 0))), some (.ref (ad (30, 0, 0))), some (vi ((i : Int))), some (vi (kv)), some (vi (bv))]) hC dL_law_645 (by decide) rfl ?_
    refine g_ald_n hC dL_law_647 rfl ?_
    refine g_callV (rest := []) hC (kX7_thrown hl g2 hrep2) gc_RL_72 rfl hrep2.1 rfl ⟨by decide, by decide⟩ ⟨by show cells + 2 + 0 + 0 ≤ 601024; omega, by show slots + 12 + 0 + 0 ≤ 7293034; omega⟩ (Nat.le_of_ble_eq_true rfl) rfl dL_law_648 (fun r g3 hp => ?_)
    obtain ⟨z3, F3, ⟨rfl, hz3, hF3⟩, h5, h6⟩ := hp
    rw [hz3, hF3] at h5
    rw [← e0] at h5 h6
    obtain ⟨ct3, h3R, hM3, hc3⟩ := hM2.mod h2R h5 h6
    rw [hz27]
    refine gV.eqs (st' := [vi kv]) rfl rfl rfl ?_
    refine g_iload hC dL_law_651 rfl ?_
    refine g_icmp_eq (tgt := 658) hC dL_law_653 (by decide) (by omega) (by omega) (fun c_653 => ?_) (fun c_653 => False.elim (by omega))
    refine g_iload hC dL_law_658 rfl ?_
    have hc31 : ∀ t : Tg, 2 ≤ t.1 → ct3 t = ct1 t := fun t ht => by rw [hc3 t ht, hc2 t ht]
    refine g_if_ne (tgt := 675) hC dL_law_660 (by decide) (by omega) (fun c_660 => False.elim (by omega)) (fun c_660 => ?_)
    have hout : g3 (ad (30, 0, 0)) = some (gL 3 1 f1) := by have h9_ := h3R.1 (30, 0, 0) _ ((hc31 _ (by decide)).trans ho1); rw [eo] at h9_; exact h9_
    refine g_ald_n hC dL_law_663 rfl ?_
    refine g_iconst hC dL_law_664 rfl ?_
    refine g_lald hC dL_law_665 hout (by decide) (by decide) ?_
    refine gV.eqs (st' := [.long (iI bv).toInt64]) rfl (by rw [ebv, ← hf1]; rfl) rfl ?_
    refine g_iload hC dL_law_666 rfl ?_
    refine g_i2l hC dL_law_668 ?_
    refine g_lcmpE hC dL_law_669 ?_
    refine g_if_eq (tgt := 675) hC dL_law_670 (by decide) (by omega) (fun c_670 => ?_) (fun c_670 => False.elim (by omega))
    refine g_goto (tgt := 1006) hC dL_law_675 (by decide) ?_
    refine gV.drop (lv' := [some (.ref b), some (.ref (ad (2, 0, 0))), some (.ref (ad (0, 0, 0))), some (.ref (ad (30, 0, 0))), some (vi ((i : Int))), none, none]) (by intro k v hk; match k, hk with | 0, hk => exact hk | 1, hk => exact hk | 2, hk => exact hk | 3, hk => exact hk | 4, hk => exact hk | 5, hk => exact absurd hk (by simp) | 6, hk => exact absurd hk (by simp) | k + 7, hk => exact absurd hk (by simp)) ?_
    refine gV.widen (k := cells + 21) (n := slots + 3849) (by omega) (by omega) ?_
    exact kk g3 ad1 ct3 z2 F2 h3R (LI.mk (hST1.fr (fun t h1 _ => hc31 t h1)) hM3 hI1 hED.1 hED.2 hsc ⟨f1, (hc31 _ (by decide)).trans ho1⟩) ex e0 eo
  · rw [if_neg hc] at hp hif
    obtain ⟨rfl, hz27, hsc⟩ := hp
    rw [← ekv] at hz27
    have hk0 : kv ≠ 0 := by rw [ekv]; exact goes_ne hc
    refine gV.eqs (st' := [vi (0)]) rfl rfl rfl ?_
    obtain ⟨bv, ebv⟩ : ∃ bv : Int, bv = 0 := ⟨_, rfl⟩
    rw [← ebv]
    refine g_istore (lv' := [some (.ref b), some (.ref (ad (2, 0, 0))), some (.ref (ad (0, 0, 0))), some (.ref (ad (30, 0, 0))), some (vi ((i : Int))), some (vi (kv)), some (vi (bv))]) hC dL_law_645 (by decide) rfl ?_
    refine g_ald_n hC dL_law_647 rfl ?_
    refine g_callV (rest := []) hC (kX7_thrown hl g2 hrep2) gc_RL_72 rfl hrep2.1 rfl ⟨by decide, by decide⟩ ⟨by show cells + 2 + 0 + 0 ≤ 601024; omega, by show slots + 12 + 0 + 0 ≤ 7293034; omega⟩ (Nat.le_of_ble_eq_true rfl) rfl dL_law_648 (fun r g3 hp => ?_)
    obtain ⟨z3, F3, ⟨rfl, hz3, hF3⟩, h5, h6⟩ := hp
    rw [hz3, hF3] at h5
    rw [← e0] at h5 h6
    obtain ⟨ct3, h3R, hM3, hc3⟩ := hM2.mod h2R h5 h6
    rw [hz27]
    refine gV.eqs (st' := [vi kv]) rfl rfl rfl ?_
    refine g_iload hC dL_law_651 rfl ?_
    refine g_icmp_eq (tgt := 658) hC dL_law_653 (by decide) (by omega) (by omega) (fun c_653 => ?_) (fun c_653 => False.elim (by omega))
    refine g_iload hC dL_law_658 rfl ?_
    have hc31 : ∀ t : Tg, 2 ≤ t.1 → ct3 t = ct1 t := fun t ht => by rw [hc3 t ht, hc2 t ht]
    refine g_if_ne (tgt := 675) hC dL_law_660 (by decide) (by omega) (fun c_660 => ?_) (fun c_660 => False.elim (by omega))
    refine g_goto (tgt := 1006) hC dL_law_675 (by decide) ?_
    refine gV.drop (lv' := [some (.ref b), some (.ref (ad (2, 0, 0))), some (.ref (ad (0, 0, 0))), some (.ref (ad (30, 0, 0))), some (vi ((i : Int))), none, none]) (by intro k v hk; match k, hk with | 0, hk => exact hk | 1, hk => exact hk | 2, hk => exact hk | 3, hk => exact hk | 4, hk => exact hk | 5, hk => exact absurd hk (by simp) | 6, hk => exact absurd hk (by simp) | k + 7, hk => exact absurd hk (by simp)) ?_
    refine gV.widen (k := cells + 21) (n := slots + 3849) (by omega) (by omega) ?_
    exact kk g3 ad1 ct3 z2 F2 h3R (LI.mk (hif.fr (fun t h1 _ => hc31 t h1)) hM3 hI hE hQ hsc ⟨f1, (hc31 _ (by decide)).trans ho1⟩) ex e0 eo

set_option maxHeartbeats 4000000 in
set_option maxRecDepth 100000 in
theorem lc_drawn {x : gX} {l : Launch} (hl : l.stackTraces = false) {D : gD} {base : Nat} (hC : gK x l D base 7 RL cL_law room_1) {b L : Nat} {xs : Nat → Int32} (hX : gScr x base b L xs) (hL : L ≤ 2560) {i : Nat} (hi : i + 5 ≤ L) {ad : Tg → Nat} {z : Nat → Int} {F : Nat → Nat → Int} {ct : Tg → Option gC} {gh : gH} (hR : cR ad ct gh) (hLI : LI ad z F ct) {cells slots : Nat} (hcl : cells + 21 ≤ 601024) (hsl : slots + 3849 ≤ 7293034)
    (kk : ∀ (gh2 : gH) (ad2 : Tg → Nat) (ct2 : Tg → Option gC) (z2 : Nat → Int) (F2 : Nat → Nat → Int), cR ad2 ct2 gh2 → LI ad2 z2 F2 ct2 → ad2 (2, 0, 0) = ad (2, 0, 0) → ad2 (0, 0, 0) = ad (0, 0, 0) → ad2 (30, 0, 0) = ad (30, 0, 0) → gV x D base 7 1006 [some (.ref b), some (.ref (ad (2, 0, 0))), some (.ref (ad (0, 0, 0))), some (.ref (ad (30, 0, 0))), some (vi (i : Int)), none, none] [] gh2 (cells + 21) (slots + 3849)) : gV x D base 7 678 [some (.ref b), some (.ref (ad (2, 0, 0))), some (.ref (ad (0, 0, 0))), some (.ref (ad (30, 0, 0))), some (vi ((i : Int))), none, none] [] gh cells slots := by
  obtain ⟨hS, hM, hI, hE, hQ, f0, ho⟩ := hLI
  have r1 := iI_rng (xs (i + 1))
  have r2 := iI_rng (xs (i + 2))
  have r3 := iI_rng (xs (i + 3))
  have r4 := iI_rng (xs (i + 4))
  refine g_ald_n hC dL_law_678 rfl ?_
  refine g_ald_n hC dL_law_679 rfl ?_
  refine g_iload hC dL_law_680 rfl ?_
  refine g_iconst hC dL_law_682 rfl ?_
  refine g_iadd hC dL_law_683 ?_
  refine g_sld hC hX (by omega) (i + 1) (by omega) (by omega) dL_law_684 ?_
  refine g_ald_n hC dL_law_685 rfl ?_
  refine g_iload hC dL_law_686 rfl ?_
  refine g_iconst hC dL_law_688 rfl ?_
  refine g_iadd hC dL_law_689 ?_
  refine g_sld hC hX (by omega) (i + 2) (by omega) (by omega) dL_law_690 ?_
  refine g_ald_n hC dL_law_691 rfl ?_
  refine g_iload hC dL_law_692 rfl ?_
  refine g_iconst hC dL_law_694 rfl ?_
  refine g_iadd hC dL_law_695 ?_
  refine g_sld hC hX (by omega) (i + 3) (by omega) (by omega) dL_law_696 ?_
  refine g_ald_n hC dL_law_697 rfl ?_
  refine g_callSW (rest := []) hC (kL_drawn hl hI hS hE hQ ((xs (i + 1)).toInt) ((xs (i + 2)).toInt) ((xs (i + 3)).toInt) (by omega) (by omega) (by omega) ho gh hR) gcw_drawn rfl ⟨by decide, by decide⟩ ⟨by show cells + 2 ≤ 601024; omega, by show slots + 12 ≤ 7293034; omega⟩ (Nat.le_of_ble_eq_true rfl) rfl dL_law_698 (fun r g1 hp => ?_)
  obtain ⟨rfl, ad1, ct1, f1, h1R, hlo, ex, eo, ho1, hif⟩ := hp
  obtain ⟨kv, ekv⟩ : ∃ kv : Int, kv = goesN (inB ((xs (i + 1)).toInt) 0 (z 11 - 1) && (inB ((xs (i + 2)).toInt) 0 23 && inB ((xs (i + 3)).toInt) 0 39)) (true) true := ⟨_, rfl⟩
  rw [← ekv]
  have hkr := goesN_rng (a := (inB ((xs (i + 1)).toInt) 0 (z 11 - 1) && (inB ((xs (i + 2)).toInt) 0 23 && inB ((xs (i + 3)).toInt) 0 39))) (b := (true)) (c := true)
  rw [← ekv] at hkr
  refine gV.eqs (st' := [vi kv]) rfl rfl rfl ?_
  have e0 := (hlo (0, 0, 0) (Nat.zero_le 1)).2
  have hM1 := hM.fr hlo
  have hrep := hM1.rep h1R
  rw [e0] at hrep
  refine g_istore (lv' := [some (.ref b), some (.ref (ad (2, 0, 0))), some (.ref (ad (0, 0, 0))), some (.ref (ad (30, 0, 0))), some (vi ((i : Int))), some (vi (kv)), none]) hC dL_law_701 (by decide) rfl ?_
  refine g_ald_n hC dL_law_703 rfl ?_
  refine g_ald_n hC dL_law_704 rfl ?_
  refine g_iload hC dL_law_705 rfl ?_
  refine g_iconst hC dL_law_707 rfl ?_
  refine g_iadd hC dL_law_708 ?_
  refine g_sld hC hX (by omega) (i + 1) (by omega) (by omega) dL_law_709 ?_
  refine g_ald_n hC dL_law_710 rfl ?_
  refine g_iload hC dL_law_711 rfl ?_
  refine g_iconst hC dL_law_713 rfl ?_
  refine g_iadd hC dL_law_714 ?_
  refine g_sld hC hX (by omega) (i + 2) (by omega) (by omega) dL_law_715 ?_
  refine g_ald_n hC dL_law_716 rfl ?_
  refine g_iload hC dL_law_717 rfl ?_
  refine g_iconst hC dL_law_719 rfl ?_
  refine g_iadd hC dL_law_720 ?_
  refine g_sld hC hX (by omega) (i + 3) (by omega) (by omega) dL_law_721 ?_
  refine g_callV (rest := []) hC (kX7_drawn hl hI ((xs (i + 1)).toInt) ((xs (i + 2)).toInt) ((xs (i + 3)).toInt) (by omega) (by omega) (by omega) g1 hrep) gc_RL_102 rfl hrep.1 rfl ⟨by decide, by decide⟩ ⟨by show cells + 2 + 0 ≤ 601024; omega, by show slots + 12 + 0 ≤ 7293034; omega⟩ (Nat.le_of_ble_eq_true rfl) rfl dL_law_722 (fun r g2 hp => ?_)
  obtain ⟨z2, F2, hp, h3, h4⟩ := hp
  rw [← e0] at h3 h4
  obtain ⟨ct2, h2R, hM2, hc2⟩ := hM1.mod h1R h3 h4
  have hrep2 := hM2.rep h2R
  rw [e0] at hrep2
  by_cases hc : ((inB ((xs (i + 1)).toInt) 0 (z 11 - 1) && (inB ((xs (i + 2)).toInt) 0 23 && inB ((xs (i + 3)).toInt) 0 39)) && (true) && true) = true
  · rw [if_pos hc] at hp hif
    obtain ⟨rfl, hz27, hsc⟩ := hp
    obtain ⟨hST1, hf1⟩ := hif
    rw [← ekv] at hz27
    have hk0 : kv = 0 := by rw [ekv]; exact goes_0 hc
    obtain ⟨hAB, -⟩ := (Bool.and_eq_true _ _).mp hc
    obtain ⟨hA, hB⟩ := (Bool.and_eq_true _ _).mp hAB
    have hI1 : mI (z) (F) := hI
    have hED : mE (z) (F) ∧ eQ (z) (F) := ⟨hE, hQ⟩
    refine gV.eqs (st' := [vi ((lay0 F ((xs (i + 1)).toInt).toNat (z 3).toNat (z 0)).2 (40 * ((xs (i + 2)).toInt) + ((xs (i + 3)).toInt)).toNat)]) rfl rfl rfl ?_
    obtain ⟨bv, ebv⟩ : ∃ bv : Int, bv = (lay0 F ((xs (i + 1)).toInt).toNat (z 3).toNat (z 0)).2 (40 * ((xs (i + 2)).toInt) + ((xs (i + 3)).toInt)).toNat := ⟨_, rfl⟩
    rw [← ebv]
    refine g_istore (lv' := [some (.ref b), some (.ref (ad (2, 0, 0))), some (.ref (ad (0, 0, 0))), some (.ref (ad (30, 0, 0))), some (vi ((i : Int))), some (vi (kv)), some (vi (bv))]) hC dL_law_725 (by decide) rfl ?_
    refine g_ald_n hC dL_law_727 rfl ?_
    refine g_callV (rest := []) hC (kX7_thrown hl g2 hrep2) gc_RL_72 rfl hrep2.1 rfl ⟨by decide, by decide⟩ ⟨by show cells + 2 + 0 + 0 ≤ 601024; omega, by show slots + 12 + 0 + 0 ≤ 7293034; omega⟩ (Nat.le_of_ble_eq_true rfl) rfl dL_law_728 (fun r g3 hp => ?_)
    obtain ⟨z3, F3, ⟨rfl, hz3, hF3⟩, h5, h6⟩ := hp
    rw [hz3, hF3] at h5
    rw [← e0] at h5 h6
    obtain ⟨ct3, h3R, hM3, hc3⟩ := hM2.mod h2R h5 h6
    rw [hz27]
    refine gV.eqs (st' := [vi kv]) rfl rfl rfl ?_
    refine g_iload hC dL_law_731 rfl ?_
    refine g_icmp_eq (tgt := 738) hC dL_law_733 (by decide) (by omega) (by omega) (fun c_733 => ?_) (fun c_733 => False.elim (by omega))
    refine g_iload hC dL_law_738 rfl ?_
    have hc31 : ∀ t : Tg, 2 ≤ t.1 → ct3 t = ct1 t := fun t ht => by rw [hc3 t ht, hc2 t ht]
    refine g_if_ne (tgt := 755) hC dL_law_740 (by decide) (by omega) (fun c_740 => False.elim (by omega)) (fun c_740 => ?_)
    have hout : g3 (ad (30, 0, 0)) = some (gL 3 1 f1) := by have h9_ := h3R.1 (30, 0, 0) _ ((hc31 _ (by decide)).trans ho1); rw [eo] at h9_; exact h9_
    refine g_ald_n hC dL_law_743 rfl ?_
    refine g_iconst hC dL_law_744 rfl ?_
    refine g_lald hC dL_law_745 hout (by decide) (by decide) ?_
    refine gV.eqs (st' := [.long (iI bv).toInt64]) rfl (by rw [ebv, ← hf1]; rfl) rfl ?_
    refine g_iload hC dL_law_746 rfl ?_
    refine g_i2l hC dL_law_748 ?_
    refine g_lcmpE hC dL_law_749 ?_
    refine g_if_eq (tgt := 755) hC dL_law_750 (by decide) (by omega) (fun c_750 => ?_) (fun c_750 => False.elim (by omega))
    refine g_goto (tgt := 1006) hC dL_law_755 (by decide) ?_
    refine gV.drop (lv' := [some (.ref b), some (.ref (ad (2, 0, 0))), some (.ref (ad (0, 0, 0))), some (.ref (ad (30, 0, 0))), some (vi ((i : Int))), none, none]) (by intro k v hk; match k, hk with | 0, hk => exact hk | 1, hk => exact hk | 2, hk => exact hk | 3, hk => exact hk | 4, hk => exact hk | 5, hk => exact absurd hk (by simp) | 6, hk => exact absurd hk (by simp) | k + 7, hk => exact absurd hk (by simp)) ?_
    refine gV.widen (k := cells + 21) (n := slots + 3849) (by omega) (by omega) ?_
    exact kk g3 ad1 ct3 z2 F2 h3R (LI.mk (hST1.fr (fun t h1 _ => hc31 t h1)) hM3 hI1 hED.1 hED.2 hsc ⟨f1, (hc31 _ (by decide)).trans ho1⟩) ex e0 eo
  · rw [if_neg hc] at hp hif
    obtain ⟨rfl, hz27, hsc⟩ := hp
    rw [← ekv] at hz27
    have hk0 : kv ≠ 0 := by rw [ekv]; exact goes_ne hc
    refine gV.eqs (st' := [vi (32)]) rfl rfl rfl ?_
    obtain ⟨bv, ebv⟩ : ∃ bv : Int, bv = 32 := ⟨_, rfl⟩
    rw [← ebv]
    refine g_istore (lv' := [some (.ref b), some (.ref (ad (2, 0, 0))), some (.ref (ad (0, 0, 0))), some (.ref (ad (30, 0, 0))), some (vi ((i : Int))), some (vi (kv)), some (vi (bv))]) hC dL_law_725 (by decide) rfl ?_
    refine g_ald_n hC dL_law_727 rfl ?_
    refine g_callV (rest := []) hC (kX7_thrown hl g2 hrep2) gc_RL_72 rfl hrep2.1 rfl ⟨by decide, by decide⟩ ⟨by show cells + 2 + 0 + 0 ≤ 601024; omega, by show slots + 12 + 0 + 0 ≤ 7293034; omega⟩ (Nat.le_of_ble_eq_true rfl) rfl dL_law_728 (fun r g3 hp => ?_)
    obtain ⟨z3, F3, ⟨rfl, hz3, hF3⟩, h5, h6⟩ := hp
    rw [hz3, hF3] at h5
    rw [← e0] at h5 h6
    obtain ⟨ct3, h3R, hM3, hc3⟩ := hM2.mod h2R h5 h6
    rw [hz27]
    refine gV.eqs (st' := [vi kv]) rfl rfl rfl ?_
    refine g_iload hC dL_law_731 rfl ?_
    refine g_icmp_eq (tgt := 738) hC dL_law_733 (by decide) (by omega) (by omega) (fun c_733 => ?_) (fun c_733 => False.elim (by omega))
    refine g_iload hC dL_law_738 rfl ?_
    have hc31 : ∀ t : Tg, 2 ≤ t.1 → ct3 t = ct1 t := fun t ht => by rw [hc3 t ht, hc2 t ht]
    refine g_if_ne (tgt := 755) hC dL_law_740 (by decide) (by omega) (fun c_740 => ?_) (fun c_740 => False.elim (by omega))
    refine g_goto (tgt := 1006) hC dL_law_755 (by decide) ?_
    refine gV.drop (lv' := [some (.ref b), some (.ref (ad (2, 0, 0))), some (.ref (ad (0, 0, 0))), some (.ref (ad (30, 0, 0))), some (vi ((i : Int))), none, none]) (by intro k v hk; match k, hk with | 0, hk => exact hk | 1, hk => exact hk | 2, hk => exact hk | 3, hk => exact hk | 4, hk => exact hk | 5, hk => exact absurd hk (by simp) | 6, hk => exact absurd hk (by simp) | k + 7, hk => exact absurd hk (by simp)) ?_
    refine gV.widen (k := cells + 21) (n := slots + 3849) (by omega) (by omega) ?_
    exact kk g3 ad1 ct3 z2 F2 h3R (LI.mk (hif.fr (fun t h1 _ => hc31 t h1)) hM3 hI hE hQ hsc ⟨f1, (hc31 _ (by decide)).trans ho1⟩) ex e0 eo

set_option maxHeartbeats 4000000 in
set_option maxRecDepth 100000 in
theorem lc_worth {x : gX} {l : Launch} (hl : l.stackTraces = false) {D : gD} {base : Nat} (hC : gK x l D base 7 RL cL_law room_1) {b L : Nat} {xs : Nat → Int32} (hX : gScr x base b L xs) (hL : L ≤ 2560) {i : Nat} (hi : i + 5 ≤ L) {ad : Tg → Nat} {z : Nat → Int} {F : Nat → Nat → Int} {ct : Tg → Option gC} {gh : gH} (hR : cR ad ct gh) (hLI : LI ad z F ct) {cells slots : Nat} (hcl : cells + 21 ≤ 601024) (hsl : slots + 3849 ≤ 7293034)
    (kk : ∀ (gh2 : gH) (ad2 : Tg → Nat) (ct2 : Tg → Option gC) (z2 : Nat → Int) (F2 : Nat → Nat → Int), cR ad2 ct2 gh2 → LI ad2 z2 F2 ct2 → ad2 (2, 0, 0) = ad (2, 0, 0) → ad2 (0, 0, 0) = ad (0, 0, 0) → ad2 (30, 0, 0) = ad (30, 0, 0) → gV x D base 7 1006 [some (.ref b), some (.ref (ad (2, 0, 0))), some (.ref (ad (0, 0, 0))), some (.ref (ad (30, 0, 0))), some (vi (i : Int)), none, none] [] gh2 (cells + 21) (slots + 3849)) : gV x D base 7 758 [some (.ref b), some (.ref (ad (2, 0, 0))), some (.ref (ad (0, 0, 0))), some (.ref (ad (30, 0, 0))), some (vi ((i : Int))), none, none] [] gh cells slots := by
  obtain ⟨hS, hM, hI, hE, hQ, f0, ho⟩ := hLI
  have r1 := iI_rng (xs (i + 1))
  have r2 := iI_rng (xs (i + 2))
  have r3 := iI_rng (xs (i + 3))
  have r4 := iI_rng (xs (i + 4))
  refine g_ald_n hC dL_law_758 rfl ?_
  refine g_ald_n hC dL_law_759 rfl ?_
  refine g_iload hC dL_law_760 rfl ?_
  refine g_iconst hC dL_law_762 rfl ?_
  refine g_iadd hC dL_law_763 ?_
  refine g_sld hC hX (by omega) (i + 1) (by omega) (by omega) dL_law_764 ?_
  refine g_ald_n hC dL_law_765 rfl ?_
  refine g_callSW (rest := []) hC (kL_worth hl hI hS hE hQ ((xs (i + 1)).toInt) (by omega) ho gh hR) gcw_worth rfl ⟨by decide, by decide⟩ ⟨by show cells + 2 ≤ 601024; omega, by show slots + 12 ≤ 7293034; omega⟩ (Nat.le_of_ble_eq_true rfl) rfl dL_law_766 (fun r g1 hp => ?_)
  obtain ⟨rfl, ad1, ct1, f1, h1R, hlo, ex, eo, ho1, hif⟩ := hp
  obtain ⟨kv, ekv⟩ : ∃ kv : Int, kv = goesN (inB ((xs (i + 1)).toInt) 0 (z 11 - 1)) (true) true := ⟨_, rfl⟩
  rw [← ekv]
  have hkr := goesN_rng (a := (inB ((xs (i + 1)).toInt) 0 (z 11 - 1))) (b := (true)) (c := true)
  rw [← ekv] at hkr
  refine gV.eqs (st' := [vi kv]) rfl rfl rfl ?_
  have e0 := (hlo (0, 0, 0) (Nat.zero_le 1)).2
  have hM1 := hM.fr hlo
  have hrep := hM1.rep h1R
  rw [e0] at hrep
  refine g_istore (lv' := [some (.ref b), some (.ref (ad (2, 0, 0))), some (.ref (ad (0, 0, 0))), some (.ref (ad (30, 0, 0))), some (vi ((i : Int))), some (vi (kv)), none]) hC dL_law_769 (by decide) rfl ?_
  refine g_ald_n hC dL_law_771 rfl ?_
  refine g_ald_n hC dL_law_772 rfl ?_
  refine g_iload hC dL_law_773 rfl ?_
  refine g_iconst hC dL_law_775 rfl ?_
  refine g_iadd hC dL_law_776 ?_
  refine g_sld hC hX (by omega) (i + 1) (by omega) (by omega) dL_law_777 ?_
  refine g_callV (rest := []) hC (kX7_worth hl hI ((xs (i + 1)).toInt) (by omega) g1 hrep) gc_RL_105 rfl hrep.1 rfl ⟨by decide, by decide⟩ ⟨by show cells + 2 + 0 ≤ 601024; omega, by show slots + 12 + 0 ≤ 7293034; omega⟩ (Nat.le_of_ble_eq_true rfl) rfl dL_law_778 (fun r g2 hp => ?_)
  obtain ⟨z2, F2, hp, h3, h4⟩ := hp
  rw [← e0] at h3 h4
  obtain ⟨ct2, h2R, hM2, hc2⟩ := hM1.mod h1R h3 h4
  have hrep2 := hM2.rep h2R
  rw [e0] at hrep2
  by_cases hc : ((inB ((xs (i + 1)).toInt) 0 (z 11 - 1)) && (true) && true) = true
  · rw [if_pos hc] at hp hif
    obtain ⟨rfl, hz27, hsc⟩ := hp
    obtain ⟨hST1, hf1⟩ := hif
    rw [← ekv] at hz27
    have hk0 : kv = 0 := by rw [ekv]; exact goes_0 hc
    obtain ⟨hAB, -⟩ := (Bool.and_eq_true _ _).mp hc
    obtain ⟨hA, hB⟩ := (Bool.and_eq_true _ _).mp hAB
    have hI1 : mI (z) (F) := hI
    have hED : mE (z) (F) ∧ eQ (z) (F) := ⟨hE, hQ⟩
    refine gV.eqs (st' := [vi (sumW (lay0 F ((xs (i + 1)).toInt).toNat (z 3).toNat (z 0)).1 (F 6) (z 3).toNat)]) rfl rfl rfl ?_
    obtain ⟨bv, ebv⟩ : ∃ bv : Int, bv = sumW (lay0 F ((xs (i + 1)).toInt).toNat (z 3).toNat (z 0)).1 (F 6) (z 3).toNat := ⟨_, rfl⟩
    rw [← ebv]
    refine g_istore (lv' := [some (.ref b), some (.ref (ad (2, 0, 0))), some (.ref (ad (0, 0, 0))), some (.ref (ad (30, 0, 0))), some (vi ((i : Int))), some (vi (kv)), some (vi (bv))]) hC dL_law_781 (by decide) rfl ?_
    refine g_ald_n hC dL_law_783 rfl ?_
    refine g_callV (rest := []) hC (kX7_thrown hl g2 hrep2) gc_RL_72 rfl hrep2.1 rfl ⟨by decide, by decide⟩ ⟨by show cells + 2 + 0 + 0 ≤ 601024; omega, by show slots + 12 + 0 + 0 ≤ 7293034; omega⟩ (Nat.le_of_ble_eq_true rfl) rfl dL_law_784 (fun r g3 hp => ?_)
    obtain ⟨z3, F3, ⟨rfl, hz3, hF3⟩, h5, h6⟩ := hp
    rw [hz3, hF3] at h5
    rw [← e0] at h5 h6
    obtain ⟨ct3, h3R, hM3, hc3⟩ := hM2.mod h2R h5 h6
    rw [hz27]
    refine gV.eqs (st' := [vi kv]) rfl rfl rfl ?_
    refine g_iload hC dL_law_787 rfl ?_
    refine g_icmp_eq (tgt := 794) hC dL_law_789 (by decide) (by omega) (by omega) (fun c_789 => ?_) (fun c_789 => False.elim (by omega))
    refine g_iload hC dL_law_794 rfl ?_
    have hc31 : ∀ t : Tg, 2 ≤ t.1 → ct3 t = ct1 t := fun t ht => by rw [hc3 t ht, hc2 t ht]
    refine g_if_ne (tgt := 811) hC dL_law_796 (by decide) (by omega) (fun c_796 => False.elim (by omega)) (fun c_796 => ?_)
    have hout : g3 (ad (30, 0, 0)) = some (gL 3 1 f1) := by have h9_ := h3R.1 (30, 0, 0) _ ((hc31 _ (by decide)).trans ho1); rw [eo] at h9_; exact h9_
    refine g_ald_n hC dL_law_799 rfl ?_
    refine g_iconst hC dL_law_800 rfl ?_
    refine g_lald hC dL_law_801 hout (by decide) (by decide) ?_
    refine gV.eqs (st' := [.long (iI bv).toInt64]) rfl (by rw [ebv, ← hf1]; rfl) rfl ?_
    refine g_iload hC dL_law_802 rfl ?_
    refine g_i2l hC dL_law_804 ?_
    refine g_lcmpE hC dL_law_805 ?_
    refine g_if_eq (tgt := 811) hC dL_law_806 (by decide) (by omega) (fun c_806 => ?_) (fun c_806 => False.elim (by omega))
    refine g_goto (tgt := 1006) hC dL_law_811 (by decide) ?_
    refine gV.drop (lv' := [some (.ref b), some (.ref (ad (2, 0, 0))), some (.ref (ad (0, 0, 0))), some (.ref (ad (30, 0, 0))), some (vi ((i : Int))), none, none]) (by intro k v hk; match k, hk with | 0, hk => exact hk | 1, hk => exact hk | 2, hk => exact hk | 3, hk => exact hk | 4, hk => exact hk | 5, hk => exact absurd hk (by simp) | 6, hk => exact absurd hk (by simp) | k + 7, hk => exact absurd hk (by simp)) ?_
    refine gV.widen (k := cells + 21) (n := slots + 3849) (by omega) (by omega) ?_
    exact kk g3 ad1 ct3 z2 F2 h3R (LI.mk (hST1.fr (fun t h1 _ => hc31 t h1)) hM3 hI1 hED.1 hED.2 hsc ⟨f1, (hc31 _ (by decide)).trans ho1⟩) ex e0 eo
  · rw [if_neg hc] at hp hif
    obtain ⟨rfl, hz27, hsc⟩ := hp
    rw [← ekv] at hz27
    have hk0 : kv ≠ 0 := by rw [ekv]; exact goes_ne hc
    refine gV.eqs (st' := [vi (0)]) rfl rfl rfl ?_
    obtain ⟨bv, ebv⟩ : ∃ bv : Int, bv = 0 := ⟨_, rfl⟩
    rw [← ebv]
    refine g_istore (lv' := [some (.ref b), some (.ref (ad (2, 0, 0))), some (.ref (ad (0, 0, 0))), some (.ref (ad (30, 0, 0))), some (vi ((i : Int))), some (vi (kv)), some (vi (bv))]) hC dL_law_781 (by decide) rfl ?_
    refine g_ald_n hC dL_law_783 rfl ?_
    refine g_callV (rest := []) hC (kX7_thrown hl g2 hrep2) gc_RL_72 rfl hrep2.1 rfl ⟨by decide, by decide⟩ ⟨by show cells + 2 + 0 + 0 ≤ 601024; omega, by show slots + 12 + 0 + 0 ≤ 7293034; omega⟩ (Nat.le_of_ble_eq_true rfl) rfl dL_law_784 (fun r g3 hp => ?_)
    obtain ⟨z3, F3, ⟨rfl, hz3, hF3⟩, h5, h6⟩ := hp
    rw [hz3, hF3] at h5
    rw [← e0] at h5 h6
    obtain ⟨ct3, h3R, hM3, hc3⟩ := hM2.mod h2R h5 h6
    rw [hz27]
    refine gV.eqs (st' := [vi kv]) rfl rfl rfl ?_
    refine g_iload hC dL_law_787 rfl ?_
    refine g_icmp_eq (tgt := 794) hC dL_law_789 (by decide) (by omega) (by omega) (fun c_789 => ?_) (fun c_789 => False.elim (by omega))
    refine g_iload hC dL_law_794 rfl ?_
    have hc31 : ∀ t : Tg, 2 ≤ t.1 → ct3 t = ct1 t := fun t ht => by rw [hc3 t ht, hc2 t ht]
    refine g_if_ne (tgt := 811) hC dL_law_796 (by decide) (by omega) (fun c_796 => ?_) (fun c_796 => False.elim (by omega))
    refine g_goto (tgt := 1006) hC dL_law_811 (by decide) ?_
    refine gV.drop (lv' := [some (.ref b), some (.ref (ad (2, 0, 0))), some (.ref (ad (0, 0, 0))), some (.ref (ad (30, 0, 0))), some (vi ((i : Int))), none, none]) (by intro k v hk; match k, hk with | 0, hk => exact hk | 1, hk => exact hk | 2, hk => exact hk | 3, hk => exact hk | 4, hk => exact hk | 5, hk => exact absurd hk (by simp) | 6, hk => exact absurd hk (by simp) | k + 7, hk => exact absurd hk (by simp)) ?_
    refine gV.widen (k := cells + 21) (n := slots + 3849) (by omega) (by omega) ?_
    exact kk g3 ad1 ct3 z2 F2 h3R (LI.mk (hif.fr (fun t h1 _ => hc31 t h1)) hM3 hI hE hQ hsc ⟨f1, (hc31 _ (by decide)).trans ho1⟩) ex e0 eo

set_option maxHeartbeats 4000000 in
set_option maxRecDepth 100000 in
theorem lc_best {x : gX} {l : Launch} (hl : l.stackTraces = false) {D : gD} {base : Nat} (hC : gK x l D base 7 RL cL_law room_1) {b L : Nat} {xs : Nat → Int32} (hX : gScr x base b L xs) (hL : L ≤ 2560) {i : Nat} (hi : i + 5 ≤ L) {ad : Tg → Nat} {z : Nat → Int} {F : Nat → Nat → Int} {ct : Tg → Option gC} {gh : gH} (hR : cR ad ct gh) (hLI : LI ad z F ct) {cells slots : Nat} (hcl : cells + 21 ≤ 601024) (hsl : slots + 3849 ≤ 7293034)
    (kk : ∀ (gh2 : gH) (ad2 : Tg → Nat) (ct2 : Tg → Option gC) (z2 : Nat → Int) (F2 : Nat → Nat → Int), cR ad2 ct2 gh2 → LI ad2 z2 F2 ct2 → ad2 (2, 0, 0) = ad (2, 0, 0) → ad2 (0, 0, 0) = ad (0, 0, 0) → ad2 (30, 0, 0) = ad (30, 0, 0) → gV x D base 7 1006 [some (.ref b), some (.ref (ad (2, 0, 0))), some (.ref (ad (0, 0, 0))), some (.ref (ad (30, 0, 0))), some (vi (i : Int)), none, none] [] gh2 (cells + 21) (slots + 3849)) : gV x D base 7 814 [some (.ref b), some (.ref (ad (2, 0, 0))), some (.ref (ad (0, 0, 0))), some (.ref (ad (30, 0, 0))), some (vi ((i : Int))), none, none] [] gh cells slots := by
  obtain ⟨hS, hM, hI, hE, hQ, f0, ho⟩ := hLI
  have r1 := iI_rng (xs (i + 1))
  have r2 := iI_rng (xs (i + 2))
  have r3 := iI_rng (xs (i + 3))
  have r4 := iI_rng (xs (i + 4))
  refine g_ald_n hC dL_law_814 rfl ?_
  refine g_ald_n hC dL_law_815 rfl ?_
  refine g_iload hC dL_law_816 rfl ?_
  refine g_iconst hC dL_law_818 rfl ?_
  refine g_iadd hC dL_law_819 ?_
  refine g_sld hC hX (by omega) (i + 1) (by omega) (by omega) dL_law_820 ?_
  refine g_ald_n hC dL_law_821 rfl ?_
  refine g_callSW (rest := []) hC (kL_best hl hI hS hE hQ ((xs (i + 1)).toInt) (by omega) ho gh hR) gcw_best rfl ⟨by decide, by decide⟩ ⟨by show cells + 2 ≤ 601024; omega, by show slots + 12 ≤ 7293034; omega⟩ (Nat.le_of_ble_eq_true rfl) rfl dL_law_822 (fun r g1 hp => ?_)
  obtain ⟨rfl, ad1, ct1, f1, h1R, hlo, ex, eo, ho1, hif⟩ := hp
  obtain ⟨kv, ekv⟩ : ∃ kv : Int, kv = goesN (inB ((xs (i + 1)).toInt) 0 (z 11 - 1)) (inB ((xs (i + 1)).toInt) 0 (z 11 - 1) && decide ((nmL F ((xs (i + 1)).toInt).toNat (z 0) (z 3).toNat).length ≤ 4)) true := ⟨_, rfl⟩
  rw [← ekv]
  have hkr := goesN_rng (a := (inB ((xs (i + 1)).toInt) 0 (z 11 - 1))) (b := (inB ((xs (i + 1)).toInt) 0 (z 11 - 1) && decide ((nmL F ((xs (i + 1)).toInt).toNat (z 0) (z 3).toNat).length ≤ 4))) (c := true)
  rw [← ekv] at hkr
  refine gV.eqs (st' := [vi kv]) rfl rfl rfl ?_
  have e0 := (hlo (0, 0, 0) (Nat.zero_le 1)).2
  have hM1 := hM.fr hlo
  have hrep := hM1.rep h1R
  rw [e0] at hrep
  refine g_istore (lv' := [some (.ref b), some (.ref (ad (2, 0, 0))), some (.ref (ad (0, 0, 0))), some (.ref (ad (30, 0, 0))), some (vi ((i : Int))), some (vi (kv)), none]) hC dL_law_825 (by decide) rfl ?_
  refine g_ald_n hC dL_law_827 rfl ?_
  refine g_ald_n hC dL_law_828 rfl ?_
  refine g_iload hC dL_law_829 rfl ?_
  refine g_iconst hC dL_law_831 rfl ?_
  refine g_iadd hC dL_law_832 ?_
  refine g_sld hC hX (by omega) (i + 1) (by omega) (by omega) dL_law_833 ?_
  refine g_callV (rest := []) hC (kX7_best hl hI ((xs (i + 1)).toInt) (by omega) g1 hrep) gc_RL_108 rfl hrep.1 rfl ⟨by decide, by decide⟩ ⟨by show cells + 2 + 0 ≤ 601024; omega, by show slots + 12 + 0 ≤ 7293034; omega⟩ (Nat.le_of_ble_eq_true rfl) rfl dL_law_834 (fun r g2 hp => ?_)
  obtain ⟨z2, F2, hp, h3, h4⟩ := hp
  rw [← e0] at h3 h4
  obtain ⟨ct2, h2R, hM2, hc2⟩ := hM1.mod h1R h3 h4
  have hrep2 := hM2.rep h2R
  rw [e0] at hrep2
  by_cases hc : ((inB ((xs (i + 1)).toInt) 0 (z 11 - 1)) && (inB ((xs (i + 1)).toInt) 0 (z 11 - 1) && decide ((nmL F ((xs (i + 1)).toInt).toNat (z 0) (z 3).toNat).length ≤ 4)) && true) = true
  · rw [if_pos hc] at hp hif
    obtain ⟨rfl, hz27, hsc⟩ := hp
    obtain ⟨hST1, hf1⟩ := hif
    rw [← ekv] at hz27
    have hk0 : kv = 0 := by rw [ekv]; exact goes_0 hc
    obtain ⟨hAB, -⟩ := (Bool.and_eq_true _ _).mp hc
    obtain ⟨hA, hB⟩ := (Bool.and_eq_true _ _).mp hAB
    have hI1 : mI (z) (F) := hI
    have hED : mE (z) (F) ∧ eQ (z) (F) := ⟨hE, hQ⟩
    refine gV.eqs (st' := [vi (maxW F ((xs (i + 1)).toInt).toNat (z 0) (dotP F ((xs (i + 1)).toInt).toNat (z 3).toNat) (nmL F ((xs (i + 1)).toInt).toNat (z 0) (z 3).toNat) (5 ^ (nmL F ((xs (i + 1)).toInt).toNat (z 0) (z 3).toNat).length))]) rfl rfl rfl ?_
    obtain ⟨bv, ebv⟩ : ∃ bv : Int, bv = maxW F ((xs (i + 1)).toInt).toNat (z 0) (dotP F ((xs (i + 1)).toInt).toNat (z 3).toNat) (nmL F ((xs (i + 1)).toInt).toNat (z 0) (z 3).toNat) (5 ^ (nmL F ((xs (i + 1)).toInt).toNat (z 0) (z 3).toNat).length) := ⟨_, rfl⟩
    rw [← ebv]
    refine g_istore (lv' := [some (.ref b), some (.ref (ad (2, 0, 0))), some (.ref (ad (0, 0, 0))), some (.ref (ad (30, 0, 0))), some (vi ((i : Int))), some (vi (kv)), some (vi (bv))]) hC dL_law_837 (by decide) rfl ?_
    refine g_ald_n hC dL_law_839 rfl ?_
    refine g_callV (rest := []) hC (kX7_thrown hl g2 hrep2) gc_RL_72 rfl hrep2.1 rfl ⟨by decide, by decide⟩ ⟨by show cells + 2 + 0 + 0 ≤ 601024; omega, by show slots + 12 + 0 + 0 ≤ 7293034; omega⟩ (Nat.le_of_ble_eq_true rfl) rfl dL_law_840 (fun r g3 hp => ?_)
    obtain ⟨z3, F3, ⟨rfl, hz3, hF3⟩, h5, h6⟩ := hp
    rw [hz3, hF3] at h5
    rw [← e0] at h5 h6
    obtain ⟨ct3, h3R, hM3, hc3⟩ := hM2.mod h2R h5 h6
    rw [hz27]
    refine gV.eqs (st' := [vi kv]) rfl rfl rfl ?_
    refine g_iload hC dL_law_843 rfl ?_
    refine g_icmp_eq (tgt := 850) hC dL_law_845 (by decide) (by omega) (by omega) (fun c_845 => ?_) (fun c_845 => False.elim (by omega))
    refine g_iload hC dL_law_850 rfl ?_
    have hc31 : ∀ t : Tg, 2 ≤ t.1 → ct3 t = ct1 t := fun t ht => by rw [hc3 t ht, hc2 t ht]
    refine g_if_ne (tgt := 867) hC dL_law_852 (by decide) (by omega) (fun c_852 => False.elim (by omega)) (fun c_852 => ?_)
    have hout : g3 (ad (30, 0, 0)) = some (gL 3 1 f1) := by have h9_ := h3R.1 (30, 0, 0) _ ((hc31 _ (by decide)).trans ho1); rw [eo] at h9_; exact h9_
    refine g_ald_n hC dL_law_855 rfl ?_
    refine g_iconst hC dL_law_856 rfl ?_
    refine g_lald hC dL_law_857 hout (by decide) (by decide) ?_
    refine gV.eqs (st' := [.long (iI bv).toInt64]) rfl (by rw [ebv, ← hf1]; rfl) rfl ?_
    refine g_iload hC dL_law_858 rfl ?_
    refine g_i2l hC dL_law_860 ?_
    refine g_lcmpE hC dL_law_861 ?_
    refine g_if_eq (tgt := 867) hC dL_law_862 (by decide) (by omega) (fun c_862 => ?_) (fun c_862 => False.elim (by omega))
    refine g_goto (tgt := 1006) hC dL_law_867 (by decide) ?_
    refine gV.drop (lv' := [some (.ref b), some (.ref (ad (2, 0, 0))), some (.ref (ad (0, 0, 0))), some (.ref (ad (30, 0, 0))), some (vi ((i : Int))), none, none]) (by intro k v hk; match k, hk with | 0, hk => exact hk | 1, hk => exact hk | 2, hk => exact hk | 3, hk => exact hk | 4, hk => exact hk | 5, hk => exact absurd hk (by simp) | 6, hk => exact absurd hk (by simp) | k + 7, hk => exact absurd hk (by simp)) ?_
    refine gV.widen (k := cells + 21) (n := slots + 3849) (by omega) (by omega) ?_
    exact kk g3 ad1 ct3 z2 F2 h3R (LI.mk (hST1.fr (fun t h1 _ => hc31 t h1)) hM3 hI1 hED.1 hED.2 hsc ⟨f1, (hc31 _ (by decide)).trans ho1⟩) ex e0 eo
  · rw [if_neg hc] at hp hif
    obtain ⟨rfl, hz27, hsc⟩ := hp
    rw [← ekv] at hz27
    have hk0 : kv ≠ 0 := by rw [ekv]; exact goes_ne hc
    refine gV.eqs (st' := [vi (0)]) rfl rfl rfl ?_
    obtain ⟨bv, ebv⟩ : ∃ bv : Int, bv = 0 := ⟨_, rfl⟩
    rw [← ebv]
    refine g_istore (lv' := [some (.ref b), some (.ref (ad (2, 0, 0))), some (.ref (ad (0, 0, 0))), some (.ref (ad (30, 0, 0))), some (vi ((i : Int))), some (vi (kv)), some (vi (bv))]) hC dL_law_837 (by decide) rfl ?_
    refine g_ald_n hC dL_law_839 rfl ?_
    refine g_callV (rest := []) hC (kX7_thrown hl g2 hrep2) gc_RL_72 rfl hrep2.1 rfl ⟨by decide, by decide⟩ ⟨by show cells + 2 + 0 + 0 ≤ 601024; omega, by show slots + 12 + 0 + 0 ≤ 7293034; omega⟩ (Nat.le_of_ble_eq_true rfl) rfl dL_law_840 (fun r g3 hp => ?_)
    obtain ⟨z3, F3, ⟨rfl, hz3, hF3⟩, h5, h6⟩ := hp
    rw [hz3, hF3] at h5
    rw [← e0] at h5 h6
    obtain ⟨ct3, h3R, hM3, hc3⟩ := hM2.mod h2R h5 h6
    rw [hz27]
    refine gV.eqs (st' := [vi kv]) rfl rfl rfl ?_
    refine g_iload hC dL_law_843 rfl ?_
    refine g_icmp_eq (tgt := 850) hC dL_law_845 (by decide) (by omega) (by omega) (fun c_845 => ?_) (fun c_845 => False.elim (by omega))
    refine g_iload hC dL_law_850 rfl ?_
    have hc31 : ∀ t : Tg, 2 ≤ t.1 → ct3 t = ct1 t := fun t ht => by rw [hc3 t ht, hc2 t ht]
    refine g_if_ne (tgt := 867) hC dL_law_852 (by decide) (by omega) (fun c_852 => ?_) (fun c_852 => False.elim (by omega))
    refine g_goto (tgt := 1006) hC dL_law_867 (by decide) ?_
    refine gV.drop (lv' := [some (.ref b), some (.ref (ad (2, 0, 0))), some (.ref (ad (0, 0, 0))), some (.ref (ad (30, 0, 0))), some (vi ((i : Int))), none, none]) (by intro k v hk; match k, hk with | 0, hk => exact hk | 1, hk => exact hk | 2, hk => exact hk | 3, hk => exact hk | 4, hk => exact hk | 5, hk => exact absurd hk (by simp) | 6, hk => exact absurd hk (by simp) | k + 7, hk => exact absurd hk (by simp)) ?_
    refine gV.widen (k := cells + 21) (n := slots + 3849) (by omega) (by omega) ?_
    exact kk g3 ad1 ct3 z2 F2 h3R (LI.mk (hif.fr (fun t h1 _ => hc31 t h1)) hM3 hI hE hQ hsc ⟨f1, (hc31 _ (by decide)).trans ho1⟩) ex e0 eo

set_option maxHeartbeats 4000000 in
set_option maxRecDepth 100000 in
theorem lc_print {x : gX} {l : Launch} (hl : l.stackTraces = false) {D : gD} {base : Nat} (hC : gK x l D base 7 RL cL_law room_1) {b L : Nat} {xs : Nat → Int32} (hX : gScr x base b L xs) (hL : L ≤ 2560) {i : Nat} (hi : i + 5 ≤ L) {ad : Tg → Nat} {z : Nat → Int} {F : Nat → Nat → Int} {ct : Tg → Option gC} {gh : gH} (hR : cR ad ct gh) (hLI : LI ad z F ct) {cells slots : Nat} (hcl : cells + 21 ≤ 601024) (hsl : slots + 3849 ≤ 7293034)
    (kk : ∀ (gh2 : gH) (ad2 : Tg → Nat) (ct2 : Tg → Option gC) (z2 : Nat → Int) (F2 : Nat → Nat → Int), cR ad2 ct2 gh2 → LI ad2 z2 F2 ct2 → ad2 (2, 0, 0) = ad (2, 0, 0) → ad2 (0, 0, 0) = ad (0, 0, 0) → ad2 (30, 0, 0) = ad (30, 0, 0) → gV x D base 7 1006 [some (.ref b), some (.ref (ad (2, 0, 0))), some (.ref (ad (0, 0, 0))), some (.ref (ad (30, 0, 0))), some (vi (i : Int)), none, none] [] gh2 (cells + 21) (slots + 3849)) : gV x D base 7 870 [some (.ref b), some (.ref (ad (2, 0, 0))), some (.ref (ad (0, 0, 0))), some (.ref (ad (30, 0, 0))), some (vi ((i : Int))), none, none] [] gh cells slots := by
  obtain ⟨hS, hM, hI, hE, hQ, f0, ho⟩ := hLI
  have r1 := iI_rng (xs (i + 1))
  have r2 := iI_rng (xs (i + 2))
  have r3 := iI_rng (xs (i + 3))
  have r4 := iI_rng (xs (i + 4))
  refine g_ald_n hC dL_law_870 rfl ?_
  refine g_ald_n hC dL_law_871 rfl ?_
  refine g_callSW (rest := []) hC (kL_print hl hI hS hE hQ   ho gh hR) gcw_print rfl ⟨by decide, by decide⟩ ⟨by show cells + 10 ≤ 601024; omega, by show slots + 3849 ≤ 7293034; omega⟩ (Nat.le_of_ble_eq_true rfl) rfl dL_law_872 (fun r g1 hp => ?_)
  obtain ⟨rfl, ad1, ct1, f1, h1R, hlo, ex, eo, ho1, hif⟩ := hp
  obtain ⟨kv, ekv⟩ : ∃ kv : Int, kv = goesN (decide (z 22 < 5)) (true) true := ⟨_, rfl⟩
  rw [← ekv]
  have hkr := goesN_rng (a := (decide (z 22 < 5))) (b := (true)) (c := true)
  rw [← ekv] at hkr
  refine gV.eqs (st' := [vi kv]) rfl rfl rfl ?_
  have e0 := (hlo (0, 0, 0) (Nat.zero_le 1)).2
  have hM1 := hM.fr hlo
  have hrep := hM1.rep h1R
  rw [e0] at hrep
  refine g_istore (lv' := [some (.ref b), some (.ref (ad (2, 0, 0))), some (.ref (ad (0, 0, 0))), some (.ref (ad (30, 0, 0))), some (vi ((i : Int))), some (vi (kv)), none]) hC dL_law_875 (by decide) rfl ?_
  refine g_ald_n hC dL_law_877 rfl ?_
  refine g_callV (rest := []) hC (kX7_print hl hI   g1 hrep) gc_RL_112 rfl hrep.1 rfl ⟨by decide, by decide⟩ ⟨by show cells + 10 + 0 ≤ 601024; omega, by show slots + 3849 + 0 ≤ 7293034; omega⟩ (Nat.le_of_ble_eq_true rfl) rfl dL_law_878 (fun r g2 hp => ?_)
  obtain ⟨z2, F2, hp, h3, h4⟩ := hp
  rw [← e0] at h3 h4
  obtain ⟨ct2, h2R, hM2, hc2⟩ := hM1.mod h1R h3 h4
  have hrep2 := hM2.rep h2R
  rw [e0] at hrep2
  by_cases hc : ((decide (z 22 < 5)) && (true) && true) = true
  · rw [if_pos hc] at hp hif
    obtain ⟨rfl, hz27, hsc⟩ := hp
    obtain ⟨hST1, hf1⟩ := hif
    rw [← ekv] at hz27
    rw [if_pos hc] at hsc
    have hk0 : kv = 0 := by rw [ekv]; exact goes_0 hc
    obtain ⟨hAB, -⟩ := (Bool.and_eq_true _ _).mp hc
    obtain ⟨hA, hB⟩ := (Bool.and_eq_true _ _).mp hAB
    have hI1 : mI (gup z 22 (z 22 + 1)) (prF z F) := mI_print hI (of_decide_eq_true hA)
    have hED : mE (gup z 22 (z 22 + 1)) (prF z F) ∧ eQ (gup z 22 (z 22 + 1)) (prF z F) := ed_print hI hE hQ
    refine gV.eqs (st' := [vi (z 22)]) rfl rfl rfl ?_
    obtain ⟨bv, ebv⟩ : ∃ bv : Int, bv = z 22 := ⟨_, rfl⟩
    rw [← ebv]
    refine g_istore (lv' := [some (.ref b), some (.ref (ad (2, 0, 0))), some (.ref (ad (0, 0, 0))), some (.ref (ad (30, 0, 0))), some (vi ((i : Int))), some (vi (kv)), some (vi (bv))]) hC dL_law_881 (by decide) rfl ?_
    refine g_ald_n hC dL_law_883 rfl ?_
    refine g_callV (rest := []) hC (kX7_thrown hl g2 hrep2) gc_RL_72 rfl hrep2.1 rfl ⟨by decide, by decide⟩ ⟨by show cells + 10 + 0 + 0 ≤ 601024; omega, by show slots + 3849 + 0 + 0 ≤ 7293034; omega⟩ (Nat.le_of_ble_eq_true rfl) rfl dL_law_884 (fun r g3 hp => ?_)
    obtain ⟨z3, F3, ⟨rfl, hz3, hF3⟩, h5, h6⟩ := hp
    rw [hz3, hF3] at h5
    rw [← e0] at h5 h6
    obtain ⟨ct3, h3R, hM3, hc3⟩ := hM2.mod h2R h5 h6
    rw [hz27]
    refine gV.eqs (st' := [vi kv]) rfl rfl rfl ?_
    refine g_iload hC dL_law_887 rfl ?_
    refine g_icmp_eq (tgt := 894) hC dL_law_889 (by decide) (by omega) (by omega) (fun c_889 => ?_) (fun c_889 => False.elim (by omega))
    refine g_iload hC dL_law_894 rfl ?_
    have hc31 : ∀ t : Tg, 2 ≤ t.1 → ct3 t = ct1 t := fun t ht => by rw [hc3 t ht, hc2 t ht]
    refine g_if_ne (tgt := 911) hC dL_law_896 (by decide) (by omega) (fun c_896 => False.elim (by omega)) (fun c_896 => ?_)
    have hout : g3 (ad (30, 0, 0)) = some (gL 3 1 f1) := by have h9_ := h3R.1 (30, 0, 0) _ ((hc31 _ (by decide)).trans ho1); rw [eo] at h9_; exact h9_
    refine g_ald_n hC dL_law_899 rfl ?_
    refine g_iconst hC dL_law_900 rfl ?_
    refine g_lald hC dL_law_901 hout (by decide) (by decide) ?_
    refine gV.eqs (st' := [.long (iI bv).toInt64]) rfl (by rw [ebv, ← hf1]; rfl) rfl ?_
    refine g_iload hC dL_law_902 rfl ?_
    refine g_i2l hC dL_law_904 ?_
    refine g_lcmpE hC dL_law_905 ?_
    refine g_if_eq (tgt := 911) hC dL_law_906 (by decide) (by omega) (fun c_906 => ?_) (fun c_906 => False.elim (by omega))
    refine g_goto (tgt := 1006) hC dL_law_911 (by decide) ?_
    refine gV.drop (lv' := [some (.ref b), some (.ref (ad (2, 0, 0))), some (.ref (ad (0, 0, 0))), some (.ref (ad (30, 0, 0))), some (vi ((i : Int))), none, none]) (by intro k v hk; match k, hk with | 0, hk => exact hk | 1, hk => exact hk | 2, hk => exact hk | 3, hk => exact hk | 4, hk => exact hk | 5, hk => exact absurd hk (by simp) | 6, hk => exact absurd hk (by simp) | k + 7, hk => exact absurd hk (by simp)) ?_
    refine gV.widen (k := cells + 21) (n := slots + 3849) (by omega) (by omega) ?_
    exact kk g3 ad1 ct3 z2 F2 h3R (LI.mk (hST1.fr (fun t h1 _ => hc31 t h1)) hM3 hI1 hED.1 hED.2 hsc ⟨f1, (hc31 _ (by decide)).trans ho1⟩) ex e0 eo
  · rw [if_neg hc] at hp hif
    obtain ⟨rfl, hz27, hsc⟩ := hp
    rw [← ekv] at hz27
    rw [if_neg hc] at hsc
    have hk0 : kv ≠ 0 := by rw [ekv]; exact goes_ne hc
    refine gV.eqs (st' := [vi (0)]) rfl rfl rfl ?_
    obtain ⟨bv, ebv⟩ : ∃ bv : Int, bv = 0 := ⟨_, rfl⟩
    rw [← ebv]
    refine g_istore (lv' := [some (.ref b), some (.ref (ad (2, 0, 0))), some (.ref (ad (0, 0, 0))), some (.ref (ad (30, 0, 0))), some (vi ((i : Int))), some (vi (kv)), some (vi (bv))]) hC dL_law_881 (by decide) rfl ?_
    refine g_ald_n hC dL_law_883 rfl ?_
    refine g_callV (rest := []) hC (kX7_thrown hl g2 hrep2) gc_RL_72 rfl hrep2.1 rfl ⟨by decide, by decide⟩ ⟨by show cells + 10 + 0 + 0 ≤ 601024; omega, by show slots + 3849 + 0 + 0 ≤ 7293034; omega⟩ (Nat.le_of_ble_eq_true rfl) rfl dL_law_884 (fun r g3 hp => ?_)
    obtain ⟨z3, F3, ⟨rfl, hz3, hF3⟩, h5, h6⟩ := hp
    rw [hz3, hF3] at h5
    rw [← e0] at h5 h6
    obtain ⟨ct3, h3R, hM3, hc3⟩ := hM2.mod h2R h5 h6
    rw [hz27]
    refine gV.eqs (st' := [vi kv]) rfl rfl rfl ?_
    refine g_iload hC dL_law_887 rfl ?_
    refine g_icmp_eq (tgt := 894) hC dL_law_889 (by decide) (by omega) (by omega) (fun c_889 => ?_) (fun c_889 => False.elim (by omega))
    refine g_iload hC dL_law_894 rfl ?_
    have hc31 : ∀ t : Tg, 2 ≤ t.1 → ct3 t = ct1 t := fun t ht => by rw [hc3 t ht, hc2 t ht]
    refine g_if_ne (tgt := 911) hC dL_law_896 (by decide) (by omega) (fun c_896 => ?_) (fun c_896 => False.elim (by omega))
    refine g_goto (tgt := 1006) hC dL_law_911 (by decide) ?_
    refine gV.drop (lv' := [some (.ref b), some (.ref (ad (2, 0, 0))), some (.ref (ad (0, 0, 0))), some (.ref (ad (30, 0, 0))), some (vi ((i : Int))), none, none]) (by intro k v hk; match k, hk with | 0, hk => exact hk | 1, hk => exact hk | 2, hk => exact hk | 3, hk => exact hk | 4, hk => exact hk | 5, hk => exact absurd hk (by simp) | 6, hk => exact absurd hk (by simp) | k + 7, hk => exact absurd hk (by simp)) ?_
    refine gV.widen (k := cells + 21) (n := slots + 3849) (by omega) (by omega) ?_
    exact kk g3 ad1 ct3 z2 F2 h3R (LI.mk (hif.fr (fun t h1 _ => hc31 t h1)) hM3 hI hE hQ hsc ⟨f1, (hc31 _ (by decide)).trans ho1⟩) ex e0 eo

set_option maxHeartbeats 4000000 in
set_option maxRecDepth 100000 in
theorem lc_printed {x : gX} {l : Launch} (hl : l.stackTraces = false) {D : gD} {base : Nat} (hC : gK x l D base 7 RL cL_law room_1) {b L : Nat} {xs : Nat → Int32} (hX : gScr x base b L xs) (hL : L ≤ 2560) {i : Nat} (hi : i + 5 ≤ L) {ad : Tg → Nat} {z : Nat → Int} {F : Nat → Nat → Int} {ct : Tg → Option gC} {gh : gH} (hR : cR ad ct gh) (hLI : LI ad z F ct) {cells slots : Nat} (hcl : cells + 21 ≤ 601024) (hsl : slots + 3849 ≤ 7293034)
    (kk : ∀ (gh2 : gH) (ad2 : Tg → Nat) (ct2 : Tg → Option gC) (z2 : Nat → Int) (F2 : Nat → Nat → Int), cR ad2 ct2 gh2 → LI ad2 z2 F2 ct2 → ad2 (2, 0, 0) = ad (2, 0, 0) → ad2 (0, 0, 0) = ad (0, 0, 0) → ad2 (30, 0, 0) = ad (30, 0, 0) → gV x D base 7 1006 [some (.ref b), some (.ref (ad (2, 0, 0))), some (.ref (ad (0, 0, 0))), some (.ref (ad (30, 0, 0))), some (vi (i : Int)), none, none] [] gh2 (cells + 21) (slots + 3849)) : gV x D base 7 914 [some (.ref b), some (.ref (ad (2, 0, 0))), some (.ref (ad (0, 0, 0))), some (.ref (ad (30, 0, 0))), some (vi ((i : Int))), none, none] [] gh cells slots := by
  obtain ⟨hS, hM, hI, hE, hQ, f0, ho⟩ := hLI
  have r1 := iI_rng (xs (i + 1))
  have r2 := iI_rng (xs (i + 2))
  have r3 := iI_rng (xs (i + 3))
  have r4 := iI_rng (xs (i + 4))
  refine g_ald_n hC dL_law_914 rfl ?_
  refine g_ald_n hC dL_law_915 rfl ?_
  refine g_iload hC dL_law_916 rfl ?_
  refine g_iconst hC dL_law_918 rfl ?_
  refine g_iadd hC dL_law_919 ?_
  refine g_sld hC hX (by omega) (i + 1) (by omega) (by omega) dL_law_920 ?_
  refine g_ald_n hC dL_law_921 rfl ?_
  refine g_iload hC dL_law_922 rfl ?_
  refine g_iconst hC dL_law_924 rfl ?_
  refine g_iadd hC dL_law_925 ?_
  refine g_sld hC hX (by omega) (i + 2) (by omega) (by omega) dL_law_926 ?_
  refine g_ald_n hC dL_law_927 rfl ?_
  refine g_iload hC dL_law_928 rfl ?_
  refine g_iconst hC dL_law_930 rfl ?_
  refine g_iadd hC dL_law_931 ?_
  refine g_sld hC hX (by omega) (i + 3) (by omega) (by omega) dL_law_932 ?_
  refine g_ald_n hC dL_law_933 rfl ?_
  refine g_iload hC dL_law_934 rfl ?_
  refine g_iconst hC dL_law_936 rfl ?_
  refine g_iadd hC dL_law_937 ?_
  refine g_sld hC hX (by omega) (i + 4) (by omega) (by omega) dL_law_938 ?_
  refine g_ald_n hC dL_law_939 rfl ?_
  refine g_callSW (rest := []) hC (kL_printed hl hI hS hE hQ ((xs (i + 1)).toInt) ((xs (i + 2)).toInt) ((xs (i + 3)).toInt) ((xs (i + 4)).toInt) (by omega) (by omega) (by omega) (by omega) ho gh hR) gcw_printed rfl ⟨by decide, by decide⟩ ⟨by show cells + 2 ≤ 601024; omega, by show slots + 12 ≤ 7293034; omega⟩ (Nat.le_of_ble_eq_true rfl) rfl dL_law_940 (fun r g1 hp => ?_)
  obtain ⟨rfl, ad1, ct1, f1, h1R, hlo, ex, eo, ho1, hif⟩ := hp
  obtain ⟨kv, ekv⟩ : ∃ kv : Int, kv = goesN (inB ((xs (i + 1)).toInt) 0 (z 22 - 1) && (inB ((xs (i + 2)).toInt) 0 (z 11 - 1) && (inB ((xs (i + 3)).toInt) 0 23 && inB ((xs (i + 4)).toInt) 0 39))) (true) true := ⟨_, rfl⟩
  rw [← ekv]
  have hkr := goesN_rng (a := (inB ((xs (i + 1)).toInt) 0 (z 22 - 1) && (inB ((xs (i + 2)).toInt) 0 (z 11 - 1) && (inB ((xs (i + 3)).toInt) 0 23 && inB ((xs (i + 4)).toInt) 0 39)))) (b := (true)) (c := true)
  rw [← ekv] at hkr
  refine gV.eqs (st' := [vi kv]) rfl rfl rfl ?_
  have e0 := (hlo (0, 0, 0) (Nat.zero_le 1)).2
  have hM1 := hM.fr hlo
  have hrep := hM1.rep h1R
  rw [e0] at hrep
  refine g_istore (lv' := [some (.ref b), some (.ref (ad (2, 0, 0))), some (.ref (ad (0, 0, 0))), some (.ref (ad (30, 0, 0))), some (vi ((i : Int))), some (vi (kv)), none]) hC dL_law_943 (by decide) rfl ?_
  refine g_ald_n hC dL_law_945 rfl ?_
  refine g_ald_n hC dL_law_946 rfl ?_
  refine g_iload hC dL_law_947 rfl ?_
  refine g_iconst hC dL_law_949 rfl ?_
  refine g_iadd hC dL_law_950 ?_
  refine g_sld hC hX (by omega) (i + 1) (by omega) (by omega) dL_law_951 ?_
  refine g_ald_n hC dL_law_952 rfl ?_
  refine g_iload hC dL_law_953 rfl ?_
  refine g_iconst hC dL_law_955 rfl ?_
  refine g_iadd hC dL_law_956 ?_
  refine g_sld hC hX (by omega) (i + 2) (by omega) (by omega) dL_law_957 ?_
  refine g_ald_n hC dL_law_958 rfl ?_
  refine g_iload hC dL_law_959 rfl ?_
  refine g_iconst hC dL_law_961 rfl ?_
  refine g_iadd hC dL_law_962 ?_
  refine g_sld hC hX (by omega) (i + 3) (by omega) (by omega) dL_law_963 ?_
  refine g_ald_n hC dL_law_964 rfl ?_
  refine g_iload hC dL_law_965 rfl ?_
  refine g_iconst hC dL_law_967 rfl ?_
  refine g_iadd hC dL_law_968 ?_
  refine g_sld hC hX (by omega) (i + 4) (by omega) (by omega) dL_law_969 ?_
  refine g_callV (rest := []) hC (kX7_printed hl hI hE ((xs (i + 1)).toInt) ((xs (i + 2)).toInt) ((xs (i + 3)).toInt) ((xs (i + 4)).toInt) (by omega) (by omega) (by omega) (by omega) g1 hrep) gc_RL_116 rfl hrep.1 rfl ⟨by decide, by decide⟩ ⟨by show cells + 2 + 0 ≤ 601024; omega, by show slots + 12 + 0 ≤ 7293034; omega⟩ (Nat.le_of_ble_eq_true rfl) rfl dL_law_970 (fun r g2 hp => ?_)
  obtain ⟨z2, F2, hp, h3, h4⟩ := hp
  rw [← e0] at h3 h4
  obtain ⟨ct2, h2R, hM2, hc2⟩ := hM1.mod h1R h3 h4
  have hrep2 := hM2.rep h2R
  rw [e0] at hrep2
  by_cases hc : ((inB ((xs (i + 1)).toInt) 0 (z 22 - 1) && (inB ((xs (i + 2)).toInt) 0 (z 11 - 1) && (inB ((xs (i + 3)).toInt) 0 23 && inB ((xs (i + 4)).toInt) 0 39))) && (true) && true) = true
  · rw [if_pos hc] at hp hif
    obtain ⟨rfl, hz27, hsc⟩ := hp
    obtain ⟨hST1, hf1⟩ := hif
    rw [← ekv] at hz27
    have hk0 : kv = 0 := by rw [ekv]; exact goes_0 hc
    obtain ⟨hAB, -⟩ := (Bool.and_eq_true _ _).mp hc
    obtain ⟨hA, hB⟩ := (Bool.and_eq_true _ _).mp hAB
    have hI1 : mI (z) (F) := hI
    have hED : mE (z) (F) ∧ eQ (z) (F) := ⟨hE, hQ⟩
    refine gV.eqs (st' := [vi (printedV F ((xs (i + 1)).toInt).toNat ((xs (i + 2)).toInt).toNat ((xs (i + 3)).toInt) ((xs (i + 4)).toInt))]) rfl rfl rfl ?_
    obtain ⟨bv, ebv⟩ : ∃ bv : Int, bv = printedV F ((xs (i + 1)).toInt).toNat ((xs (i + 2)).toInt).toNat ((xs (i + 3)).toInt) ((xs (i + 4)).toInt) := ⟨_, rfl⟩
    rw [← ebv]
    refine g_istore (lv' := [some (.ref b), some (.ref (ad (2, 0, 0))), some (.ref (ad (0, 0, 0))), some (.ref (ad (30, 0, 0))), some (vi ((i : Int))), some (vi (kv)), some (vi (bv))]) hC dL_law_973 (by decide) rfl ?_
    refine g_ald_n hC dL_law_975 rfl ?_
    refine g_callV (rest := []) hC (kX7_thrown hl g2 hrep2) gc_RL_72 rfl hrep2.1 rfl ⟨by decide, by decide⟩ ⟨by show cells + 2 + 0 + 0 ≤ 601024; omega, by show slots + 12 + 0 + 0 ≤ 7293034; omega⟩ (Nat.le_of_ble_eq_true rfl) rfl dL_law_976 (fun r g3 hp => ?_)
    obtain ⟨z3, F3, ⟨rfl, hz3, hF3⟩, h5, h6⟩ := hp
    rw [hz3, hF3] at h5
    rw [← e0] at h5 h6
    obtain ⟨ct3, h3R, hM3, hc3⟩ := hM2.mod h2R h5 h6
    rw [hz27]
    refine gV.eqs (st' := [vi kv]) rfl rfl rfl ?_
    refine g_iload hC dL_law_979 rfl ?_
    refine g_icmp_eq (tgt := 986) hC dL_law_981 (by decide) (by omega) (by omega) (fun c_981 => ?_) (fun c_981 => False.elim (by omega))
    refine g_iload hC dL_law_986 rfl ?_
    have hc31 : ∀ t : Tg, 2 ≤ t.1 → ct3 t = ct1 t := fun t ht => by rw [hc3 t ht, hc2 t ht]
    refine g_if_ne (tgt := 1003) hC dL_law_988 (by decide) (by omega) (fun c_988 => False.elim (by omega)) (fun c_988 => ?_)
    have hout : g3 (ad (30, 0, 0)) = some (gL 3 1 f1) := by have h9_ := h3R.1 (30, 0, 0) _ ((hc31 _ (by decide)).trans ho1); rw [eo] at h9_; exact h9_
    refine g_ald_n hC dL_law_991 rfl ?_
    refine g_iconst hC dL_law_992 rfl ?_
    refine g_lald hC dL_law_993 hout (by decide) (by decide) ?_
    refine gV.eqs (st' := [.long (iI bv).toInt64]) rfl (by rw [ebv, ← hf1]; rfl) rfl ?_
    refine g_iload hC dL_law_994 rfl ?_
    refine g_i2l hC dL_law_996 ?_
    refine g_lcmpE hC dL_law_997 ?_
    refine g_if_eq (tgt := 1003) hC dL_law_998 (by decide) (by omega) (fun c_998 => ?_) (fun c_998 => False.elim (by omega))
    refine g_goto (tgt := 1006) hC dL_law_1003 (by decide) ?_
    refine gV.drop (lv' := [some (.ref b), some (.ref (ad (2, 0, 0))), some (.ref (ad (0, 0, 0))), some (.ref (ad (30, 0, 0))), some (vi ((i : Int))), none, none]) (by intro k v hk; match k, hk with | 0, hk => exact hk | 1, hk => exact hk | 2, hk => exact hk | 3, hk => exact hk | 4, hk => exact hk | 5, hk => exact absurd hk (by simp) | 6, hk => exact absurd hk (by simp) | k + 7, hk => exact absurd hk (by simp)) ?_
    refine gV.widen (k := cells + 21) (n := slots + 3849) (by omega) (by omega) ?_
    exact kk g3 ad1 ct3 z2 F2 h3R (LI.mk (hST1.fr (fun t h1 _ => hc31 t h1)) hM3 hI1 hED.1 hED.2 hsc ⟨f1, (hc31 _ (by decide)).trans ho1⟩) ex e0 eo
  · rw [if_neg hc] at hp hif
    obtain ⟨rfl, hz27, hsc⟩ := hp
    rw [← ekv] at hz27
    have hk0 : kv ≠ 0 := by rw [ekv]; exact goes_ne hc
    refine gV.eqs (st' := [vi (32)]) rfl rfl rfl ?_
    obtain ⟨bv, ebv⟩ : ∃ bv : Int, bv = 32 := ⟨_, rfl⟩
    rw [← ebv]
    refine g_istore (lv' := [some (.ref b), some (.ref (ad (2, 0, 0))), some (.ref (ad (0, 0, 0))), some (.ref (ad (30, 0, 0))), some (vi ((i : Int))), some (vi (kv)), some (vi (bv))]) hC dL_law_973 (by decide) rfl ?_
    refine g_ald_n hC dL_law_975 rfl ?_
    refine g_callV (rest := []) hC (kX7_thrown hl g2 hrep2) gc_RL_72 rfl hrep2.1 rfl ⟨by decide, by decide⟩ ⟨by show cells + 2 + 0 + 0 ≤ 601024; omega, by show slots + 12 + 0 + 0 ≤ 7293034; omega⟩ (Nat.le_of_ble_eq_true rfl) rfl dL_law_976 (fun r g3 hp => ?_)
    obtain ⟨z3, F3, ⟨rfl, hz3, hF3⟩, h5, h6⟩ := hp
    rw [hz3, hF3] at h5
    rw [← e0] at h5 h6
    obtain ⟨ct3, h3R, hM3, hc3⟩ := hM2.mod h2R h5 h6
    rw [hz27]
    refine gV.eqs (st' := [vi kv]) rfl rfl rfl ?_
    refine g_iload hC dL_law_979 rfl ?_
    refine g_icmp_eq (tgt := 986) hC dL_law_981 (by decide) (by omega) (by omega) (fun c_981 => ?_) (fun c_981 => False.elim (by omega))
    refine g_iload hC dL_law_986 rfl ?_
    have hc31 : ∀ t : Tg, 2 ≤ t.1 → ct3 t = ct1 t := fun t ht => by rw [hc3 t ht, hc2 t ht]
    refine g_if_ne (tgt := 1003) hC dL_law_988 (by decide) (by omega) (fun c_988 => ?_) (fun c_988 => False.elim (by omega))
    refine g_goto (tgt := 1006) hC dL_law_1003 (by decide) ?_
    refine gV.drop (lv' := [some (.ref b), some (.ref (ad (2, 0, 0))), some (.ref (ad (0, 0, 0))), some (.ref (ad (30, 0, 0))), some (vi ((i : Int))), none, none]) (by intro k v hk; match k, hk with | 0, hk => exact hk | 1, hk => exact hk | 2, hk => exact hk | 3, hk => exact hk | 4, hk => exact hk | 5, hk => exact absurd hk (by simp) | 6, hk => exact absurd hk (by simp) | k + 7, hk => exact absurd hk (by simp)) ?_
    refine gV.widen (k := cells + 21) (n := slots + 3849) (by omega) (by omega) ?_
    exact kk g3 ad1 ct3 z2 F2 h3R (LI.mk (hif.fr (fun t h1 _ => hc31 t h1)) hM3 hI hE hQ hsc ⟨f1, (hc31 _ (by decide)).trans ho1⟩) ex e0 eo

end C31
