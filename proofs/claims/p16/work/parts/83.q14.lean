/-! p16: the law: its loop, and its walk from the entry -/
section Q14
set_option maxHeartbeats 4000000 in
set_option maxRecDepth 100000 in
theorem law_loop {x : gX} {l : Launch} (hl : l.stackTraces = false) {D : gD} {base : Nat} (hC : gK x l D base 8 RL cL_law room_1) {b L : Nat} {xs : Nat → Int32} (hX : gScr x base b L xs) (hL : L ≤ 260) {oa ga pa qa ea : Nat}
    (hend : ∀ (gh : gH) (lv : List (Option Value)), gV x D base 8 171 lv [vi 1] gh 600104 7301313) : ∀ j : Nat, j ≤ 48 → ∀ gh1 : gH, LO oa ga pa qa ea (fun j : Nat => if j = 11 then (1 : Int) else 0) (50 * ((j : Nat) : Int)) (((j : Nat) : Int)) gh1 → gV x D base 8 91 [some (.ref b), some (.ref oa), some (.ref ga), some (.ref pa), some (.ref qa), some (.ref ea), some (vi (1)), some (vi (((j + 2 : Nat) : Int)))] [] gh1 (80 + 105 * j) (6400 + 3885 * j) := by
  refine g_for _ (fun j hj ih => ?_) ?_
  · intro gh1 hLO1
    obtain ⟨ad1, ct1, z1, F1, G1, P1, Q1, E1, hR1, hLI1, hA1, k31, k111, k01, k51⟩ := hLO1
    obtain ⟨hCI1, ⟨c301, c311, c321, c331⟩, ⟨g01, g11, g21, g31, g41, g51⟩, lP1, lQ1, lE1⟩ := id hLI1
    obtain ⟨hS1, hI1, hE1, hQ1, h101⟩ := id hCI1
    obtain ⟨i01, i11, i31, i111, i221, iw1, ip1, inn1, inm1, ish1⟩ := id hI1
    have f1 : gh1 ga = some (gI 1 6 (G1)) := by have h9_ := hR1.1 (30, 0, 0) _ c301; rw [hA1.2.1] at h9_; exact h9_
    have f2 : gh1 pa = some (gI 1 50 (P1)) := by have h9_ := hR1.1 (31, 0, 0) _ c311; rw [hA1.2.2.1] at h9_; exact h9_
    have f3 : gh1 qa = some (gI 1 12 (Q1)) := by have h9_ := hR1.1 (32, 0, 0) _ c321; rw [hA1.2.2.2.1] at h9_; exact h9_
    have f4 : gh1 ea = some (gI 1 20 (E1)) := by have h9_ := hR1.1 (33, 0, 0) _ c331; rw [hA1.2.2.2.2] at h9_; exact h9_
    refine g_iload hC dL_law_91 rfl ?_
    refine g_bipush (z := 50) hC dL_law_93 rfl ?_
    refine g_icmp_ge (tgt := 139) hC dL_law_95 (by decide) (by omega) (by omega) (fun c_95 => False.elim (by omega)) (fun c_95 => ?_)
    refine g_iload hC dL_law_98 rfl ?_
    refine g_if_eq (tgt := 139) hC dL_law_100 (by decide) (by omega) (fun c_100 => False.elim (by revert c_100; decide)) (fun c_100 => ?_)
    refine g_ald_n hC dL_law_103 rfl ?_
    refine g_ald_n hC dL_law_104 rfl ?_
    refine g_ald_n hC dL_law_105 rfl ?_
    refine g_ald hC dL_law_106 rfl ?_
    refine g_ald hC dL_law_108 rfl ?_
    refine g_ald_n hC dL_law_110 rfl ?_
    refine g_iconst hC dL_law_111 rfl ?_
    refine g_iload hC dL_law_112 rfl ?_
    refine g_imul hC dL_law_114 ?_
    refine g_top (b := ((2 * (j + 2) : Nat) : Int)) (by omega) ?_
    refine g_callSX (rest := [.ref ea, .ref qa, .ref pa, .ref ga, .ref oa]) hC hX (kL_at hl hL (2 * (j + 2)) (by omega) gh1) gc_RL_137 rfl ⟨by decide, by decide⟩ ⟨by show 80 + 105 * j + 0 ≤ 600104; omega, by show 6400 + 3885 * j + 0 ≤ 7301313; omega⟩ (Nat.le_of_ble_eq_true rfl) rfl dL_law_115 (fun r g_ hp => ?_)
    obtain ⟨v5, rv5, rfl, hgh⟩ := hp
    rw [hgh]
    clear hgh
    refine gV.eqs (st' := [vi (v5), .ref ea, .ref qa, .ref pa, .ref ga, .ref oa]) rfl rfl rfl ?_
    refine g_ald_n hC dL_law_118 rfl ?_
    refine g_iconst hC dL_law_119 rfl ?_
    refine g_iload hC dL_law_120 rfl ?_
    refine g_imul hC dL_law_122 ?_
    refine g_iconst hC dL_law_123 rfl ?_
    refine g_iadd hC dL_law_124 ?_
    refine g_top (b := ((2 * (j + 2) + 1 : Nat) : Int)) (by omega) ?_
    refine g_callSX (rest := [vi (v5), .ref ea, .ref qa, .ref pa, .ref ga, .ref oa]) hC hX (kL_at hl hL (2 * (j + 2) + 1) (by omega) gh1) gc_RL_137 rfl ⟨by decide, by decide⟩ ⟨by show 80 + 105 * j + 0 + 0 ≤ 600104; omega, by show 6400 + 3885 * j + 0 + 0 ≤ 7301313; omega⟩ (Nat.le_of_ble_eq_true rfl) rfl dL_law_125 (fun r g_ hp => ?_)
    obtain ⟨v6, rv6, rfl, hgh⟩ := hp
    rw [hgh]
    clear hgh
    refine gV.eqs (st' := [vi (v6), vi (v5), .ref ea, .ref qa, .ref pa, .ref ga, .ref oa]) rfl rfl rfl ?_
    refine g_callS (rest := []) hC (kL_acts hl hLI1 hA1 v5 v6 rv5 rv6 (by omega) (by omega) gh1 hR1) gc_RL_141 rfl ⟨by decide, by decide⟩ ⟨by show 80 + 105 * j + 0 + 0 + 105 ≤ 600104; omega, by show 6400 + 3885 * j + 0 + 0 + 3885 ≤ 7301313; omega⟩ (Nat.le_of_ble_eq_true rfl) rfl dL_law_128 (fun r gh2 hp => ?_)
    obtain ⟨rfl, hLO2⟩ := hp
    refine gV.eqs (st' := [vi (1)]) rfl rfl rfl ?_
    refine g_istore (lv' := [some (.ref b), some (.ref oa), some (.ref ga), some (.ref pa), some (.ref qa), some (.ref ea), some (vi (1)), some (vi (((j + 2 : Nat) : Int)))]) hC dL_law_131 (by decide) rfl ?_
    refine g_iinc (lv' := [some (.ref b), some (.ref oa), some (.ref ga), some (.ref pa), some (.ref qa), some (.ref ea), some (vi (1)), some (vi (((j + 2 : Nat) : Int) + 1))]) hC dL_law_133 (by decide) rfl rfl ?_
    refine g_goto (tgt := 91) hC dL_law_136 (by decide) ?_
    refine gV.widen (k := 80 + 105 * (j + 1)) (n := 6400 + 3885 * (j + 1)) (by omega) (by omega) ?_
    exact gV.eqs (lv' := [some (.ref b), some (.ref oa), some (.ref ga), some (.ref pa), some (.ref qa), some (.ref ea), some (vi (1)), some (vi (((j + 1 + 2 : Nat) : Int)))]) (lcons rfl (lcons rfl (lcons rfl (lcons rfl (lcons rfl (lcons rfl (lcons rfl (lcons (svi (by omega)) rfl)))))))) rfl rfl (ih _ (hLO2.mono (by omega) (by omega) k31 k111))
  · intro gh1 hLO1
    obtain ⟨ad1, ct1, z1, F1, G1, P1, Q1, E1, hR1, hLI1, hA1, k31, k111, k01, k51⟩ := hLO1
    obtain ⟨hCI1, ⟨c301, c311, c321, c331⟩, ⟨g01, g11, g21, g31, g41, g51⟩, lP1, lQ1, lE1⟩ := id hLI1
    obtain ⟨hS1, hI1, hE1, hQ1, h101⟩ := id hCI1
    obtain ⟨i01, i11, i31, i111, i221, iw1, ip1, inn1, inm1, ish1⟩ := id hI1
    have f7 : gh1 ga = some (gI 1 6 (G1)) := by have h9_ := hR1.1 (30, 0, 0) _ c301; rw [hA1.2.1] at h9_; exact h9_
    have f8 : gh1 pa = some (gI 1 50 (P1)) := by have h9_ := hR1.1 (31, 0, 0) _ c311; rw [hA1.2.2.1] at h9_; exact h9_
    have f9 : gh1 qa = some (gI 1 12 (Q1)) := by have h9_ := hR1.1 (32, 0, 0) _ c321; rw [hA1.2.2.2.1] at h9_; exact h9_
    have f10 : gh1 ea = some (gI 1 20 (E1)) := by have h9_ := hR1.1 (33, 0, 0) _ c331; rw [hA1.2.2.2.2] at h9_; exact h9_
    refine g_iload hC dL_law_91 rfl ?_
    refine g_bipush (z := 50) hC dL_law_93 rfl ?_
    refine g_icmp_ge (tgt := 139) hC dL_law_95 (by decide) (by omega) (by omega) (fun c_95 => ?_) (fun c_95 => False.elim (by omega))
    refine g_iload hC dL_law_139 rfl ?_
    refine g_if_eq (tgt := 170) hC dL_law_141 (by decide) (by omega) (fun c_141 => False.elim (by revert c_141; decide)) (fun c_141 => ?_)
    refine g_ald_n hC dL_law_144 rfl ?_
    refine g_ald_n hC dL_law_145 rfl ?_
    refine g_ald hC dL_law_146 rfl ?_
    refine g_callS (rest := []) hC (kL_arePrinted hl hLI1 hA1 gh1 hR1) gc_RL_125 rfl ⟨by decide, by decide⟩ ⟨by show 80 + 105 * 48 + 10 ≤ 600104; omega, by show 6400 + 3885 * 48 + 60 ≤ 7301313; omega⟩ (Nat.le_of_ble_eq_true rfl) rfl dL_law_148 (fun r g3_ hp => ?_)
    obtain ⟨rfl, hgh⟩ := hp
    rw [hgh]
    refine gV.eqs (st' := [vi (1)]) rfl rfl rfl ?_
    refine g_if_eq (tgt := 170) hC dL_law_151 (by decide) (by omega) (fun c_151 => False.elim (by revert c_151; decide)) (fun c_151 => ?_)
    refine g_ald_n hC dL_law_154 rfl ?_
    refine g_ald_n hC dL_law_155 rfl ?_
    refine g_ald_n hC dL_law_156 rfl ?_
    refine g_ald hC dL_law_157 rfl ?_
    refine g_iconst hC dL_law_159 rfl ?_
    have h11 : 1 ≤ z1 11 := k111
    refine g_callS (rest := []) hC (kL_isSheet hl hLI1 hA1 0 (by show (0 : Int) < z1 11; omega) gh1 hR1) gc_RL_132 rfl ⟨by decide, by decide⟩ ⟨by show 80 + 105 * 48 + 10 + 105 ≤ 600104; omega, by show 6400 + 3885 * 48 + 60 + 688 ≤ 7301313; omega⟩ (Nat.le_of_ble_eq_true rfl) rfl dL_law_160 (fun r gh2 hp => ?_)
    obtain ⟨rfl, hLO2⟩ := hp
    refine gV.eqs (st' := [vi (1)]) rfl rfl rfl ?_
    refine g_if_eq (tgt := 170) hC dL_law_163 (by decide) (by omega) (fun c_163 => False.elim (by revert c_163; decide)) (fun c_163 => ?_)
    refine g_iconst hC dL_law_166 rfl ?_
    refine g_goto (tgt := 171) hC dL_law_167 (by decide) ?_
    refine gV.widen (k := 600104) (n := 7301313) (by omega) (by omega) ?_
    exact hend _ _

set_option maxHeartbeats 4000000 in
set_option maxRecDepth 100000 in
theorem law_walk {x : gX} {l : Launch} (hl : l.stackTraces = false) {D : gD} {base : Nat} (hC : gK x l D base 8 RL cL_law room_1) {b L : Nat} {xs : Nat → Int32} (hX : gScr x base b L xs) (hL : L ≤ 260)
    (hend : ∀ (gh : gH) (lv : List (Option Value)), gV x D base 8 171 lv [vi 1] gh 600104 7301313) : gV x D base 8 0 [some (.ref b), none, none, none, none, none, none, none] [] (fun _ => none) 0 0 := by
  obtain ⟨g0, eg0⟩ : ∃ g : gH, g = fun _ => none := ⟨_, rfl⟩
  rw [← eg0]
  have h0R : cR (fun _ => 0) (fun _ => none) g0 := ⟨fun t c h => (nomatch h), fun t t2 c c2 h => (nomatch h)⟩
  refine g_new hC dL_law_0 gn_RL_11 (by decide) (by decide) (fun oa hq1 => ?_)
  have r1 := h0R.new (t := (2, 0, 0)) hq1 (gO 10 [.null, .null, .null, .null, vi (0), vi (0), vi (0), vi (0)])
  obtain ⟨g1, eg1⟩ : ∃ g_, g_ = gset g0 oa (gO 10 [.null, .null, .null, .null, vi (0), vi (0), vi (0), vi (0)]) := ⟨_, rfl⟩
  rw [← eg1] at r1 ⊢
  obtain ⟨a1, ea1⟩ : ∃ y, y = aup (fun _ => 0) (2, 0, 0) oa := ⟨_, rfl⟩
  obtain ⟨c1, ec1⟩ : ∃ y, y = cup (fun _ => none) (2, 0, 0) (gO 10 [.null, .null, .null, .null, vi (0), vi (0), vi (0), vi (0)]) := ⟨_, rfl⟩
  rw [← ea1, ← ec1] at r1
  have va1 : a1 (2, 0, 0) = oa := by rw [ea1, aup_eq]
  have vc1 : c1 (2, 0, 0) = some (gO 10 [.null, .null, .null, .null, vi (0), vi (0), vi (0), vi (0)]) := by rw [ec1, cup_eq]
  refine g_dup hC dL_law_3 rfl ?_
  refine gV.eqs (st' := [.ref (a1 (2, 0, 0)), .ref oa]) rfl (by rw [va1]) rfl ?_
  refine g_callI (rest := [.ref oa]) hC (kX6_init hl (z := fun _ => 0) (F := fun _ _ => 0) rfl rfl rfl rfl rfl vc1 g1 r1) gc_RL_136 rfl ⟨by decide, by decide⟩ ⟨by decide, by decide⟩ (Nat.le_of_ble_eq_true rfl) rfl dL_law_4 (fun r gB hp => ?_)
  obtain ⟨rfl, a2, c2, r2, hS2, hx2⟩ := hp
  have va2 : a2 (2, 0, 0) = oa := hx2.2.trans va1
  have hI0 : mI (fun _ => 0) (fun _ _ => 0) := by
    exact ⟨by decide, by decide, by decide, by decide, by decide, fun t ht => absurd ht (show ¬ ((t : Int) < 0) by omega), fun i hi => absurd hi (show ¬ ((i : Int) < 0) by omega), fun i hi => ⟨Int.le_refl 0, show (0 : Int) ≤ 6 by decide, fun _ => rfl⟩, fun i j hi hj => absurd hj (show ¬ ((j : Int) < 0) by omega), fun k hk => absurd hk (show ¬ ((k : Int) < 0) by omega)⟩
  have hE0 : mE (fun _ => 0) (fun _ _ => 0) := fun e he => by exfalso; have he2 : (e : Int) < 0 := he; omega
  have hQ0 : eQ (fun _ => 0) (fun _ _ => 0) := fun e s i he => by exfalso; have he2 : (e : Int) < 0 := he; omega
  have hC2 : CI a2 (fun _ => 0) (fun _ _ => 0) c2 := ⟨hS2, hI0, hE0, hQ0, by decide⟩
  refine gV.eqs (st' := [.ref oa]) rfl rfl rfl ?_
  refine g_ast_n (lv' := [some (.ref b), some (.ref oa), none, none, none, none, none, none]) hC dL_law_7 (by decide) rfl ?_
  refine g_bipush (z := 6) hC dL_law_8 rfl ?_
  refine g_newI (n := 6) hC dL_law_10 ga_int rfl (by decide) (by decide) (by decide) (fun ga hga => ?_)
  have r30 := r2.new (t := (30, 0, 0)) hga (gI 1 6 (fun _ => 0))
  have C30 := (hC2.ad (aup_lo (a := 30) (q := ga) (by decide))).put (30, 0, 0) (by decide) (gI 1 6 (fun _ => 0))
  obtain ⟨g30, eg30⟩ : ∃ g_, g_ = gset gB ga (gI 1 6 (fun _ => 0)) := ⟨_, rfl⟩
  rw [← eg30] at r30 ⊢
  obtain ⟨a30, ea30⟩ : ∃ y, y = aup a2 (30, 0, 0) ga := ⟨_, rfl⟩
  obtain ⟨c30, ec30⟩ : ∃ y, y = cup c2 (30, 0, 0) (gI 1 6 (fun _ => 0)) := ⟨_, rfl⟩
  rw [← ea30, ← ec30] at r30 C30
  have v30_2 : a30 (2, 0, 0) = oa := by rw [ea30, aup_ne (by simp)]; exact va2
  have v30_30 : a30 (30, 0, 0) = ga := by rw [ea30]; exact aup_eq
  have w30_30 : c30 (30, 0, 0) = some (gI 1 6 (fun _ => 0)) := by rw [ec30]; exact cup_eq
  refine g_ast_n (lv' := [some (.ref b), some (.ref oa), some (.ref ga), none, none, none, none, none]) hC dL_law_12 (by decide) rfl ?_
  refine g_bipush (z := 50) hC dL_law_13 rfl ?_
  refine g_newI (n := 50) hC dL_law_15 ga_int rfl (by decide) (by decide) (by decide) (fun pa hpa => ?_)
  have r31 := r30.new (t := (31, 0, 0)) hpa (gI 1 50 (fun _ => 0))
  have C31 := (C30.ad (aup_lo (a := 31) (q := pa) (by decide))).put (31, 0, 0) (by decide) (gI 1 50 (fun _ => 0))
  obtain ⟨g31, eg31⟩ : ∃ g_, g_ = gset g30 pa (gI 1 50 (fun _ => 0)) := ⟨_, rfl⟩
  rw [← eg31] at r31 ⊢
  obtain ⟨a31, ea31⟩ : ∃ y, y = aup a30 (31, 0, 0) pa := ⟨_, rfl⟩
  obtain ⟨c31, ec31⟩ : ∃ y, y = cup c30 (31, 0, 0) (gI 1 50 (fun _ => 0)) := ⟨_, rfl⟩
  rw [← ea31, ← ec31] at r31 C31
  have v31_2 : a31 (2, 0, 0) = oa := by rw [ea31, aup_ne (by simp)]; exact v30_2
  have v31_30 : a31 (30, 0, 0) = ga := by rw [ea31, aup_ne (by simp)]; exact v30_30
  have v31_31 : a31 (31, 0, 0) = pa := by rw [ea31]; exact aup_eq
  have w31_30 : c31 (30, 0, 0) = some (gI 1 6 (fun _ => 0)) := by rw [ec31, cup_ne (by simp)]; exact w30_30
  have w31_31 : c31 (31, 0, 0) = some (gI 1 50 (fun _ => 0)) := by rw [ec31]; exact cup_eq
  refine g_ast_n (lv' := [some (.ref b), some (.ref oa), some (.ref ga), some (.ref pa), none, none, none, none]) hC dL_law_17 (by decide) rfl ?_
  refine g_bipush (z := 12) hC dL_law_18 rfl ?_
  refine g_newI (n := 12) hC dL_law_20 ga_int rfl (by decide) (by decide) (by decide) (fun qa hqa => ?_)
  have r32 := r31.new (t := (32, 0, 0)) hqa (gI 1 12 (fun _ => 0))
  have C32 := (C31.ad (aup_lo (a := 32) (q := qa) (by decide))).put (32, 0, 0) (by decide) (gI 1 12 (fun _ => 0))
  obtain ⟨g32, eg32⟩ : ∃ g_, g_ = gset g31 qa (gI 1 12 (fun _ => 0)) := ⟨_, rfl⟩
  rw [← eg32] at r32 ⊢
  obtain ⟨a32, ea32⟩ : ∃ y, y = aup a31 (32, 0, 0) qa := ⟨_, rfl⟩
  obtain ⟨c32, ec32⟩ : ∃ y, y = cup c31 (32, 0, 0) (gI 1 12 (fun _ => 0)) := ⟨_, rfl⟩
  rw [← ea32, ← ec32] at r32 C32
  have v32_2 : a32 (2, 0, 0) = oa := by rw [ea32, aup_ne (by simp)]; exact v31_2
  have v32_30 : a32 (30, 0, 0) = ga := by rw [ea32, aup_ne (by simp)]; exact v31_30
  have v32_31 : a32 (31, 0, 0) = pa := by rw [ea32, aup_ne (by simp)]; exact v31_31
  have v32_32 : a32 (32, 0, 0) = qa := by rw [ea32]; exact aup_eq
  have w32_30 : c32 (30, 0, 0) = some (gI 1 6 (fun _ => 0)) := by rw [ec32, cup_ne (by simp)]; exact w31_30
  have w32_31 : c32 (31, 0, 0) = some (gI 1 50 (fun _ => 0)) := by rw [ec32, cup_ne (by simp)]; exact w31_31
  have w32_32 : c32 (32, 0, 0) = some (gI 1 12 (fun _ => 0)) := by rw [ec32]; exact cup_eq
  refine g_ast (lv' := [some (.ref b), some (.ref oa), some (.ref ga), some (.ref pa), some (.ref qa), none, none, none]) hC dL_law_22 (by decide) rfl ?_
  refine g_bipush (z := 20) hC dL_law_24 rfl ?_
  refine g_newI (n := 20) hC dL_law_26 ga_int rfl (by decide) (by decide) (by decide) (fun ea hea => ?_)
  have r33 := r32.new (t := (33, 0, 0)) hea (gI 1 20 (fun _ => 0))
  have C33 := (C32.ad (aup_lo (a := 33) (q := ea) (by decide))).put (33, 0, 0) (by decide) (gI 1 20 (fun _ => 0))
  obtain ⟨g33, eg33⟩ : ∃ g_, g_ = gset g32 ea (gI 1 20 (fun _ => 0)) := ⟨_, rfl⟩
  rw [← eg33] at r33 ⊢
  obtain ⟨a33, ea33⟩ : ∃ y, y = aup a32 (33, 0, 0) ea := ⟨_, rfl⟩
  obtain ⟨c33, ec33⟩ : ∃ y, y = cup c32 (33, 0, 0) (gI 1 20 (fun _ => 0)) := ⟨_, rfl⟩
  rw [← ea33, ← ec33] at r33 C33
  have v33_2 : a33 (2, 0, 0) = oa := by rw [ea33, aup_ne (by simp)]; exact v32_2
  have v33_30 : a33 (30, 0, 0) = ga := by rw [ea33, aup_ne (by simp)]; exact v32_30
  have v33_31 : a33 (31, 0, 0) = pa := by rw [ea33, aup_ne (by simp)]; exact v32_31
  have v33_32 : a33 (32, 0, 0) = qa := by rw [ea33, aup_ne (by simp)]; exact v32_32
  have v33_33 : a33 (33, 0, 0) = ea := by rw [ea33]; exact aup_eq
  have w33_30 : c33 (30, 0, 0) = some (gI 1 6 (fun _ => 0)) := by rw [ec33, cup_ne (by simp)]; exact w32_30
  have w33_31 : c33 (31, 0, 0) = some (gI 1 50 (fun _ => 0)) := by rw [ec33, cup_ne (by simp)]; exact w32_31
  have w33_32 : c33 (32, 0, 0) = some (gI 1 12 (fun _ => 0)) := by rw [ec33, cup_ne (by simp)]; exact w32_32
  have w33_33 : c33 (33, 0, 0) = some (gI 1 20 (fun _ => 0)) := by rw [ec33]; exact cup_eq
  refine g_ast (lv' := [some (.ref b), some (.ref oa), some (.ref ga), some (.ref pa), some (.ref qa), some (.ref ea), none, none]) hC dL_law_28 (by decide) rfl ?_
  have hLI0 : LI a33 (fun _ => 0) (fun _ _ => 0) c33 (fun _ => 0) (fun _ => 0) (fun _ => 0) (fun _ => 0) := ⟨C33, ⟨w33_30, w33_31, w33_32, w33_33⟩, ⟨rfl, rfl, rfl, rfl, rfl, Int.le_refl _⟩, fun i hi => ⟨rfl, (lnF_0 rfl).symm, fun q => absurd q (show ¬ ((i : Int) < 0) by omega)⟩, fun s hs => absurd hs (show ¬ ((s : Int) < 0) by omega), fun e he => absurd he (show ¬ ((e : Int) < 0) by omega)⟩
  have hA0 : lA a33 oa ga pa qa ea := ⟨v33_2, v33_30, v33_31, v33_32, v33_33⟩
  refine g_ald_n hC dL_law_30 rfl ?_
  refine g_ald_n hC dL_law_31 rfl ?_
  refine g_ald_n hC dL_law_32 rfl ?_
  refine g_ald hC dL_law_33 rfl ?_
  refine g_iconst hC dL_law_35 rfl ?_
  refine g_ald_n hC dL_law_36 rfl ?_
  refine g_iconst hC dL_law_37 rfl ?_
  refine g_top (b := ((0 : Nat) : Int)) rfl ?_
  refine g_callSX (rest := [vi (4), .ref qa, .ref pa, .ref ga, .ref oa]) hC hX (kL_at hl hL (0) (by omega) g33) gc_RL_137 rfl ⟨by decide, by decide⟩ ⟨by decide, by decide⟩ (Nat.le_of_ble_eq_true rfl) rfl dL_law_38 (fun r g_ hp => ?_)
  obtain ⟨v1, rv1, rfl, hgh⟩ := hp
  rw [hgh]
  clear hgh
  refine gV.eqs (st' := [vi (v1), vi (4), .ref qa, .ref pa, .ref ga, .ref oa]) rfl rfl rfl ?_
  refine g_callS (rest := []) hC (kL_makes hl hLI0 hA0 4 v1 (by decide) rv1 (fun j : Nat => if j = 11 then (1 : Int) else 0) (by show (0 : Int) ≤ 0; decide) (Or.inr ⟨by decide, by show (1 : Int) ≤ 1; decide⟩) g33 r33) gc_RL_108 rfl ⟨by decide, by decide⟩ ⟨by decide, by decide⟩ (Nat.le_of_ble_eq_true rfl) rfl dL_law_41 (fun r gh1 hp => ?_)
  obtain ⟨rfl, hLO1⟩ := hp
  refine gV.eqs (st' := [vi (1)]) rfl rfl rfl ?_
  refine g_if_eq (tgt := 85) hC dL_law_44 (by decide) (by omega) (fun c_44 => False.elim (by revert c_44; decide)) (fun c_44 => ?_)
  obtain ⟨ad1, ct1, z1, F1, G1, P1, Q1, E1, hR1, hLI1, hA1, k31, k111, k01, k51⟩ := hLO1
  refine g_ald_n hC dL_law_47 rfl ?_
  refine g_ald_n hC dL_law_48 rfl ?_
  refine g_ald_n hC dL_law_49 rfl ?_
  refine g_ald hC dL_law_50 rfl ?_
  refine g_iconst hC dL_law_52 rfl ?_
  refine g_ald_n hC dL_law_53 rfl ?_
  refine g_iconst hC dL_law_54 rfl ?_
  refine g_top (b := ((1 : Nat) : Int)) rfl ?_
  refine g_callSX (rest := [vi (1), .ref qa, .ref pa, .ref ga, .ref oa]) hC hX (kL_at hl hL (1) (by omega) gh1) gc_RL_137 rfl ⟨by decide, by decide⟩ ⟨by decide, by decide⟩ (Nat.le_of_ble_eq_true rfl) rfl dL_law_55 (fun r g_ hp => ?_)
  obtain ⟨v2, rv2, rfl, hgh⟩ := hp
  rw [hgh]
  clear hgh
  refine gV.eqs (st' := [vi (v2), vi (1), .ref qa, .ref pa, .ref ga, .ref oa]) rfl rfl rfl ?_
  refine g_callS (rest := []) hC (kL_makes hl hLI1 hA1 1 v2 (by decide) rv2 (fun j : Nat => if j = 11 then (1 : Int) else 0) k31 (Or.inl k111) gh1 hR1) gc_RL_108 rfl ⟨by decide, by decide⟩ ⟨by decide, by decide⟩ (Nat.le_of_ble_eq_true rfl) rfl dL_law_58 (fun r gh2 hp => ?_)
  obtain ⟨rfl, hLO2⟩ := hp
  refine gV.eqs (st' := [vi (1)]) rfl rfl rfl ?_
  refine g_if_eq (tgt := 85) hC dL_law_61 (by decide) (by omega) (fun c_61 => False.elim (by revert c_61; decide)) (fun c_61 => ?_)
  obtain ⟨ad2, ct2, z2, F2, G2, P2, Q2, E2, hR2, hLI2, hA2, k32, k112, k02, k52⟩ := hLO2
  refine g_ald_n hC dL_law_64 rfl ?_
  refine g_ald_n hC dL_law_65 rfl ?_
  refine g_ald_n hC dL_law_66 rfl ?_
  refine g_ald hC dL_law_67 rfl ?_
  refine g_iconst hC dL_law_69 rfl ?_
  refine g_ald_n hC dL_law_70 rfl ?_
  refine g_iconst hC dL_law_71 rfl ?_
  refine g_top (b := ((2 : Nat) : Int)) rfl ?_
  refine g_callSX (rest := [vi (1), .ref qa, .ref pa, .ref ga, .ref oa]) hC hX (kL_at hl hL (2) (by omega) gh2) gc_RL_137 rfl ⟨by decide, by decide⟩ ⟨by decide, by decide⟩ (Nat.le_of_ble_eq_true rfl) rfl dL_law_72 (fun r g_ hp => ?_)
  obtain ⟨v3, rv3, rfl, hgh⟩ := hp
  rw [hgh]
  clear hgh
  refine gV.eqs (st' := [vi (v3), vi (1), .ref qa, .ref pa, .ref ga, .ref oa]) rfl rfl rfl ?_
  refine g_callS (rest := []) hC (kL_makes hl hLI2 hA2 1 v3 (by decide) rv3 (fun j : Nat => if j = 11 then (1 : Int) else 0) k32 (Or.inl k112) gh2 hR2) gc_RL_108 rfl ⟨by decide, by decide⟩ ⟨by decide, by decide⟩ (Nat.le_of_ble_eq_true rfl) rfl dL_law_75 (fun r gh3 hp => ?_)
  obtain ⟨rfl, hLO3⟩ := hp
  refine gV.eqs (st' := [vi (1)]) rfl rfl rfl ?_
  refine g_if_eq (tgt := 85) hC dL_law_78 (by decide) (by omega) (fun c_78 => False.elim (by revert c_78; decide)) (fun c_78 => ?_)
  refine g_iconst hC dL_law_81 rfl ?_
  refine g_goto (tgt := 86) hC dL_law_82 (by decide) ?_
  refine g_istore (lv' := [some (.ref b), some (.ref oa), some (.ref ga), some (.ref pa), some (.ref qa), some (.ref ea), some (vi (1)), none]) hC dL_law_86 (by decide) rfl ?_
  refine g_iconst hC dL_law_88 rfl ?_
  refine g_istore (lv' := [some (.ref b), some (.ref oa), some (.ref ga), some (.ref pa), some (.ref qa), some (.ref ea), some (vi (1)), some (vi (2))]) hC dL_law_89 (by decide) rfl ?_
  refine gV.widen (k := 80 + 105 * 0) (n := 6400 + 3885 * 0) (by decide) (by decide) ?_
  exact gV.eqs (lv' := [some (.ref b), some (.ref oa), some (.ref ga), some (.ref pa), some (.ref qa), some (.ref ea), some (vi (1)), some (vi (((0 + 2 : Nat) : Int)))]) (lcons rfl (lcons rfl (lcons rfl (lcons rfl (lcons rfl (lcons rfl (lcons rfl (lcons (svi (by decide)) rfl)))))))) rfl rfl (law_loop hl hC hX hL hend 0 (Nat.zero_le _) gh3 (hLO3.mono (by show z2 0 ≤ 50 * ((0 : Nat) : Int); omega) (by show G2 5 ≤ ((0 : Nat) : Int); omega) (Int.le_refl _) (Int.le_refl _)))

end Q14
