/-! the law's loop, and its start -/
section L4
set_option maxHeartbeats 4000000 in
set_option maxRecDepth 100000 in
theorem law_loop {x : gX} {l : Launch} (hl : l.stackTraces = false) {D : gD} {base : Nat} (hC : gK x l D base 7 RL cL_law room_1) {b L : Nat} {xs : Nat → Int32} (hX : gScr x base b L xs) (hL : L ≤ 2560) {xa mo oa : Nat}
    (hend : ∀ (gh : gH) (lv : List (Option Value)), gV x D base 7 1013 lv [vi 1] gh 601024 7293034) : ∀ j : Nat, j ≤ L / 5 → ∀ (gh : gH) (ad : Tg → Nat) (ct : Tg → Option gC) (z : Nat → Int) (F : Nat → Nat → Int), cR ad ct gh → LI ad z F ct → ad (2, 0, 0) = xa → ad (0, 0, 0) = mo → ad (30, 0, 0) = oa → gV x D base 7 23 [some (.ref b), some (.ref xa), some (.ref mo), some (.ref oa), some (vi (((5 * j : Nat) : Int))), none, none] [] gh (29 + 21 * j) (2418 + 3849 * j) := by
  refine g_for _ (fun j hj ih => ?_) ?_
  · intro gh ad ct z F hR hLI e1 e2 e3
    subst e1; subst e2; subst e3
    have rx := iI_rng (xs (5 * j))
    have h5 : 5 * j + 5 ≤ L := by omega
    have nx : ∀ (gh2 : gH) (ad2 : Tg → Nat) (ct2 : Tg → Option gC) (z2 : Nat → Int) (F2 : Nat → Nat → Int), cR ad2 ct2 gh2 → LI ad2 z2 F2 ct2 → ad2 (2, 0, 0) = ad (2, 0, 0) → ad2 (0, 0, 0) = ad (0, 0, 0) → ad2 (30, 0, 0) = ad (30, 0, 0) → gV x D base 7 1006 [some (.ref b), some (.ref (ad (2, 0, 0))), some (.ref (ad (0, 0, 0))), some (.ref (ad (30, 0, 0))), some (vi ((5 * j : Nat) : Int)), none, none] [] gh2 (29 + 21 * j + 21) (2418 + 3849 * j + 3849) := by
      intro gh2 ad2 ct2 z2 F2 h2R h2L e4 e5 e6
      refine g_iinc (lv' := [some (.ref b), some (.ref (ad (2, 0, 0))), some (.ref (ad (0, 0, 0))), some (.ref (ad (30, 0, 0))), some (vi (((5 * j : Nat) : Int) + 5)), none, none]) hC dL_law_1006 (by decide) rfl rfl ?_
      refine g_goto (tgt := 23) hC dL_law_1009 (by decide) ?_
      refine gV.widen (k := 29 + 21 * (j + 1)) (n := 2418 + 3849 * (j + 1)) (by omega) (by omega) ?_
      exact gV.eqs (lv' := [some (.ref b), some (.ref (ad (2, 0, 0))), some (.ref (ad (0, 0, 0))), some (.ref (ad (30, 0, 0))), some (vi (((5 * (j + 1) : Nat) : Int))), none, none]) (lcons rfl (lcons rfl (lcons rfl (lcons rfl (lcons (svi (by omega)) (lcons rfl (lcons rfl rfl))))))) rfl rfl (ih gh2 ad2 ct2 z2 F2 h2R h2L e4 e5 e6)
    refine g_iload hC dL_law_23 rfl ?_
    refine g_ald_n hC dL_law_25 rfl ?_
    refine g_slen hC hX dL_law_26 ?_
    refine g_iconst hC dL_law_27 rfl ?_
    refine g_isub hC dL_law_28 ?_
    refine g_icmp_gt (tgt := 1012) hC dL_law_29 (by decide) (by omega) (by omega) (fun c_29 => False.elim (by omega)) (fun c_29 => ?_)
    refine g_ald_n hC dL_law_32 rfl ?_
    refine g_iload hC dL_law_33 rfl ?_
    refine g_sld hC hX (by omega) (5 * j) rfl (by omega) dL_law_35 ?_
    refine g_bipush (z := 15) hC dL_law_36 rfl ?_
    refine g_iandR (c0 := (xs (5 * j)).toInt % 16) hC dL_law_38 (iI_and15 rx) ?_
    obtain ⟨k, hk⟩ : ∃ k : Int, k = (xs (5 * j)).toInt % 16 := ⟨_, rfl⟩
    rw [← hk]
    have hk16 : 0 ≤ k ∧ k < 16 := by omega
    by_cases hin : k ≤ 12
    · by_cases k0 : k = 0
      · subst k0
        exact g_tswIn hC (by decide) dL_law_39 (by decide) (off := 65) (by decide) (tgt := 104) (by decide) (lc_letter hl hC hX hL (i := 5 * j) h5 hR hLI (cells := 29 + 21 * j) (slots := 2418 + 3849 * j) (by omega) (by omega) nx)
      by_cases k1 : k = 1
      · subst k1
        exact g_tswIn hC (by decide) dL_law_39 (by decide) (off := 123) (by decide) (tgt := 162) (by decide) (lc_place hl hC hX hL (i := 5 * j) h5 hR hLI (cells := 29 + 21 * j) (slots := 2418 + 3849 * j) (by omega) (by omega) nx)
      by_cases k2 : k = 2
      · subst k2
        exact g_tswIn hC (by decide) dL_law_39 (by decide) (off := 203) (by decide) (tgt := 242) (by decide) (lc_name hl hC hX hL (i := 5 * j) h5 hR hLI (cells := 29 + 21 * j) (slots := 2418 + 3849 * j) (by omega) (by omega) nx)
      by_cases k3 : k = 3
      · subst k3
        exact g_tswIn hC (by decide) dL_law_39 (by decide) (off := 259) (by decide) (tgt := 298) (by decide) (lc_spelled hl hC hX hL (i := 5 * j) h5 hR hLI (cells := 29 + 21 * j) (slots := 2418 + 3849 * j) (by omega) (by omega) nx)
      by_cases k4 : k = 4
      · subst k4
        exact g_tswIn hC (by decide) dL_law_39 (by decide) (off := 339) (by decide) (tgt := 378) (by decide) (lc_pass hl hC hX hL (i := 5 * j) h5 hR hLI (cells := 29 + 21 * j) (slots := 2418 + 3849 * j) (by omega) (by omega) nx)
      by_cases k5 : k = 5
      · subst k5
        exact g_tswIn hC (by decide) dL_law_39 (by decide) (off := 395) (by decide) (tgt := 434) (by decide) (lc_sheet hl hC hX hL (i := 5 * j) h5 hR hLI (cells := 29 + 21 * j) (slots := 2418 + 3849 * j) (by omega) (by omega) nx)
      by_cases k6 : k = 6
      · subst k6
        exact g_tswIn hC (by decide) dL_law_39 (by decide) (off := 475) (by decide) (tgt := 514) (by decide) (lc_dot hl hC hX hL (i := 5 * j) h5 hR hLI (cells := 29 + 21 * j) (slots := 2418 + 3849 * j) (by omega) (by omega) nx)
      by_cases k7 : k = 7
      · subst k7
        exact g_tswIn hC (by decide) dL_law_39 (by decide) (off := 571) (by decide) (tgt := 610) (by decide) (lc_side hl hC hX hL (i := 5 * j) h5 hR hLI (cells := 29 + 21 * j) (slots := 2418 + 3849 * j) (by omega) (by omega) nx)
      by_cases k8 : k = 8
      · subst k8
        exact g_tswIn hC (by decide) dL_law_39 (by decide) (off := 639) (by decide) (tgt := 678) (by decide) (lc_drawn hl hC hX hL (i := 5 * j) h5 hR hLI (cells := 29 + 21 * j) (slots := 2418 + 3849 * j) (by omega) (by omega) nx)
      by_cases k9 : k = 9
      · subst k9
        exact g_tswIn hC (by decide) dL_law_39 (by decide) (off := 719) (by decide) (tgt := 758) (by decide) (lc_worth hl hC hX hL (i := 5 * j) h5 hR hLI (cells := 29 + 21 * j) (slots := 2418 + 3849 * j) (by omega) (by omega) nx)
      by_cases k10 : k = 10
      · subst k10
        exact g_tswIn hC (by decide) dL_law_39 (by decide) (off := 775) (by decide) (tgt := 814) (by decide) (lc_best hl hC hX hL (i := 5 * j) h5 hR hLI (cells := 29 + 21 * j) (slots := 2418 + 3849 * j) (by omega) (by omega) nx)
      by_cases k11 : k = 11
      · subst k11
        exact g_tswIn hC (by decide) dL_law_39 (by decide) (off := 831) (by decide) (tgt := 870) (by decide) (lc_print hl hC hX hL (i := 5 * j) h5 hR hLI (cells := 29 + 21 * j) (slots := 2418 + 3849 * j) (by omega) (by omega) nx)
      by_cases k12 : k = 12
      · subst k12
        exact g_tswIn hC (by decide) dL_law_39 (by decide) (off := 875) (by decide) (tgt := 914) (by decide) (lc_printed hl hC hX hL (i := 5 * j) h5 hR hLI (cells := 29 + 21 * j) (slots := 2418 + 3849 * j) (by omega) (by omega) nx)
      omega
    · refine g_tswOut hC (by omega) dL_law_39 (by omega) (tgt := 1006) (by decide) ?_
      refine gV.widen (k := 29 + 21 * j + 21) (n := 2418 + 3849 * j + 3849) (by omega) (by omega) ?_
      exact nx gh ad ct z F hR hLI rfl rfl rfl
  · intro gh ad ct z F hR hLI e1 e2 e3
    refine g_iload hC dL_law_23 rfl ?_
    refine g_ald_n hC dL_law_25 rfl ?_
    refine g_slen hC hX dL_law_26 ?_
    refine g_iconst hC dL_law_27 rfl ?_
    refine g_isub hC dL_law_28 ?_
    refine g_icmp_gt (tgt := 1012) hC dL_law_29 (by decide) (by omega) (by omega) (fun c_29 => ?_) (fun c_29 => False.elim (by omega))
    refine g_iconst hC dL_law_1012 rfl ?_
    refine gV.widen (k := 601024) (n := 7293034) (by omega) (by omega) ?_
    exact hend gh _

set_option maxHeartbeats 4000000 in
set_option maxRecDepth 100000 in
theorem law_walk {x : gX} {l : Launch} (hl : l.stackTraces = false) {D : gD} {base : Nat} (hC : gK x l D base 7 RL cL_law room_1) {b L : Nat} {xs : Nat → Int32} (hX : gScr x base b L xs) (hL : L ≤ 2560)
    (hend : ∀ (gh : gH) (lv : List (Option Value)), gV x D base 7 1013 lv [vi 1] gh 601024 7293034) : gV x D base 7 0 [some (.ref b), none, none, none, none, none, none] [] (fun _ => none) 0 0 := by
  obtain ⟨g0, eg0⟩ : ∃ g : gH, g = fun _ => none := ⟨_, rfl⟩
  rw [← eg0]
  have h0R : cR (fun _ => 0) (fun _ => none) g0 := ⟨fun t c h => (nomatch h), fun t t2 c c2 h => (nomatch h)⟩
  refine g_new hC dL_law_0 gn_RL_8 (by decide) (by decide) (fun q1 hq1 => ?_)
  have r1 := h0R.new (t := (2, 0, 0)) hq1 (gO 10 [.null, .null, .null, .null, vi (0), vi (0), vi (0), vi (0)])
  obtain ⟨g1, eg1⟩ : ∃ g_, g_ = gset g0 q1 (gO 10 [.null, .null, .null, .null, vi (0), vi (0), vi (0), vi (0)]) := ⟨_, rfl⟩
  rw [← eg1] at r1 ⊢
  obtain ⟨a1, ea1⟩ : ∃ y, y = aup (fun _ => 0) (2, 0, 0) q1 := ⟨_, rfl⟩
  obtain ⟨c1, ec1⟩ : ∃ y, y = cup (fun _ => none) (2, 0, 0) (gO 10 [.null, .null, .null, .null, vi (0), vi (0), vi (0), vi (0)]) := ⟨_, rfl⟩
  rw [← ea1, ← ec1] at r1
  have va1 : a1 (2, 0, 0) = q1 := by rw [ea1, aup_eq]
  have vc1 : c1 (2, 0, 0) = some (gO 10 [.null, .null, .null, .null, vi (0), vi (0), vi (0), vi (0)]) := by rw [ec1, cup_eq]
  refine g_dup hC dL_law_3 rfl ?_
  refine gV.eqs (st' := [.ref (a1 (2, 0, 0)), .ref q1]) rfl (by rw [va1]) rfl ?_
  refine g_callI (rest := [.ref q1]) hC (kX6_init hl (z := fun _ => 0) (F := fun _ _ => 0) rfl rfl rfl rfl rfl vc1 g1 r1) gc_RL_62 rfl ⟨by decide, by decide⟩ ⟨by decide, by decide⟩ (Nat.le_of_ble_eq_true rfl) rfl dL_law_4 (fun r g2 hp => ?_)
  obtain ⟨rfl, a2, c2, r2, hS2, hx2⟩ := hp
  have va2 : a2 (2, 0, 0) = q1 := hx2.2.trans va1
  refine gV.eqs (st' := [.ref q1]) rfl rfl rfl ?_
  refine g_ast_n (lv' := [some (.ref b), some (.ref q1), none, none, none, none, none]) hC dL_law_7 (by decide) rfl ?_
  refine g_new hC dL_law_8 gn_RL_63 (by decide) (by decide) (fun q3 hq3 => ?_)
  have r3 := r2.new (t := (0, 0, 0)) hq3 (gO 11 [vi (0), vi (0), .null, vi (0), .null, .null, .null, .null, .null, .null, .null, vi (0), .null, .null, .null, .null, .null, .null, .null, .null, vi (0), .null, vi (0), .null, .null, .null, .null, vi (0)])
  obtain ⟨g3, eg3⟩ : ∃ g_, g_ = gset g2 q3 (gO 11 [vi (0), vi (0), .null, vi (0), .null, .null, .null, .null, .null, .null, .null, vi (0), .null, .null, .null, .null, .null, .null, .null, .null, vi (0), .null, vi (0), .null, .null, .null, .null, vi (0)]) := ⟨_, rfl⟩
  rw [← eg3] at r3 ⊢
  obtain ⟨a3, ea3⟩ : ∃ y, y = aup a2 (0, 0, 0) q3 := ⟨_, rfl⟩
  obtain ⟨c3, ec3⟩ : ∃ y, y = cup c2 (0, 0, 0) (gO 11 [vi (0), vi (0), .null, vi (0), .null, .null, .null, .null, .null, .null, .null, vi (0), .null, .null, .null, .null, .null, .null, .null, .null, vi (0), .null, vi (0), .null, .null, .null, .null, vi (0)]) := ⟨_, rfl⟩
  rw [← ea3, ← ec3] at r3
  have va3 : a3 (0, 0, 0) = q3 := by rw [ea3, aup_eq]
  have vc3 : c3 (0, 0, 0) = some (gO 11 [vi (0), vi (0), .null, vi (0), .null, .null, .null, .null, .null, .null, .null, vi (0), .null, .null, .null, .null, .null, .null, .null, .null, vi (0), .null, vi (0), .null, .null, .null, .null, vi (0)]) := by rw [ec3, cup_eq]
  refine g_dup hC dL_law_11 rfl ?_
  refine gV.eqs (st' := [.ref (a3 (0, 0, 0)), .ref q3]) rfl (by rw [va3]) rfl ?_
  refine g_callI (rest := [.ref q3]) hC (kX7_init hl vc3 g3 r3) gc_RL_65 rfl ⟨by decide, by decide⟩ ⟨by decide, by decide⟩ (Nat.le_of_ble_eq_true rfl) rfl dL_law_12 (fun r g4 hp => ?_)
  obtain ⟨rfl, a4, c4, r4, hM4, hf4, hm4⟩ := hp
  refine gV.eqs (st' := [.ref q3]) rfl rfl rfl ?_
  refine g_ast_n (lv' := [some (.ref b), some (.ref q1), some (.ref q3), none, none, none, none]) hC dL_law_15 (by decide) rfl ?_
  refine g_iconst hC dL_law_16 rfl ?_
  refine g_newL (n := 1) hC dL_law_17 ga_long rfl (by decide) (by decide) (by decide) (fun q5 hq5 => ?_)
  have r5 := r4.new (t := (30, 0, 0)) hq5 (gL 3 1 (fun _ => 0))
  obtain ⟨g5, eg5⟩ : ∃ g_, g_ = gset g4 q5 (gL 3 1 (fun _ => 0)) := ⟨_, rfl⟩
  rw [← eg5] at r5 ⊢
  refine g_ast_n (lv' := [some (.ref b), some (.ref q1), some (.ref q3), some (.ref q5), none, none, none]) hC dL_law_19 (by decide) rfl ?_
  refine g_iconst hC dL_law_20 rfl ?_
  refine g_istore (lv' := [some (.ref b), some (.ref q1), some (.ref q3), some (.ref q5), some (vi (0)), none, none]) hC dL_law_21 (by decide) rfl ?_
  have f5 : ∀ t : Tg, t ≠ (30, 0, 0) → aup a4 (30, 0, 0) q5 t = a4 t ∧ cup c4 (30, 0, 0) (gL 3 1 (fun _ => 0)) t = c4 t := fun t h => ⟨aup_ne h, cup_ne h⟩
  have f3 : ∀ t : Tg, t ≠ (0, 0, 0) → a3 t = a2 t ∧ c3 t = c2 t := fun t h => ⟨by rw [ea3, aup_ne h], by rw [ec3, cup_ne h]⟩
  have n30 : ∀ a b c : Nat, a ≠ 30 → (a, b, c) ≠ ((30, 0, 0) : Tg) := fun a b c h e => h (congrArg (fun t : Tg => t.1) e)
  have n00 : ∀ a b c : Nat, a ≠ 0 → (a, b, c) ≠ ((0, 0, 0) : Tg) := fun a b c h e => h (congrArg (fun t : Tg => t.1) e)
  have f25 : ∀ a b c : Nat, 2 ≤ a → a < 24 → aup a4 (30, 0, 0) q5 (a, b, c) = a2 (a, b, c) ∧ cup c4 (30, 0, 0) (gL 3 1 (fun _ => 0)) (a, b, c) = c2 (a, b, c) := fun a b c h1 h2 => by
    have e1 := f5 (a, b, c) (n30 a b c (by omega)); have e2 := hf4 (a, b, c) h1; have e3 := f3 (a, b, c) (n00 a b c (by omega))
    exact ⟨by rw [e1.1, e2.2, e3.1], by rw [e1.2, e2.1, e3.2]⟩
  have hST : ST (aup a4 (30, 0, 0) q5) (fun _ => 0) (fun _ _ => 0) (cup c4 (30, 0, 0) (gL 3 1 (fun _ => 0))) := by
    obtain ⟨h1, ⟨ml, B, b1, b2, b3⟩, h3, h4, h5, h6, h7, h8⟩ := hS2
    refine ⟨?_, ⟨ml, B, ?_, ?_, b3⟩, ?_, ?_, ?_, fun i hi => ?_, fun i hi => ?_, fun i hi => ?_⟩
    · rw [(f25 2 0 0 (by decide) (by decide)).2, h1]; unfold clO; rw [(f25 2 1 0 (by decide) (by decide)).1, (f25 2 3 0 (by decide) (by decide)).1, (f25 2 4 0 (by decide) (by decide)).1, (f25 2 5 0 (by decide) (by decide)).1]
    · rw [(f25 2 1 0 (by decide) (by decide)).2, (f25 2 2 0 (by decide) (by decide)).1]; exact b1
    · rw [(f25 2 2 0 (by decide) (by decide)).2]; exact b2
    · rw [(f25 2 3 0 (by decide) (by decide)).2, h3]; exact congrArg (fun f => some (gR 4 14 f)) (funext (fun i => by rw [(f25 3 i 0 (by decide) (by decide)).1]))
    · rw [(f25 2 4 0 (by decide) (by decide)).2, h4]; exact congrArg (fun f => some (gR 5 4 f)) (funext (fun i => by rw [(f25 10 i 0 (by decide) (by decide)).1]))
    · rw [(f25 2 5 0 (by decide) (by decide)).2, h5]; exact congrArg (fun f => some (gR 6 5 f)) (funext (fun i => by rw [(f25 20 i 0 (by decide) (by decide)).1]))
    · exact absurd hi (by show ¬ ((i : Int) < 0); omega)
    · exact absurd hi (by show ¬ ((i : Int) < 0); omega)
    · exact absurd hi (by show ¬ ((i : Int) < 0); omega)
  have hMR : MRP (aup a4 (30, 0, 0) q5) (fun _ => 0) (fun _ _ => 0) (cup c4 (30, 0, 0) (gL 3 1 (fun _ => 0))) := hM4.fr (fun t ht => by have e := f5 t (fun e => by rw [e] at ht; exact absurd ht (by decide)); exact ⟨e.2, e.1⟩)
  have hI0 : mI (fun _ => 0) (fun _ _ => 0) := by
    exact ⟨by decide, by decide, by decide, by decide, by decide, fun t ht => absurd ht (show ¬ ((t : Int) < 0) by omega), fun i hi => absurd hi (show ¬ ((i : Int) < 0) by omega), fun i hi => ⟨Int.le_refl 0, show (0 : Int) ≤ 6 by decide, fun _ => rfl⟩, fun i j hi hj => absurd hj (show ¬ ((j : Int) < 0) by omega), fun k hk => absurd hk (show ¬ ((k : Int) < 0) by omega)⟩
  have hE0 : mE (fun _ => 0) (fun _ _ => 0) := fun e he => by exfalso; have he2 : (e : Int) < 0 := he; omega
  have hQ0 : eQ (fun _ => 0) (fun _ _ => 0) := fun e s i he => by exfalso; have he2 : (e : Int) < 0 := he; omega
  have w2 : aup a4 (30, 0, 0) q5 (2, 0, 0) = q1 := (f25 2 0 0 (by decide) (by decide)).1.trans va2
  have w0 : aup a4 (30, 0, 0) q5 (0, 0, 0) = q3 := by rw [(f5 _ (by simp)).1, hm4, va3]
  refine gV.widen (k := 29 + 21 * 0) (n := 2418 + 3849 * 0) (by decide) (by decide) ?_
  exact gV.eqs (lv' := [some (.ref b), some (.ref q1), some (.ref q3), some (.ref q5), some (vi (((5 * 0 : Nat) : Int))), none, none]) (lcons rfl (lcons rfl (lcons rfl (lcons rfl (lcons (svi (by decide)) (lcons rfl (lcons rfl rfl))))))) rfl rfl (law_loop hl hC hX hL hend 0 (Nat.zero_le _) g5 _ _ _ _ r5 ⟨hST, hMR, hI0, hE0, hQ0, _, cup_eq⟩ w2 w0 aup_eq)

/-- the walk of the law, from its entry to its end -/
theorem whole_start {p : Program} {e : Env} {s : State} {m : MethodId} {below : List Frame} {meth : Method} {c : Code} (l : Launch) (hflags : l.flags = flags0) {b L : Nat} {xs : Nat → Int32} (hL : L ≤ 2560) (C0 : lw_At p s m meth c b L xs) : W p l e room_1 s m #[Value.ref b] below meth c s.heap [] 0 0 (lw_Z below #[Value.ref b] s) (entryFrame m ([Value.ref b] : List Value).toArray 7) := by
  obtain ⟨hx, hb, hr, hml, hown, hts, hXs, hbl, hlocks, hgv⟩ := C0
  obtain ⟨D, hE⟩ := gE_start hts hgv
  have hl : l.stackTraces = false := by
    show (!l.flags.contains noTraceFlag) = false
    rw [hflags]
    decide +kernel
  have hC : gK (p, l, e, room_1, s, m, #[Value.ref b], below, meth, c, lw_Z below #[Value.ref b] s) l D s.heap.size 7 RL cL_law room_1 := ⟨hx, hb, hml, hown, gwA_start hts, hE, hlocks, rfl, rfl, hl⟩
  have hend : ∀ (gh : gH) (lv : List (Option Value)), gV (p, l, e, room_1, s, m, #[Value.ref b], below, meth, c, lw_Z below #[Value.ref b] s) D s.heap.size 7 1013 lv [vi 1] gh 601024 7293034 := by
    intro gh lv H locs ls hG hS hlv
    refine va_forget (fun q hq => hS.2.2 q hq) ?_
    exact lw_ret (d0 := s.drawn) (Drawn.sameBut.refl s.drawn lw_cs) hx hb hr hlocks dL_law_1013
  have h := law_walk hl hC (b := b) (L := L) (xs := xs) ⟨hXs, hbl, hbl⟩ hL hend
  rw [lg_entry_eq]
  have hlve := gLv.entry [Value.ref b] (n := 7) (by simp [Value.category]) (Nat.le_of_ble_eq_true rfl)
  exact h s.heap [] _ (fun a c ha => (nomatch ha)) va_S.rf hlve
end L4
