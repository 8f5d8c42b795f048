/-! p16: the law's own wrappers of the class's calls -/
section Q3
set_option maxHeartbeats 4000000 in
set_option maxRecDepth 100000 in
theorem kL_dot {l : Launch} (hl : l.stackTraces = false) {D : gD} {base : Nat} {ad : Tg → Nat} {z : Nat → Int} {F : Nat → Nat → Int} {ct : Tg → Option gC} (hC9 : CI ad z F ct) {oa : Nat} (eo : ad (2, 0, 0) = oa) (s p : Nat) (hs : (s : Int) < z 11) (hp9 : (p : Int) < z 3) (b : Bool) (gh : gH) (hR : cR ad ct gh) : gMW l D base yL_dot cL_dot 5 (some Jvm.ClassFile.FieldType.int) [((0 : Nat), (7 : Nat), (8 : Nat), (30 : Nat))] 9 150 2 12 [.ref oa, vi ((s : Int)), vi ((p : Int)), vi (b2i (b))] gh (fun r gh' => r = some (vi (dotV F s p b)) ∧ gh' = gh) := by
  subst eo
  obtain ⟨hS, hI, hE, hQ, h10⟩ := hC9
  obtain ⟨i0, i1, i3, i11, i22, iw, ip, inn, inm, ish⟩ := id hI
  refine gMW.of hl (by decide) (by simp [Value.category]) (Nat.le_of_ble_eq_true rfl) [some (.ref (ad (2, 0, 0))), some (vi ((s : Int))), some (vi ((p : Int))), some (vi (b2i (b))), none] rfl (fun x hC hq => ?_)
  have f1 : gh (ad (2, 0, 0)) = some (gO 10 [.ref (ad (2, 1, 0)), .ref (ad (2, 3, 0)), .ref (ad (2, 4, 0)), .ref (ad (2, 5, 0)), vi (z 3), vi (z 11), vi (z 22), vi (z 0)]) := hR.1 _ _ (hS.1)
  refine g_ald_n hC dL_dot_0 rfl ?_
  refine g_iload_n hC dL_dot_1 rfl ?_
  refine g_iload_n hC dL_dot_2 rfl ?_
  refine g_iload_n hC dL_dot_3 rfl ?_
  refine g_callVX (rest := []) hC (kX6_dot hl hI hS (s : Int) (p : Int) b (by omega) (by omega) gh hR) gc_RL_43 rfl f1 rfl ⟨by decide, by decide⟩ ⟨by decide, by decide⟩ (Nat.le_of_ble_eq_true rfl) rfl dL_dot_4 (fun E g hx => ?_) (fun r0 g hp => ?_)
  · obtain ⟨hg, hx⟩ := hx
    rw [hg]
    obtain ⟨h1, rfl⟩ := hx
    exact absurd (h1.symm.trans (by rw [inB_iff.mpr (by omega), inB_iff.mpr (by omega)])) (by decide)
  · obtain ⟨rfl, hg, -⟩ := hp
    rw [hg]
    refine gV.eqs (st' := [vi (dotV F s p b)]) rfl rfl rfl ?_
    exact g_iretW hC hq dL_dot_7 (by decide) (by decide) ⟨rfl, rfl⟩

set_option maxHeartbeats 4000000 in
set_option maxRecDepth 100000 in
theorem kL_side {l : Launch} (hl : l.stackTraces = false) {D : gD} {base : Nat} {ad : Tg → Nat} {z : Nat → Int} {F : Nat → Nat → Int} {ct : Tg → Option gC} (hC9 : CI ad z F ct) {oa : Nat} (eo : ad (2, 0, 0) = oa) (s p : Nat) (hs : (s : Int) < z 11) (hp9 : (p : Int) < z 3) (gh : gH) (hR : cR ad ct gh) : gMW l D base yL_side cL_side 4 (some Jvm.ClassFile.FieldType.int) [((0 : Nat), (6 : Nat), (7 : Nat), (30 : Nat))] 9 148 2 12 [.ref oa, vi ((s : Int)), vi ((p : Int))] gh (fun r gh' => r = some (vi ((lay0 F s (z 3).toNat (z 0)).1 p)) ∧ gh' = gh) := by
  subst eo
  obtain ⟨hS, hI, hE, hQ, h10⟩ := hC9
  obtain ⟨i0, i1, i3, i11, i22, iw, ip, inn, inm, ish⟩ := id hI
  refine gMW.of hl (by decide) (by simp [Value.category]) (Nat.le_of_ble_eq_true rfl) [some (.ref (ad (2, 0, 0))), some (vi ((s : Int))), some (vi ((p : Int))), none] rfl (fun x hC hq => ?_)
  have f1 : gh (ad (2, 0, 0)) = some (gO 10 [.ref (ad (2, 1, 0)), .ref (ad (2, 3, 0)), .ref (ad (2, 4, 0)), .ref (ad (2, 5, 0)), vi (z 3), vi (z 11), vi (z 22), vi (z 0)]) := hR.1 _ _ (hS.1)
  refine g_ald_n hC dL_side_0 rfl ?_
  refine g_iload_n hC dL_side_1 rfl ?_
  refine g_iload_n hC dL_side_2 rfl ?_
  refine g_callVX (rest := []) hC (kX6_side hl hI hS (s : Int) (p : Int) (by omega) (by omega) gh hR) gc_RL_47 rfl f1 rfl ⟨by decide, by decide⟩ ⟨by decide, by decide⟩ (Nat.le_of_ble_eq_true rfl) rfl dL_side_3 (fun E g hx => ?_) (fun r0 g hp => ?_)
  · obtain ⟨hg, hx⟩ := hx
    rw [hg]
    obtain ⟨h1, rfl⟩ := hx
    exact absurd (h1.symm.trans (by rw [inB_iff.mpr (by omega), inB_iff.mpr (by omega)])) (by decide)
  · obtain ⟨rfl, hg, -⟩ := hp
    rw [hg]
    refine gV.eqs (st' := [vi ((lay0 F s (z 3).toNat (z 0)).1 p)]) rfl rfl rfl ?_
    exact g_iretW hC hq dL_side_6 (by decide) (by decide) ⟨rfl, rfl⟩

set_option maxHeartbeats 4000000 in
set_option maxRecDepth 100000 in
theorem kL_drawn {l : Launch} (hl : l.stackTraces = false) {D : gD} {base : Nat} {ad : Tg → Nat} {z : Nat → Int} {F : Nat → Nat → Int} {ct : Tg → Option gC} (hC9 : CI ad z F ct) {oa : Nat} (eo : ad (2, 0, 0) = oa) (s : Nat) (hs : (s : Int) < z 11) (a c : Int) (ha : 0 ≤ a ∧ a ≤ 23) (hc : 0 ≤ c ∧ c ≤ 39) (gh : gH) (hR : cR ad ct gh) : gMW l D base yL_drawn cL_drawn 5 (some Jvm.ClassFile.FieldType.int) [((0 : Nat), (7 : Nat), (8 : Nat), (30 : Nat))] 8 127 2 12 [.ref oa, vi ((s : Int)), vi (a), vi (c)] gh (fun r gh' => r = some (vi ((lay0 F s (z 3).toNat (z 0)).2 (40 * a + c).toNat)) ∧ gh' = gh) := by
  subst eo
  obtain ⟨hS, hI, hE, hQ, h10⟩ := hC9
  obtain ⟨i0, i1, i3, i11, i22, iw, ip, inn, inm, ish⟩ := id hI
  refine gMW.of hl (by decide) (by simp [Value.category]) (Nat.le_of_ble_eq_true rfl) [some (.ref (ad (2, 0, 0))), some (vi ((s : Int))), some (vi (a)), some (vi (c)), none] rfl (fun x hC hq => ?_)
  have f1 : gh (ad (2, 0, 0)) = some (gO 10 [.ref (ad (2, 1, 0)), .ref (ad (2, 3, 0)), .ref (ad (2, 4, 0)), .ref (ad (2, 5, 0)), vi (z 3), vi (z 11), vi (z 22), vi (z 0)]) := hR.1 _ _ (hS.1)
  refine g_ald_n hC dL_drawn_0 rfl ?_
  refine g_iload_n hC dL_drawn_1 rfl ?_
  refine g_iload_n hC dL_drawn_2 rfl ?_
  refine g_iload_n hC dL_drawn_3 rfl ?_
  refine g_callVX (rest := []) hC (kX6_drawn hl hI hS (s : Int) a c (by omega) (by omega) (by omega) gh hR) gc_RL_51 rfl f1 rfl ⟨by decide, by decide⟩ ⟨by decide, by decide⟩ (Nat.le_of_ble_eq_true rfl) rfl dL_drawn_4 (fun E g hx => ?_) (fun r0 g hp => ?_)
  · obtain ⟨hg, hx⟩ := hx
    rw [hg]
    obtain ⟨h1, rfl⟩ := hx
    exact absurd (h1.symm.trans (by rw [inB_iff.mpr (by omega), inB_iff.mpr (by omega), inB_iff.mpr (by omega)])) (by decide)
  · obtain ⟨rfl, hg, -⟩ := hp
    rw [hg]
    refine gV.eqs (st' := [vi ((lay0 F s (z 3).toNat (z 0)).2 (40 * a + c).toNat)]) rfl rfl rfl ?_
    exact g_iretW hC hq dL_drawn_7 (by decide) (by decide) ⟨rfl, rfl⟩

set_option maxHeartbeats 4000000 in
set_option maxRecDepth 100000 in
theorem kL_worth {l : Launch} (hl : l.stackTraces = false) {D : gD} {base : Nat} {ad : Tg → Nat} {z : Nat → Int} {F : Nat → Nat → Int} {ct : Tg → Option gC} (hC9 : CI ad z F ct) {oa : Nat} (eo : ad (2, 0, 0) = oa) (s : Nat) (hs : (s : Int) < z 11) (gh : gH) (hR : cR ad ct gh) : gMW l D base yL_worth cL_worth 3 (some Jvm.ClassFile.FieldType.int) [((0 : Nat), (5 : Nat), (6 : Nat), (30 : Nat))] 8 124 2 12 [.ref oa, vi ((s : Int))] gh (fun r gh' => r = some (vi (sumW (lay0 F s (z 3).toNat (z 0)).1 (F 6) (z 3).toNat)) ∧ gh' = gh) := by
  subst eo
  obtain ⟨hS, hI, hE, hQ, h10⟩ := hC9
  obtain ⟨i0, i1, i3, i11, i22, iw, ip, inn, inm, ish⟩ := id hI
  refine gMW.of hl (by decide) (by simp [Value.category]) (Nat.le_of_ble_eq_true rfl) [some (.ref (ad (2, 0, 0))), some (vi ((s : Int))), none] rfl (fun x hC hq => ?_)
  have f1 : gh (ad (2, 0, 0)) = some (gO 10 [.ref (ad (2, 1, 0)), .ref (ad (2, 3, 0)), .ref (ad (2, 4, 0)), .ref (ad (2, 5, 0)), vi (z 3), vi (z 11), vi (z 22), vi (z 0)]) := hR.1 _ _ (hS.1)
  refine g_ald_n hC dL_worth_0 rfl ?_
  refine g_iload_n hC dL_worth_1 rfl ?_
  refine g_callVX (rest := []) hC (kX6_worth hl hI hS (s : Int) (by omega) gh hR) gc_RL_54 rfl f1 rfl ⟨by decide, by decide⟩ ⟨by decide, by decide⟩ (Nat.le_of_ble_eq_true rfl) rfl dL_worth_2 (fun E g hx => ?_) (fun r0 g hp => ?_)
  · obtain ⟨hg, hx⟩ := hx
    rw [hg]
    obtain ⟨h1, rfl⟩ := hx
    exact absurd (h1.symm.trans (inB_iff.mpr (by omega))) (by decide)
  · obtain ⟨rfl, hg, -⟩ := hp
    rw [hg]
    refine gV.eqs (st' := [vi (sumW (lay0 F s (z 3).toNat (z 0)).1 (F 6) (z 3).toNat)]) rfl rfl rfl ?_
    exact g_iretW hC hq dL_worth_5 (by decide) (by decide) ⟨rfl, rfl⟩

set_option maxHeartbeats 4000000 in
set_option maxRecDepth 100000 in
theorem kL_best {l : Launch} (hl : l.stackTraces = false) {D : gD} {base : Nat} {ad : Tg → Nat} {z : Nat → Int} {F : Nat → Nat → Int} {ct : Tg → Option gC} (hC9 : CI ad z F ct) {oa : Nat} (eo : ad (2, 0, 0) = oa) (s : Nat) (hs : (s : Int) < z 11) (gh : gH) (hR : cR ad ct gh) : gMW l D base yL_best cL_best 3 (some Jvm.ClassFile.FieldType.int) [((0 : Nat), (5 : Nat), (6 : Nat), (30 : Nat)), ((0 : Nat), (5 : Nat), (10 : Nat), (19 : Nat))] 12 285 2 12 [.ref oa, vi ((s : Int))] gh (fun r gh' => ((nmL F s (z 0) (z 3).toNat).length ≤ 4 ∧ r = some (vi (maxW F s (z 0) (dotP F s (z 3).toNat) (nmL F s (z 0) (z 3).toNat) (5 ^ (nmL F s (z 0) (z 3).toNat).length))) ∧ xOK ad ct z F gh') ∨ (4 < (nmL F s (z 0) (z 3).toNat).length ∧ r = some (vi (-1000003)) ∧ gh' = gh)) := by
  subst eo
  obtain ⟨hS, hI, hE, hQ, h10⟩ := hC9
  obtain ⟨i0, i1, i3, i11, i22, iw, ip, inn, inm, ish⟩ := id hI
  refine gMW.of hl (by decide) (by simp [Value.category]) (Nat.le_of_ble_eq_true rfl) [some (.ref (ad (2, 0, 0))), some (vi ((s : Int))), none] rfl (fun x hC hq => ?_)
  have f1 : gh (ad (2, 0, 0)) = some (gO 10 [.ref (ad (2, 1, 0)), .ref (ad (2, 3, 0)), .ref (ad (2, 4, 0)), .ref (ad (2, 5, 0)), vi (z 3), vi (z 11), vi (z 22), vi (z 0)]) := hR.1 _ _ (hS.1)
  refine g_ald_n hC dL_best_0 rfl ?_
  refine g_iload_n hC dL_best_1 rfl ?_
  refine g_callVX (rest := []) hC (kX6_best hl hI hS (s : Int) (by omega) gh hR) gc_RL_57 rfl f1 rfl ⟨by decide, by decide⟩ ⟨by decide, by decide⟩ (Nat.le_of_ble_eq_true rfl) rfl dL_best_2 (fun E g hx => ?_) (fun r0 g hp => ?_)
  · obtain ⟨hg, hx⟩ := hx
    rw [hg]
    rcases hx with ⟨h1, rfl⟩ | ⟨h1, h2, rfl⟩
    · exact absurd (h1.symm.trans (inB_iff.mpr (by omega))) (by decide)
    · refine g_catch2 hC hq rfl (by decide) (by decide) cl30 (by decide) cl19 ca_ise (fun q => ?_)
      refine g_ast_n (lv' := [some (.ref (ad (2, 0, 0))), some (vi ((s : Int))), some (.ref q)]) hC dL_best_10 (by decide) rfl ?_
      refine g_ldcI (z := (-1000003)) hC dL_best_11 gk_RL_21 (by decide +kernel) ?_
      exact g_iretW hC hq dL_best_13 (by decide) (by decide) (Or.inr ⟨by rw [h1, Bool.true_and] at h2; have := of_decide_eq_false h2; rw [Int.toNat_natCast] at this; omega, rfl, rfl⟩)
  · obtain ⟨rfl, hB, hx⟩ := hp
    have hB2 := of_decide_eq_true ((Bool.and_eq_true _ _).mp hB).2
    rw [Int.toNat_natCast] at hB2 ⊢
    refine gV.eqs (st' := [vi (maxW F s (z 0) (dotP F s (z 3).toNat) (nmL F s (z 0) (z 3).toNat) (5 ^ (nmL F s (z 0) (z 3).toNat).length))]) rfl rfl rfl ?_
    exact g_iretW hC hq dL_best_5 (by decide) (by decide) (Or.inl ⟨hB2, rfl, hx⟩)

set_option maxHeartbeats 4000000 in
set_option maxRecDepth 100000 in
theorem kL_spelled {l : Launch} (hl : l.stackTraces = false) {D : gD} {base : Nat} {ad : Tg → Nat} {z : Nat → Int} {F : Nat → Nat → Int} {ct : Tg → Option gC} (hC9 : CI ad z F ct) {oa : Nat} (eo : ad (2, 0, 0) = oa) (i : Nat) (hi : (i : Int) < z 3) (on wh : Int) (hon : 0 ≤ on ∧ on ≤ 10000) (hwh : 0 ≤ wh ∧ wh < 2147483648) (gh : gH) (hR : cR ad ct gh) : gMW l D base yL_spelled cL_spelled 5 (some Jvm.ClassFile.FieldType.int) [((0 : Nat), (7 : Nat), (8 : Nat), (30 : Nat)), ((0 : Nat), (7 : Nat), (13 : Nat), (16 : Nat))] 8 128 2 12 [.ref oa, vi ((i : Int)), vi (on), vi (wh)] gh (fun r gh' => r = some (vi (spV F on wh i)) ∧ gh' = gh) := by
  subst eo
  obtain ⟨hS, hI, hE, hQ, h10⟩ := hC9
  obtain ⟨i0, i1, i3, i11, i22, iw, ip, inn, inm, ish⟩ := id hI
  refine gMW.of hl (by decide) (by simp [Value.category]) (Nat.le_of_ble_eq_true rfl) [some (.ref (ad (2, 0, 0))), some (vi ((i : Int))), some (vi (on)), some (vi (wh)), none] rfl (fun x hC hq => ?_)
  have f1 : gh (ad (2, 0, 0)) = some (gO 10 [.ref (ad (2, 1, 0)), .ref (ad (2, 3, 0)), .ref (ad (2, 4, 0)), .ref (ad (2, 5, 0)), vi (z 3), vi (z 11), vi (z 22), vi (z 0)]) := hR.1 _ _ (hS.1)
  refine g_ald_n hC dL_spelled_0 rfl ?_
  refine g_iload_n hC dL_spelled_1 rfl ?_
  refine g_iload_n hC dL_spelled_2 rfl ?_
  refine g_iload_n hC dL_spelled_3 rfl ?_
  refine g_callVX (rest := []) hC (kX6_spelled hl hI hS (i : Int) on wh (by omega) (by omega) (by omega) gh hR) gc_RL_33 rfl f1 rfl ⟨by decide, by decide⟩ ⟨by decide, by decide⟩ (Nat.le_of_ble_eq_true rfl) rfl dL_spelled_4 (fun E g hx => ?_) (fun r0 g hp => ?_)
  · obtain ⟨hg, hx⟩ := hx
    rw [hg]
    rcases hx with ⟨h1, rfl⟩ | ⟨h1, h2, rfl⟩
    · exact absurd (h1.symm.trans (by rw [inB_iff.mpr (by omega), decide_eq_true hwh.1])) (by decide)
    · exact absurd (h2.symm.trans (inB_iff.mpr (by omega))) (by decide)
  · obtain ⟨rfl, hg, -⟩ := hp
    rw [hg]
    refine gV.eqs (st' := [vi (spV F on wh i)]) rfl rfl rfl ?_
    exact g_iretW hC hq dL_spelled_7 (by decide) (by decide) ⟨rfl, rfl⟩

set_option maxHeartbeats 4000000 in
set_option maxRecDepth 100000 in
theorem kL_printed {l : Launch} (hl : l.stackTraces = false) {D : gD} {base : Nat} {ad : Tg → Nat} {z : Nat → Int} {F : Nat → Nat → Int} {ct : Tg → Option gC} (hC9 : CI ad z F ct) {oa : Nat} (eo : ad (2, 0, 0) = oa) (e s a c : Int) (r_e : -2147483648 ≤ e ∧ e < 2147483648) (r_s : -2147483648 ≤ s ∧ s < 2147483648) (r_a : -2147483648 ≤ a ∧ a < 2147483648) (r_c : -2147483648 ≤ c ∧ c < 2147483648) (gh : gH) (hR : cR ad ct gh) : gMW l D base yL_printed cL_printed 6 (some Jvm.ClassFile.FieldType.int) [((0 : Nat), (9 : Nat), (10 : Nat), (30 : Nat))] 8 128 2 12 [.ref oa, vi (e), vi (s), vi (a), vi (c)] gh (fun r gh' => r = some (vi (if (inB e 0 (z 22 - 1) && (inB s 0 (z 11 - 1) && (inB a 0 23 && inB c 0 39))) = true then printedV F e.toNat s.toNat a c else -1000001)) ∧ gh' = gh) := by
  subst eo
  obtain ⟨hS, hI, hE, hQ, h10⟩ := hC9
  obtain ⟨i0, i1, i3, i11, i22, iw, ip, inn, inm, ish⟩ := id hI
  refine gMW.of hl (by decide) (by simp [Value.category]) (Nat.le_of_ble_eq_true rfl) [some (.ref (ad (2, 0, 0))), some (vi (e)), some (vi (s)), some (vi (a)), some (vi (c)), none] rfl (fun x hC hq => ?_)
  have f1 : gh (ad (2, 0, 0)) = some (gO 10 [.ref (ad (2, 1, 0)), .ref (ad (2, 3, 0)), .ref (ad (2, 4, 0)), .ref (ad (2, 5, 0)), vi (z 3), vi (z 11), vi (z 22), vi (z 0)]) := hR.1 _ _ (hS.1)
  refine g_ald_n hC dL_printed_0 rfl ?_
  refine g_iload_n hC dL_printed_1 rfl ?_
  refine g_iload_n hC dL_printed_2 rfl ?_
  refine g_iload_n hC dL_printed_3 rfl ?_
  refine g_iload hC dL_printed_4 rfl ?_
  refine g_callVX (rest := []) hC (kX6_printed hl hI hS hE e s a c r_e r_s r_a r_c gh hR) gc_RL_64 rfl f1 rfl ⟨by decide, by decide⟩ ⟨by decide, by decide⟩ (Nat.le_of_ble_eq_true rfl) rfl dL_printed_6 (fun E g hx => ?_) (fun r0 g hp => ?_)
  · obtain ⟨hg, hx⟩ := hx
    rw [hg]
    obtain ⟨h1, rfl⟩ := hx
    refine g_catch1 hC hq rfl (by decide) cl30 ca_iob (fun q => ?_)
    refine g_ast (lv' := [some (.ref (ad (2, 0, 0))), some (vi (e)), some (vi (s)), some (vi (a)), some (vi (c)), some (.ref q)]) hC dL_printed_10 (by decide) rfl ?_
    refine g_ldcI (z := (-1000001)) hC dL_printed_12 gk_RL_32 (by decide +kernel) ?_
    exact g_iretW hC hq dL_printed_14 (by decide) (by decide) ⟨by rw [h1, if_neg (by decide)], rfl⟩
  · obtain ⟨rfl, hg, hA⟩ := hp
    rw [hg]
    refine gV.eqs (st' := [vi (printedV F e.toNat s.toNat a c)]) rfl rfl rfl ?_
    exact g_iretW hC hq dL_printed_9 (by decide) (by decide) ⟨by rw [if_pos hA], rfl⟩

set_option maxHeartbeats 4000000 in
set_option maxRecDepth 100000 in
theorem kL_pass {l : Launch} (hl : l.stackTraces = false) {D : gD} {base : Nat} {ad : Tg → Nat} {z : Nat → Int} {F : Nat → Nat → Int} {ct : Tg → Option gC} (hC9 : CI ad z F ct) {oa : Nat} (eo : ad (2, 0, 0) = oa) (d : Int) (hd : 1 ≤ d ∧ d ≤ 1000) (hd2 : z 0 + d ≤ 10000) (gh : gH) (hR : cR ad ct gh) : gMW l D base yL_pass cL_pass 3 (some Jvm.ClassFile.FieldType.int) [((0 : Nat), (5 : Nat), (6 : Nat), (16 : Nat)), ((0 : Nat), (5 : Nat), (10 : Nat), (19 : Nat))] 7 103 1 6 [.ref oa, vi (d)] gh (fun r gh' => r = some (vi (z 0 + d)) ∧ xOK ad ct (gup z 0 (z 0 + d)) F gh') := by
  subst eo
  obtain ⟨hS, hI, hE, hQ, h10⟩ := hC9
  obtain ⟨i0, i1, i3, i11, i22, iw, ip, inn, inm, ish⟩ := id hI
  refine gMW.of hl (by decide) (by simp [Value.category]) (Nat.le_of_ble_eq_true rfl) [some (.ref (ad (2, 0, 0))), some (vi (d)), none] rfl (fun x hC hq => ?_)
  have f1 : gh (ad (2, 0, 0)) = some (gO 10 [.ref (ad (2, 1, 0)), .ref (ad (2, 3, 0)), .ref (ad (2, 4, 0)), .ref (ad (2, 5, 0)), vi (z 3), vi (z 11), vi (z 22), vi (z 0)]) := hR.1 _ _ (hS.1)
  refine g_ald_n hC dL_pass_0 rfl ?_
  refine g_iload_n hC dL_pass_1 rfl ?_
  refine g_callVX (rest := []) hC (kX6_pass hl hI hS d (by omega) gh hR) gc_RL_37 rfl f1 rfl ⟨by decide, by decide⟩ ⟨by decide, by decide⟩ (Nat.le_of_ble_eq_true rfl) rfl dL_pass_2 (fun E g hx => ?_) (fun r0 g hp => ?_)
  · obtain ⟨hg, hx⟩ := hx
    rw [hg]
    rcases hx with ⟨h1, rfl⟩ | ⟨h1, h2, rfl⟩
    · exact absurd (h1.symm.trans (inB_iff.mpr hd)) (by decide)
    · exact absurd (h2.symm.trans (decide_eq_true hd2)) (by decide)
  · obtain ⟨rfl, -, -, hx⟩ := hp
    refine gV.eqs (st' := [vi (z 0 + d)]) rfl rfl rfl ?_
    exact g_iretW hC hq dL_pass_5 (by decide) (by decide) ⟨rfl, hx⟩

set_option maxHeartbeats 4000000 in
set_option maxRecDepth 100000 in
theorem kL_place {l : Launch} (hl : l.stackTraces = false) {D : gD} {base : Nat} {ad : Tg → Nat} {z : Nat → Int} {F : Nat → Nat → Int} {ct : Tg → Option gC} (hC9 : CI ad z F ct) {oa : Nat} (eo : ad (2, 0, 0) = oa) (a b c : Int) (ha : -180 ≤ a ∧ a ≤ 179) (hb : -60 ≤ b ∧ b ≤ 60) (hc : 1 ≤ c ∧ c ≤ 5) (h3 : z 3 < 14) (gh : gH) (hR : cR ad ct gh) : gMW l D base yL_place cL_place 5 (some Jvm.ClassFile.FieldType.int) [((0 : Nat), (7 : Nat), (8 : Nat), (16 : Nat)), ((0 : Nat), (7 : Nat), (13 : Nat), (19 : Nat))] 10 223 6 39 [.ref oa, vi (a), vi (b), vi (c)] gh (fun r gh' => r = some (vi (z 3)) ∧ xOK ad ct (gup z 3 (z 3 + 1)) (plF z F a b c) gh') := by
  subst eo
  obtain ⟨hS, hI, hE, hQ, h10⟩ := hC9
  obtain ⟨i0, i1, i3, i11, i22, iw, ip, inn, inm, ish⟩ := id hI
  refine gMW.of hl (by decide) (by simp [Value.category]) (Nat.le_of_ble_eq_true rfl) [some (.ref (ad (2, 0, 0))), some (vi (a)), some (vi (b)), some (vi (c)), none] rfl (fun x hC hq => ?_)
  have f1 : gh (ad (2, 0, 0)) = some (gO 10 [.ref (ad (2, 1, 0)), .ref (ad (2, 3, 0)), .ref (ad (2, 4, 0)), .ref (ad (2, 5, 0)), vi (z 3), vi (z 11), vi (z 22), vi (z 0)]) := hR.1 _ _ (hS.1)
  refine g_ald_n hC dL_place_0 rfl ?_
  refine g_iload_n hC dL_place_1 rfl ?_
  refine g_iload_n hC dL_place_2 rfl ?_
  refine g_iload_n hC dL_place_3 rfl ?_
  refine g_callVX (rest := []) hC (kX6_place hl hI hS hE hQ a b c (by omega) (by omega) (by omega) gh hR) gc_RL_22 rfl f1 rfl ⟨by decide, by decide⟩ ⟨by decide, by decide⟩ (Nat.le_of_ble_eq_true rfl) rfl dL_place_4 (fun E g hx => ?_) (fun r0 g hp => ?_)
  · obtain ⟨hg, hx⟩ := hx
    rw [hg]
    rcases hx with ⟨h1, rfl⟩ | ⟨h1, h2, rfl⟩
    · exact absurd (h1.symm.trans (by rw [inB_iff.mpr ha, inB_iff.mpr hb, inB_iff.mpr hc])) (by decide)
    · exact absurd (h2.symm.trans (decide_eq_true h3)) (by decide)
  · obtain ⟨rfl, -, -, hx⟩ := hp
    refine gV.eqs (st' := [vi (z 3)]) rfl rfl rfl ?_
    exact g_iretW hC hq dL_place_7 (by decide) (by decide) ⟨rfl, hx⟩

set_option maxHeartbeats 4000000 in
set_option maxRecDepth 100000 in
theorem kL_letter {l : Launch} (hl : l.stackTraces = false) {D : gD} {base : Nat} {ad : Tg → Nat} {z : Nat → Int} {F : Nat → Nat → Int} {ct : Tg → Option gC} (hC9 : CI ad z F ct) {oa : Nat} (eo : ad (2, 0, 0) = oa) (c : Int) (hc : 97 ≤ c ∧ c ≤ 122) (gh : gH) (hR : cR ad ct gh) : gMW l D base yL_letter cL_letter 3 (some Jvm.ClassFile.FieldType.int) [((0 : Nat), (5 : Nat), (6 : Nat), (16 : Nat)), ((0 : Nat), (5 : Nat), (10 : Nat), (19 : Nat))] 7 103 1 6 [.ref oa, vi (c)] gh (fun r gh' => (z 1 < 8 ∧ r = some (vi (z 1 + 1)) ∧ xOK ad ct (gup z 1 (z 1 + 1)) (gup F 2 (gup (F 2) (z 1).toNat c)) gh') ∨ (8 ≤ z 1 ∧ r = some (vi (-1000003)) ∧ gh' = gh)) := by
  subst eo
  obtain ⟨hS, hI, hE, hQ, h10⟩ := hC9
  obtain ⟨i0, i1, i3, i11, i22, iw, ip, inn, inm, ish⟩ := id hI
  refine gMW.of hl (by decide) (by simp [Value.category]) (Nat.le_of_ble_eq_true rfl) [some (.ref (ad (2, 0, 0))), some (vi (c)), none] rfl (fun x hC hq => ?_)
  have f1 : gh (ad (2, 0, 0)) = some (gO 10 [.ref (ad (2, 1, 0)), .ref (ad (2, 3, 0)), .ref (ad (2, 4, 0)), .ref (ad (2, 5, 0)), vi (z 3), vi (z 11), vi (z 22), vi (z 0)]) := hR.1 _ _ (hS.1)
  refine g_ald_n hC dL_letter_0 rfl ?_
  refine g_iload_n hC dL_letter_1 rfl ?_
  refine g_callVX (rest := []) hC (kX6_letter hl hI hS hE hQ c (by omega) gh hR) gc_RL_10 rfl f1 rfl ⟨by decide, by decide⟩ ⟨by decide, by decide⟩ (Nat.le_of_ble_eq_true rfl) rfl dL_letter_2 (fun E g hx => ?_) (fun r0 g hp => ?_)
  · obtain ⟨hg, hx⟩ := hx
    rw [hg]
    rcases hx with ⟨h1, rfl⟩ | ⟨h1, h2, rfl⟩
    · exact absurd (h1.symm.trans (inB_iff.mpr hc)) (by decide)
    · refine g_catch2 hC hq rfl (by decide) (by decide) cl16 (by decide) cl19 ca_ise (fun q => ?_)
      refine g_ast_n (lv' := [some (.ref (ad (2, 0, 0))), some (vi (c)), some (.ref q)]) hC dL_letter_10 (by decide) rfl ?_
      refine g_ldcI (z := (-1000003)) hC dL_letter_11 gk_RL_21 (by decide +kernel) ?_
      exact g_iretW hC hq dL_letter_13 (by decide) (by decide) (Or.inr ⟨by have := of_decide_eq_false h2; omega, rfl, rfl⟩)
  · obtain ⟨rfl, -, hB, hx⟩ := hp
    refine gV.eqs (st' := [vi (z 1 + 1)]) rfl rfl rfl ?_
    exact g_iretW hC hq dL_letter_5 (by decide) (by decide) (Or.inl ⟨of_decide_eq_true hB, rfl, hx⟩)

set_option maxHeartbeats 4000000 in
set_option maxRecDepth 100000 in
theorem kL_name {l : Launch} (hl : l.stackTraces = false) {D : gD} {base : Nat} {ad : Tg → Nat} {z : Nat → Int} {F : Nat → Nat → Int} {ct : Tg → Option gC} (hC9 : CI ad z F ct) {oa : Nat} (eo : ad (2, 0, 0) = oa) (i : Nat) (hi : (i : Int) < z 3) (gh : gH) (hR : cR ad ct gh) : gMW l D base yL_name cL_name 3 (some Jvm.ClassFile.FieldType.int) [((0 : Nat), (5 : Nat), (6 : Nat), (30 : Nat)), ((0 : Nat), (5 : Nat), (10 : Nat), (19 : Nat))] 10 222 4 28 [.ref oa, vi ((i : Int))] gh (fun r gh' => ((0 < z 1 ∧ F 7 i < 6) ∧ r = some (vi (pushUp F (namF z F i) i (z 3).toNat (z 0) (z 11).toNat)) ∧ xOK ad ct (gup z 1 0) (namF z F i) gh') ∨ (¬ (0 < z 1 ∧ F 7 i < 6) ∧ r = some (vi (-1000003)) ∧ gh' = gh)) := by
  subst eo
  obtain ⟨hS, hI, hE, hQ, h10⟩ := hC9
  obtain ⟨i0, i1, i3, i11, i22, iw, ip, inn, inm, ish⟩ := id hI
  refine gMW.of hl (by decide) (by simp [Value.category]) (Nat.le_of_ble_eq_true rfl) [some (.ref (ad (2, 0, 0))), some (vi ((i : Int))), none] rfl (fun x hC hq => ?_)
  have f1 : gh (ad (2, 0, 0)) = some (gO 10 [.ref (ad (2, 1, 0)), .ref (ad (2, 3, 0)), .ref (ad (2, 4, 0)), .ref (ad (2, 5, 0)), vi (z 3), vi (z 11), vi (z 22), vi (z 0)]) := hR.1 _ _ (hS.1)
  refine g_ald_n hC dL_name_0 rfl ?_
  refine g_iload_n hC dL_name_1 rfl ?_
  refine g_callVX (rest := []) hC (kX6_name hl hI hS hE hQ (i : Int) (by omega) gh hR) gc_RL_26 rfl f1 rfl ⟨by decide, by decide⟩ ⟨by decide, by decide⟩ (Nat.le_of_ble_eq_true rfl) rfl dL_name_2 (fun E g hx => ?_) (fun r0 g hp => ?_)
  · obtain ⟨hg, hx⟩ := hx
    rw [hg]
    rcases hx with ⟨h1, rfl⟩ | ⟨h1, h2, rfl⟩
    · exact absurd (h1.symm.trans (inB_iff.mpr (by omega))) (by decide)
    · refine g_catch2 hC hq rfl (by decide) (by decide) cl30 (by decide) cl19 ca_ise (fun q => ?_)
      refine g_ast_n (lv' := [some (.ref (ad (2, 0, 0))), some (vi ((i : Int))), some (.ref q)]) hC dL_name_10 (by decide) rfl ?_
      refine g_ldcI (z := (-1000003)) hC dL_name_11 gk_RL_21 (by decide +kernel) ?_
      exact g_iretW hC hq dL_name_13 (by decide) (by decide) (Or.inr ⟨fun q => by rw [Int.toNat_natCast, decide_eq_true q.1, decide_eq_true q.2] at h2; exact absurd h2 (by decide), rfl, rfl⟩)
  · obtain ⟨rfl, -, hB, hx⟩ := hp
    rw [Int.toNat_natCast] at hB hx
    obtain ⟨hB1, hB2⟩ := (Bool.and_eq_true _ _).mp hB
    rw [Int.toNat_natCast]
    refine gV.eqs (st' := [vi (pushUp F (namF z F i) i (z 3).toNat (z 0) (z 11).toNat)]) rfl rfl rfl ?_
    exact g_iretW hC hq dL_name_5 (by decide) (by decide) (Or.inl ⟨⟨of_decide_eq_true hB1, of_decide_eq_true hB2⟩, rfl, hx⟩)

set_option maxHeartbeats 4000000 in
set_option maxRecDepth 100000 in
theorem kL_sheet {l : Launch} (hl : l.stackTraces = false) {D : gD} {base : Nat} {ad : Tg → Nat} {z : Nat → Int} {F : Nat → Nat → Int} {ct : Tg → Option gC} (hC9 : CI ad z F ct) {oa : Nat} (eo : ad (2, 0, 0) = oa) (a b c : Int) (ha : -180 ≤ a ∧ a ≤ 150) (hb : -60 ≤ b ∧ b ≤ 41) (hc : 0 ≤ c ∧ c ≤ 1) (gh : gH) (hR : cR ad ct gh) : gMW l D base yL_sheet cL_sheet 5 (some Jvm.ClassFile.FieldType.int) [((0 : Nat), (7 : Nat), (8 : Nat), (16 : Nat)), ((0 : Nat), (7 : Nat), (13 : Nat), (19 : Nat))] 9 201 21 2057 [.ref oa, vi (a), vi (b), vi (c)] gh (fun r gh' => (z 11 < 4 ∧ r = some (vi (z 11)) ∧ xOK ad ct (gup z 11 (z 11 + 1)) (shF z F a b c) gh') ∨ (4 ≤ z 11 ∧ r = some (vi (-1000003)) ∧ gh' = gh)) := by
  subst eo
  obtain ⟨hS, hI, hE, hQ, h10⟩ := hC9
  obtain ⟨i0, i1, i3, i11, i22, iw, ip, inn, inm, ish⟩ := id hI
  refine gMW.of hl (by decide) (by simp [Value.category]) (Nat.le_of_ble_eq_true rfl) [some (.ref (ad (2, 0, 0))), some (vi (a)), some (vi (b)), some (vi (c)), none] rfl (fun x hC hq => ?_)
  have f1 : gh (ad (2, 0, 0)) = some (gO 10 [.ref (ad (2, 1, 0)), .ref (ad (2, 3, 0)), .ref (ad (2, 4, 0)), .ref (ad (2, 5, 0)), vi (z 3), vi (z 11), vi (z 22), vi (z 0)]) := hR.1 _ _ (hS.1)
  refine g_ald_n hC dL_sheet_0 rfl ?_
  refine g_iload_n hC dL_sheet_1 rfl ?_
  refine g_iload_n hC dL_sheet_2 rfl ?_
  refine g_iload_n hC dL_sheet_3 rfl ?_
  refine g_callVX (rest := []) hC (kX6_sheet hl hI hS hE hQ a b c (by omega) (by omega) (by omega) gh hR) gc_RL_40 rfl f1 rfl ⟨by decide, by decide⟩ ⟨by decide, by decide⟩ (Nat.le_of_ble_eq_true rfl) rfl dL_sheet_4 (fun E g hx => ?_) (fun r0 g hp => ?_)
  · obtain ⟨hg, hx⟩ := hx
    rw [hg]
    rcases hx with ⟨h1, rfl⟩ | ⟨h1, h2, rfl⟩
    · exact absurd (h1.symm.trans (by rw [inB_iff.mpr ha, inB_iff.mpr hb, inB_iff.mpr hc])) (by decide)
    · refine g_catch2 hC hq rfl (by decide) (by decide) cl16 (by decide) cl19 ca_ise (fun q => ?_)
      refine g_ast (lv' := [some (.ref (ad (2, 0, 0))), some (vi (a)), some (vi (b)), some (vi (c)), some (.ref q)]) hC dL_sheet_13 (by decide) rfl ?_
      refine g_ldcI (z := (-1000003)) hC dL_sheet_15 gk_RL_21 (by decide +kernel) ?_
      exact g_iretW hC hq dL_sheet_17 (by decide) (by decide) (Or.inr ⟨by have := of_decide_eq_false h2; omega, rfl, rfl⟩)
  · obtain ⟨rfl, -, hB, hx⟩ := hp
    refine gV.eqs (st' := [vi (z 11)]) rfl rfl rfl ?_
    exact g_iretW hC hq dL_sheet_7 (by decide) (by decide) (Or.inl ⟨of_decide_eq_true hB, rfl, hx⟩)

set_option maxHeartbeats 4000000 in
set_option maxRecDepth 100000 in
theorem kL_print {l : Launch} (hl : l.stackTraces = false) {D : gD} {base : Nat} {ad : Tg → Nat} {z : Nat → Int} {F : Nat → Nat → Int} {ct : Tg → Option gC} (hC9 : CI ad z F ct) {oa : Nat} (eo : ad (2, 0, 0) = oa) (gh : gH) (hR : cR ad ct gh) : gMW l D base yL_print cL_print 2 (some Jvm.ClassFile.FieldType.int) [((0 : Nat), (4 : Nat), (5 : Nat), (19 : Nat))] 7 105 10 3849 [.ref oa] gh (fun r gh' => (z 22 < 5 ∧ r = some (vi (z 22)) ∧ xOK ad ct (gup z 22 (z 22 + 1)) (prF z F) gh') ∨ (5 ≤ z 22 ∧ r = some (vi (-1000003)) ∧ gh' = gh)) := by
  subst eo
  obtain ⟨hS, hI, hE, hQ, h10⟩ := hC9
  obtain ⟨i0, i1, i3, i11, i22, iw, ip, inn, inm, ish⟩ := id hI
  refine gMW.of hl (by decide) (by simp [Value.category]) (Nat.le_of_ble_eq_true rfl) [some (.ref (ad (2, 0, 0))), none] rfl (fun x hC hq => ?_)
  have f1 : gh (ad (2, 0, 0)) = some (gO 10 [.ref (ad (2, 1, 0)), .ref (ad (2, 3, 0)), .ref (ad (2, 4, 0)), .ref (ad (2, 5, 0)), vi (z 3), vi (z 11), vi (z 22), vi (z 0)]) := hR.1 _ _ (hS.1)
  refine g_ald_n hC dL_print_0 rfl ?_
  refine g_callVX (rest := []) hC (kX6_print hl hI hS hE hQ gh hR) gc_RL_60 rfl f1 rfl ⟨by decide, by decide⟩ ⟨by decide, by decide⟩ (Nat.le_of_ble_eq_true rfl) rfl dL_print_1 (fun E g hx => ?_) (fun r0 g hp => ?_)
  · obtain ⟨hg, hx⟩ := hx
    rw [hg]
    obtain ⟨h1, rfl⟩ := hx
    refine g_catch1 hC hq rfl (by decide) cl19 ca_ise (fun q => ?_)
    refine g_ast_n (lv' := [some (.ref (ad (2, 0, 0))), some (.ref q)]) hC dL_print_5 (by decide) rfl ?_
    refine g_ldcI (z := (-1000003)) hC dL_print_6 gk_RL_21 (by decide +kernel) ?_
    exact g_iretW hC hq dL_print_8 (by decide) (by decide) (Or.inr ⟨by have := of_decide_eq_false h1; omega, rfl, rfl⟩)
  · obtain ⟨rfl, hB, hx⟩ := hp
    refine gV.eqs (st' := [vi (z 22)]) rfl rfl rfl ?_
    exact g_iretW hC hq dL_print_4 (by decide) (by decide) (Or.inl ⟨of_decide_eq_true hB, rfl, hx⟩)

end Q3
