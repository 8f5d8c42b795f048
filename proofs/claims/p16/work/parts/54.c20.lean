/-! the class: its calls that change nothing -/
section C20
theorem inB_t {v lo hi : Int} (h : inB v lo hi = true) : lo ≤ v ∧ v ≤ hi := inB_iff.mp h
theorem dotV_cr {F : Nat → Nat → Int} {s i : Nat} {b : Bool} : dotV F s i b = if b = true then rN F s i else cN F s i := by
  unfold dotV rN cN
  cases qOn F s i <;> cases b <;> rfl
set_option maxHeartbeats 4000000 in
set_option maxRecDepth 100000 in
theorem kX6_placeNumbered {l : Launch} (hl : l.stackTraces = false) {D : gD} {base : Nat}  {ad : Tg → Nat} {z : Nat → Int} {F : Nat → Nat → Int} {ct : Tg → Option gC} (hI : mI z F) (hS : ST ad z F ct) (i : Int) (r_i : -2147483648 ≤ i ∧ i < 2147483648) (gh : gH) (hR : cR ad ct gh) : gM l D base yX6_placeNumbered cX6_placeNumbered 2 (some (Jvm.ClassFile.FieldType.object "GraticulePress$Place")) 6 82 1 6 [.ref (ad (2, 0, 0)), vi (i)] gh (fun r gh' => r = some (.ref (ad (3, i.toNat, 0))) ∧ gh' = gh ∧ inB i 0 (z 3 - 1) = true) (fun E gh' => gh' = gh ∧ ((inB i 0 (z 3 - 1)) = false ∧ E = "java/lang/IndexOutOfBoundsException")) := by
  refine gM.of hl (by decide) (by simp [Value.category]) (Nat.le_of_ble_eq_true rfl) [some (.ref (ad (2, 0, 0))), some (vi (i))] rfl (fun x hC hq => ?_)
  obtain ⟨i0, i1, i3, i11, i22, iw, ip, inn, inm, ish⟩ := id hI
  obtain ⟨s1, ⟨ml, B, b1, b2, b3⟩, s3, s4, s5, s6, s7, s8⟩ := id hS
  have f1 : gh (ad (2, 0, 0)) = some (gO 10 [.ref (ad (2, 1, 0)), .ref (ad (2, 3, 0)), .ref (ad (2, 4, 0)), .ref (ad (2, 5, 0)), vi (z 3), vi (z 11), vi (z 22), vi (z 0)]) := hR.1 _ _ (s1)
  have f2 : gh (ad (2, 3, 0)) = some (gR 4 14 (fun i => if (i : Int) < z 3 then some (ad (3, i, 0)) else none)) := hR.1 _ _ (s3)
  have f3 : gh (ad (2, 4, 0)) = some (gR 5 4 (fun k => if (k : Int) < z 11 then some (ad (10, k, 0)) else none)) := hR.1 _ _ (s4)
  have f4 : gh (ad (2, 5, 0)) = some (gR 6 5 (fun e => if (e : Int) < z 22 then some (ad (20, e, 0)) else none)) := hR.1 _ _ (s5)
  refine g_iload_n hC dX6_placeNumbered_0 rfl ?_
  refine g_if_lt (tgt := 30) hC dX6_placeNumbered_1 (by decide) (by omega) (fun h1 => ?_) (fun h1 => ?_)
  · exact g_throw hC hq gt_210_119 dX6_placeNumbered_30 dX6_placeNumbered_33 dX6_placeNumbered_34 dX6_placeNumbered_36 dX6_placeNumbered_39 (by decide) (Nat.le_of_ble_eq_true rfl) (by decide) (by decide) (by decide) (by decide) ⟨rfl, decide_eq_false (by omega), rfl⟩
  · refine g_iload_n hC dX6_placeNumbered_4 rfl ?_
    refine g_ald_n hC dX6_placeNumbered_5 rfl ?_
    refine g_get hC dX6_placeNumbered_6 gf_RX6_34 f1 rfl ?_
    refine g_icmp_ge (tgt := 30) hC dX6_placeNumbered_9 (by decide) (by omega) (by omega) (fun h2 => ?_) (fun h2 => ?_)
    · exact g_throw hC hq gt_210_119 dX6_placeNumbered_30 dX6_placeNumbered_33 dX6_placeNumbered_34 dX6_placeNumbered_36 dX6_placeNumbered_39 (by decide) (Nat.le_of_ble_eq_true rfl) (by decide) (by decide) (by decide) (by decide) ⟨rfl, decide_eq_false (by omega), rfl⟩
    · refine g_iload_n hC dX6_placeNumbered_12 rfl ?_
      refine g_ald_n hC dX6_placeNumbered_13 rfl ?_
      refine g_get hC dX6_placeNumbered_14 gf_RX6_18 f1 rfl ?_
      refine g_alenR hC dX6_placeNumbered_17 f2 (by decide) ?_
      refine g_top (b := 14) rfl ?_
      refine g_icmp_ge (tgt := 30) hC dX6_placeNumbered_18 (by decide) (by omega) (by omega) (fun c_18 => False.elim (by omega)) (fun c_18 => ?_)
      refine g_ald_n hC dX6_placeNumbered_21 rfl ?_
      refine g_get hC dX6_placeNumbered_22 gf_RX6_18 f1 rfl ?_
      refine g_iload_n hC dX6_placeNumbered_25 rfl ?_
      refine g_aaldK (v := some (ad (3, i.toNat, 0))) hC (i.toNat) dX6_placeNumbered_26 f2 (by decide) rfl (by omega) (by omega) (by decide) (if_pos (by omega)) ?_
      refine g_ifnonnull_r (tgt := 40) hC dX6_placeNumbered_27 (by decide) ?_
      refine g_ald_n hC dX6_placeNumbered_40 rfl ?_
      refine g_get hC dX6_placeNumbered_41 gf_RX6_18 f1 rfl ?_
      refine g_iload_n hC dX6_placeNumbered_44 rfl ?_
      refine g_aaldK (v := some (ad (3, i.toNat, 0))) hC (i.toNat) dX6_placeNumbered_45 f2 (by decide) rfl (by omega) (by omega) (by decide) (if_pos (by omega)) ?_
      exact g_aret (v := some (ad (3, i.toNat, 0))) hC hq (Or.inl ⟨_, rfl⟩) dX6_placeNumbered_46 (by decide) (by decide) ⟨rfl, rfl, decide_eq_true (by omega)⟩

set_option maxHeartbeats 4000000 in
set_option maxRecDepth 100000 in
theorem kX6_sheetNumbered {l : Launch} (hl : l.stackTraces = false) {D : gD} {base : Nat}  {ad : Tg → Nat} {z : Nat → Int} {F : Nat → Nat → Int} {ct : Tg → Option gC} (hI : mI z F) (hS : ST ad z F ct) (i : Int) (r_i : -2147483648 ≤ i ∧ i < 2147483648) (gh : gH) (hR : cR ad ct gh) : gM l D base yX6_sheetNumbered cX6_sheetNumbered 2 (some (Jvm.ClassFile.FieldType.object "GraticulePress$Sheet")) 6 82 1 6 [.ref (ad (2, 0, 0)), vi (i)] gh (fun r gh' => r = some (.ref (ad (10, i.toNat, 0))) ∧ gh' = gh ∧ inB i 0 (z 11 - 1) = true) (fun E gh' => gh' = gh ∧ ((inB i 0 (z 11 - 1)) = false ∧ E = "java/lang/IndexOutOfBoundsException")) := by
  refine gM.of hl (by decide) (by simp [Value.category]) (Nat.le_of_ble_eq_true rfl) [some (.ref (ad (2, 0, 0))), some (vi (i))] rfl (fun x hC hq => ?_)
  obtain ⟨i0, i1, i3, i11, i22, iw, ip, inn, inm, ish⟩ := id hI
  obtain ⟨s1, ⟨ml, B, b1, b2, b3⟩, s3, s4, s5, s6, s7, s8⟩ := id hS
  have f1 : gh (ad (2, 0, 0)) = some (gO 10 [.ref (ad (2, 1, 0)), .ref (ad (2, 3, 0)), .ref (ad (2, 4, 0)), .ref (ad (2, 5, 0)), vi (z 3), vi (z 11), vi (z 22), vi (z 0)]) := hR.1 _ _ (s1)
  have f2 : gh (ad (2, 3, 0)) = some (gR 4 14 (fun i => if (i : Int) < z 3 then some (ad (3, i, 0)) else none)) := hR.1 _ _ (s3)
  have f3 : gh (ad (2, 4, 0)) = some (gR 5 4 (fun k => if (k : Int) < z 11 then some (ad (10, k, 0)) else none)) := hR.1 _ _ (s4)
  have f4 : gh (ad (2, 5, 0)) = some (gR 6 5 (fun e => if (e : Int) < z 22 then some (ad (20, e, 0)) else none)) := hR.1 _ _ (s5)
  refine g_iload_n hC dX6_sheetNumbered_0 rfl ?_
  refine g_if_lt (tgt := 30) hC dX6_sheetNumbered_1 (by decide) (by omega) (fun h1 => ?_) (fun h1 => ?_)
  · exact g_throw hC hq gt_212_119 dX6_sheetNumbered_30 dX6_sheetNumbered_33 dX6_sheetNumbered_34 dX6_sheetNumbered_36 dX6_sheetNumbered_39 (by decide) (Nat.le_of_ble_eq_true rfl) (by decide) (by decide) (by decide) (by decide) ⟨rfl, decide_eq_false (by omega), rfl⟩
  · refine g_iload_n hC dX6_sheetNumbered_4 rfl ?_
    refine g_ald_n hC dX6_sheetNumbered_5 rfl ?_
    refine g_get hC dX6_sheetNumbered_6 gf_RX6_38 f1 rfl ?_
    refine g_icmp_ge (tgt := 30) hC dX6_sheetNumbered_9 (by decide) (by omega) (by omega) (fun h2 => ?_) (fun h2 => ?_)
    · exact g_throw hC hq gt_212_119 dX6_sheetNumbered_30 dX6_sheetNumbered_33 dX6_sheetNumbered_34 dX6_sheetNumbered_36 dX6_sheetNumbered_39 (by decide) (Nat.le_of_ble_eq_true rfl) (by decide) (by decide) (by decide) (by decide) ⟨rfl, decide_eq_false (by omega), rfl⟩
    · refine g_iload_n hC dX6_sheetNumbered_12 rfl ?_
      refine g_ald_n hC dX6_sheetNumbered_13 rfl ?_
      refine g_get hC dX6_sheetNumbered_14 gf_RX6_24 f1 rfl ?_
      refine g_alenR hC dX6_sheetNumbered_17 f3 (by decide) ?_
      refine g_top (b := 4) rfl ?_
      refine g_icmp_ge (tgt := 30) hC dX6_sheetNumbered_18 (by decide) (by omega) (by omega) (fun c_18 => False.elim (by omega)) (fun c_18 => ?_)
      refine g_ald_n hC dX6_sheetNumbered_21 rfl ?_
      refine g_get hC dX6_sheetNumbered_22 gf_RX6_24 f1 rfl ?_
      refine g_iload_n hC dX6_sheetNumbered_25 rfl ?_
      refine g_aaldK (v := some (ad (10, i.toNat, 0))) hC (i.toNat) dX6_sheetNumbered_26 f3 (by decide) rfl (by omega) (by omega) (by decide) (if_pos (by omega)) ?_
      refine g_ifnonnull_r (tgt := 40) hC dX6_sheetNumbered_27 (by decide) ?_
      refine g_ald_n hC dX6_sheetNumbered_40 rfl ?_
      refine g_get hC dX6_sheetNumbered_41 gf_RX6_24 f1 rfl ?_
      refine g_iload_n hC dX6_sheetNumbered_44 rfl ?_
      refine g_aaldK (v := some (ad (10, i.toNat, 0))) hC (i.toNat) dX6_sheetNumbered_45 f3 (by decide) rfl (by omega) (by omega) (by decide) (if_pos (by omega)) ?_
      exact g_aret (v := some (ad (10, i.toNat, 0))) hC hq (Or.inl ⟨_, rfl⟩) dX6_sheetNumbered_46 (by decide) (by decide) ⟨rfl, rfl, decide_eq_true (by omega)⟩

set_option maxHeartbeats 4000000 in
set_option maxRecDepth 100000 in
theorem kX6_editionNumbered {l : Launch} (hl : l.stackTraces = false) {D : gD} {base : Nat}  {ad : Tg → Nat} {z : Nat → Int} {F : Nat → Nat → Int} {ct : Tg → Option gC} (hI : mI z F) (hS : ST ad z F ct) (i : Int) (r_i : -2147483648 ≤ i ∧ i < 2147483648) (gh : gH) (hR : cR ad ct gh) : gM l D base yX6_editionNumbered cX6_editionNumbered 2 (some (Jvm.ClassFile.FieldType.object "GraticulePress$Edition")) 6 82 1 6 [.ref (ad (2, 0, 0)), vi (i)] gh (fun r gh' => r = some (.ref (ad (20, i.toNat, 0))) ∧ gh' = gh ∧ inB i 0 (z 22 - 1) = true) (fun E gh' => gh' = gh ∧ ((inB i 0 (z 22 - 1)) = false ∧ E = "java/lang/IndexOutOfBoundsException")) := by
  refine gM.of hl (by decide) (by simp [Value.category]) (Nat.le_of_ble_eq_true rfl) [some (.ref (ad (2, 0, 0))), some (vi (i))] rfl (fun x hC hq => ?_)
  obtain ⟨i0, i1, i3, i11, i22, iw, ip, inn, inm, ish⟩ := id hI
  obtain ⟨s1, ⟨ml, B, b1, b2, b3⟩, s3, s4, s5, s6, s7, s8⟩ := id hS
  have f1 : gh (ad (2, 0, 0)) = some (gO 10 [.ref (ad (2, 1, 0)), .ref (ad (2, 3, 0)), .ref (ad (2, 4, 0)), .ref (ad (2, 5, 0)), vi (z 3), vi (z 11), vi (z 22), vi (z 0)]) := hR.1 _ _ (s1)
  have f2 : gh (ad (2, 3, 0)) = some (gR 4 14 (fun i => if (i : Int) < z 3 then some (ad (3, i, 0)) else none)) := hR.1 _ _ (s3)
  have f3 : gh (ad (2, 4, 0)) = some (gR 5 4 (fun k => if (k : Int) < z 11 then some (ad (10, k, 0)) else none)) := hR.1 _ _ (s4)
  have f4 : gh (ad (2, 5, 0)) = some (gR 6 5 (fun e => if (e : Int) < z 22 then some (ad (20, e, 0)) else none)) := hR.1 _ _ (s5)
  refine g_iload_n hC dX6_editionNumbered_0 rfl ?_
  refine g_if_lt (tgt := 30) hC dX6_editionNumbered_1 (by decide) (by omega) (fun h1 => ?_) (fun h1 => ?_)
  · exact g_throw hC hq gt_214_119 dX6_editionNumbered_30 dX6_editionNumbered_33 dX6_editionNumbered_34 dX6_editionNumbered_36 dX6_editionNumbered_39 (by decide) (Nat.le_of_ble_eq_true rfl) (by decide) (by decide) (by decide) (by decide) ⟨rfl, decide_eq_false (by omega), rfl⟩
  · refine g_iload_n hC dX6_editionNumbered_4 rfl ?_
    refine g_ald_n hC dX6_editionNumbered_5 rfl ?_
    refine g_get hC dX6_editionNumbered_6 gf_RX6_41 f1 rfl ?_
    refine g_icmp_ge (tgt := 30) hC dX6_editionNumbered_9 (by decide) (by omega) (by omega) (fun h2 => ?_) (fun h2 => ?_)
    · exact g_throw hC hq gt_214_119 dX6_editionNumbered_30 dX6_editionNumbered_33 dX6_editionNumbered_34 dX6_editionNumbered_36 dX6_editionNumbered_39 (by decide) (Nat.le_of_ble_eq_true rfl) (by decide) (by decide) (by decide) (by decide) ⟨rfl, decide_eq_false (by omega), rfl⟩
    · refine g_iload_n hC dX6_editionNumbered_12 rfl ?_
      refine g_ald_n hC dX6_editionNumbered_13 rfl ?_
      refine g_get hC dX6_editionNumbered_14 gf_RX6_30 f1 rfl ?_
      refine g_alenR hC dX6_editionNumbered_17 f4 (by decide) ?_
      refine g_top (b := 5) rfl ?_
      refine g_icmp_ge (tgt := 30) hC dX6_editionNumbered_18 (by decide) (by omega) (by omega) (fun c_18 => False.elim (by omega)) (fun c_18 => ?_)
      refine g_ald_n hC dX6_editionNumbered_21 rfl ?_
      refine g_get hC dX6_editionNumbered_22 gf_RX6_30 f1 rfl ?_
      refine g_iload_n hC dX6_editionNumbered_25 rfl ?_
      refine g_aaldK (v := some (ad (20, i.toNat, 0))) hC (i.toNat) dX6_editionNumbered_26 f4 (by decide) rfl (by omega) (by omega) (by decide) (if_pos (by omega)) ?_
      refine g_ifnonnull_r (tgt := 40) hC dX6_editionNumbered_27 (by decide) ?_
      refine g_ald_n hC dX6_editionNumbered_40 rfl ?_
      refine g_get hC dX6_editionNumbered_41 gf_RX6_30 f1 rfl ?_
      refine g_iload_n hC dX6_editionNumbered_44 rfl ?_
      refine g_aaldK (v := some (ad (20, i.toNat, 0))) hC (i.toNat) dX6_editionNumbered_45 f4 (by decide) rfl (by omega) (by omega) (by decide) (if_pos (by omega)) ?_
      exact g_aret (v := some (ad (20, i.toNat, 0))) hC hq (Or.inl ⟨_, rfl⟩) dX6_editionNumbered_46 (by decide) (by decide) ⟨rfl, rfl, decide_eq_true (by omega)⟩

set_option maxHeartbeats 4000000 in
set_option maxRecDepth 100000 in
theorem kX6_spotOn {l : Launch} (hl : l.stackTraces = false) {D : gD} {base : Nat}  {ad : Tg → Nat} {z : Nat → Int} {F : Nat → Nat → Int} {ct : Tg → Option gC} (hI : mI z F) (hS : ST ad z F ct) (s p : Int) (r_s : -2147483648 ≤ s ∧ s < 2147483648) (r_p : -2147483648 ≤ p ∧ p < 2147483648) (gh : gH) (hR : cR ad ct gh) : gM l D base yX6_spotOn cX6_spotOn 4 (some (Jvm.ClassFile.FieldType.object "GraticulePress$Spot")) 7 103 2 12 [.ref (ad (2, 0, 0)), vi (s), vi (p)] gh (fun r gh' => r = some (.ref (ad (17, s.toNat, p.toNat))) ∧ gh' = gh ∧ (inB s 0 (z 11 - 1) && inB p 0 (z 3 - 1)) = true) (fun E gh' => gh' = gh ∧ ((inB s 0 (z 11 - 1) && inB p 0 (z 3 - 1)) = false ∧ E = "java/lang/IndexOutOfBoundsException")) := by
  refine gM.of hl (by decide) (by simp [Value.category]) (Nat.le_of_ble_eq_true rfl) [some (.ref (ad (2, 0, 0))), some (vi (s)), some (vi (p)), none] rfl (fun x hC hq => ?_)
  obtain ⟨i0, i1, i3, i11, i22, iw, ip, inn, inm, ish⟩ := id hI
  obtain ⟨s1, ⟨ml, B, b1, b2, b3⟩, s3, s4, s5, s6, s7, s8⟩ := id hS
  have f1 : gh (ad (2, 0, 0)) = some (gO 10 [.ref (ad (2, 1, 0)), .ref (ad (2, 3, 0)), .ref (ad (2, 4, 0)), .ref (ad (2, 5, 0)), vi (z 3), vi (z 11), vi (z 22), vi (z 0)]) := hR.1 _ _ (s1)
  have f2 : gh (ad (2, 3, 0)) = some (gR 4 14 (fun i => if (i : Int) < z 3 then some (ad (3, i, 0)) else none)) := hR.1 _ _ (s3)
  have f3 : gh (ad (2, 4, 0)) = some (gR 5 4 (fun k => if (k : Int) < z 11 then some (ad (10, k, 0)) else none)) := hR.1 _ _ (s4)
  have f4 : gh (ad (2, 5, 0)) = some (gR 6 5 (fun e => if (e : Int) < z 22 then some (ad (20, e, 0)) else none)) := hR.1 _ _ (s5)
  refine g_ald_n hC dX6_spotOn_0 rfl ?_
  refine g_iload_n hC dX6_spotOn_1 rfl ?_
  refine g_callVX (rest := []) hC (kX6_sheetNumbered hl hI hS s r_s gh hR) gc_RX6_163 rfl f1 rfl ⟨by decide, by decide⟩ ⟨by decide, by decide⟩ (Nat.le_of_ble_eq_true rfl) rfl dX6_spotOn_2 (fun E g hx_ => g_out hC hq (by decide) (by decide) (by obtain ⟨h1, h2, h3⟩ := hx_; exact ⟨h1, by rw [h2]; rfl, h3⟩)) (fun r g2 hp => ?_)
  obtain ⟨rfl, hgh, hs⟩ := hp
  rw [hgh]
  refine gV.eqs (st' := [.ref (ad (10, s.toNat, 0))]) rfl rfl rfl ?_
  have hs2 := inB_t hs
  obtain ⟨ah, N, T, hSH⟩ := s7 s.toNat (by omega)
  obtain ⟨a1, a2, a3, a4, a5, a6, a7, a8, a9⟩ := id hSH
  have f5 : gh (ad (10, s.toNat, 0)) = some (gO 7 [.ref (ad (13, s.toNat, 0)), .ref (ad (15, s.toNat, 0)), vi (F 12 s.toNat), vi (F 13 s.toNat), vi (F 14 s.toNat), .ref (ad (11, s.toNat, 0)), vi ((((z 3).toNat : Nat) : Int)), .ref (ad (12, s.toNat, 0)), vi ((((lsU F s.toNat (wdA ad F (z 0)) (z 3).toNat 5).length : Nat) : Int))]) := hR.1 _ _ (a1)
  have f6 : gh (ad (11, s.toNat, 0)) = some (gR 8 14 (fun i => if i < (z 3).toNat then some (ad (17, s.toNat, i)) else none)) := hR.1 _ _ (a2)
  refine g_iload_n hC dX6_spotOn_5 rfl ?_
  refine g_callV (rest := []) hC (kX3_spotOf hl (by omega) p r_p gh f5 f6) gc_RX6_216 rfl f5 rfl ⟨by decide, by decide⟩ ⟨by decide, by decide⟩ (Nat.le_of_ble_eq_true rfl) rfl dX6_spotOn_6 (fun r g3 hp => ?_)
  obtain ⟨rfl, hgh⟩ := hp
  rw [hgh]
  by_cases hp0 : 0 ≤ p ∧ p < z 3
  · have ev : (if 0 ≤ p ∧ p < (((z 3).toNat : Nat) : Int) then (fun i => if i < (z 3).toNat then some (ad (17, s.toNat, i)) else none) p.toNat else none) = some (ad (17, s.toNat, p.toNat)) := by rw [if_pos (by omega)]; exact if_pos (by omega)
    rw [ev]
    refine gV.eqs (st' := [.ref (ad (17, s.toNat, p.toNat))]) rfl rfl rfl ?_
    refine g_ast_n (lv' := [some (.ref (ad (2, 0, 0))), some (vi (s)), some (vi (p)), some (.ref (ad (17, s.toNat, p.toNat)))]) hC dX6_spotOn_9 (by decide) rfl ?_
    refine g_ald_n hC dX6_spotOn_10 rfl ?_
    refine g_ifnonnull_r (tgt := 24) hC dX6_spotOn_11 (by decide) ?_
    refine g_ald_n hC dX6_spotOn_24 rfl ?_
    exact g_aret (v := some (ad (17, s.toNat, p.toNat))) hC hq (Or.inl ⟨_, rfl⟩) dX6_spotOn_25 (by decide) (by decide) ⟨rfl, rfl, by rw [hs, Bool.true_and]; exact decide_eq_true (by omega)⟩
  · have ev : (if 0 ≤ p ∧ p < (((z 3).toNat : Nat) : Int) then (fun i => if i < (z 3).toNat then some (ad (17, s.toNat, i)) else none) p.toNat else none) = none := if_neg (by omega)
    rw [ev]
    refine gV.eqs (st' := [.null]) rfl rfl rfl ?_
    refine g_astore_n (v := none) (lv' := [some (.ref (ad (2, 0, 0))), some (vi (s)), some (vi (p)), some (.null)]) hC dX6_spotOn_9 (by decide) rfl ?_
    refine g_aload_n (v := none) hC dX6_spotOn_10 rfl ?_
    refine g_ifnonnull (tgt := 24) (v := none) hC dX6_spotOn_11 (by decide) (fun a h => by cases h) (fun _ => ?_)
    exact g_throw hC hq gt_210_119 dX6_spotOn_14 dX6_spotOn_17 dX6_spotOn_18 dX6_spotOn_20 dX6_spotOn_23 (by decide) (Nat.le_of_ble_eq_true rfl) (by decide) (by decide) (by decide) (by decide) ⟨rfl, by rw [hs, Bool.true_and]; exact decide_eq_false (by omega), rfl⟩

end C20
