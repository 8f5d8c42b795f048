/-! the class: the calls that look -/
section C21
set_option maxHeartbeats 4000000 in
set_option maxRecDepth 100000 in
theorem kX6_dot {l : Launch} (hl : l.stackTraces = false) {D : gD} {base : Nat}  {ad : Tg → Nat} {z : Nat → Int} {F : Nat → Nat → Int} {ct : Tg → Option gC} (hI : mI z F) (hS : ST ad z F ct) (s p : Int) (b : Bool) (r_s : -2147483648 ≤ s ∧ s < 2147483648) (r_p : -2147483648 ≤ p ∧ p < 2147483648) (gh : gH) (hR : cR ad ct gh) : gM l D base yX6_dot cX6_dot 5 (some Jvm.ClassFile.FieldType.int) 8 126 2 12 [.ref (ad (2, 0, 0)), vi (s), vi (p), vi (b2i (b))] gh (fun r gh' => r = some (vi (dotV F s.toNat p.toNat b)) ∧ gh' = gh ∧ (inB s 0 (z 11 - 1) && inB p 0 (z 3 - 1)) = true) (fun E gh' => gh' = gh ∧ ((inB s 0 (z 11 - 1) && inB p 0 (z 3 - 1)) = false ∧ E = "java/lang/IndexOutOfBoundsException")) := by
  refine gM.of hl (by decide) (by simp [Value.category]) (Nat.le_of_ble_eq_true rfl) [some (.ref (ad (2, 0, 0))), some (vi (s)), some (vi (p)), some (vi (b2i (b))), none] rfl (fun x hC hq => ?_)
  obtain ⟨i0, i1, i3, i11, i22, iw, ip, inn, inm, ish⟩ := id hI
  obtain ⟨s1, ⟨ml, B, b1, b2, b3⟩, s3, s4, s5, s6, s7, s8⟩ := id hS
  have f1 : gh (ad (2, 0, 0)) = some (gO 10 [.ref (ad (2, 1, 0)), .ref (ad (2, 3, 0)), .ref (ad (2, 4, 0)), .ref (ad (2, 5, 0)), vi (z 3), vi (z 11), vi (z 22), vi (z 0)]) := hR.1 _ _ (s1)
  have f2 : gh (ad (2, 3, 0)) = some (gR 4 14 (fun i => if (i : Int) < z 3 then some (ad (3, i, 0)) else none)) := hR.1 _ _ (s3)
  have f3 : gh (ad (2, 4, 0)) = some (gR 5 4 (fun k => if (k : Int) < z 11 then some (ad (10, k, 0)) else none)) := hR.1 _ _ (s4)
  have f4 : gh (ad (2, 5, 0)) = some (gR 6 5 (fun e => if (e : Int) < z 22 then some (ad (20, e, 0)) else none)) := hR.1 _ _ (s5)
  refine g_ald_n hC dX6_dot_0 rfl ?_
  refine g_iload_n hC dX6_dot_1 rfl ?_
  refine g_iload_n hC dX6_dot_2 rfl ?_
  refine g_callVX (rest := []) hC (kX6_spotOn hl hI hS s p r_s r_p gh hR) gc_RX6_148 rfl f1 rfl ⟨by decide, by decide⟩ ⟨by decide, by decide⟩ (Nat.le_of_ble_eq_true rfl) rfl dX6_dot_3 (fun E g hx_ => g_out hC hq (by decide) (by decide) (by obtain ⟨h1, h2, h3⟩ := hx_; exact ⟨h1, h2, h3⟩)) (fun r g2 hp => ?_)
  obtain ⟨rfl, hgh, hs⟩ := hp
  rw [hgh]
  refine gV.eqs (st' := [.ref (ad (17, s.toNat, p.toNat))]) rfl rfl rfl ?_
  obtain ⟨hs2, hp2⟩ := (Bool.and_eq_true _ _).mp hs
  have hs3 := inB_t hs2
  have hp3 := inB_t hp2
  obtain ⟨ah, N, T, hSH⟩ := s7 s.toNat (by omega)
  obtain ⟨a1, a2, a3, a4, a5, a6, a7, a8, a9⟩ := id hSH
  have f5 : gh (ad (10, s.toNat, 0)) = some (gO 7 [.ref (ad (13, s.toNat, 0)), .ref (ad (15, s.toNat, 0)), vi (F 12 s.toNat), vi (F 13 s.toNat), vi (F 14 s.toNat), .ref (ad (11, s.toNat, 0)), vi ((((z 3).toNat : Nat) : Int)), .ref (ad (12, s.toNat, 0)), vi ((((lsU F s.toNat (wdA ad F (z 0)) (z 3).toNat 5).length : Nat) : Int))]) := hR.1 _ _ (a1)
  have f6 : gh (ad (17, s.toNat, p.toNat)) = some (gO 9 [vi (F 6 p.toNat), vi (cN F s.toNat p.toNat), vi (rN F s.toNat p.toNat), .ref (ad (3, p.toNat, 0)), va_rf (wdA ad F (z 0) p.toNat), vi ((lay0 F s.toNat (z 3).toNat (z 0)).1 p.toNat), vi (ah p.toNat)]) := hR.1 _ _ (a8 p.toNat (by omega))
  refine g_ast (lv' := [some (.ref (ad (2, 0, 0))), some (vi (s)), some (vi (p)), some (vi (b2i (b))), some (.ref (ad (17, s.toNat, p.toNat)))]) hC dX6_dot_6 (by decide) rfl ?_
  refine g_iload_n hC dX6_dot_8 rfl ?_
  refine g_ifeq_b (tgt := 20) hC dX6_dot_9 (by decide)  (fun hb => ?_) (fun hb => ?_)
  · refine g_ald hC dX6_dot_20 rfl ?_
    refine g_get hC dX6_dot_22 gf_RX6_157 f6 rfl ?_
    refine g_top (b := dotV F s.toNat p.toNat b) (by rw [dotV_cr, hb]; rfl) ?_
    exact g_iret hC hq dX6_dot_25 (by decide) (by decide) ⟨rfl, rfl, hs⟩
  · refine g_ald hC dX6_dot_12 rfl ?_
    refine g_get hC dX6_dot_14 gf_RX6_152 f6 rfl ?_
    refine g_goto (tgt := 25) hC dX6_dot_17 (by decide) ?_
    refine g_top (b := dotV F s.toNat p.toNat b) (by rw [dotV_cr, hb]; rfl) ?_
    exact g_iret hC hq dX6_dot_25 (by decide) (by decide) ⟨rfl, rfl, hs⟩

set_option maxHeartbeats 4000000 in
set_option maxRecDepth 100000 in
theorem kX6_side {l : Launch} (hl : l.stackTraces = false) {D : gD} {base : Nat}  {ad : Tg → Nat} {z : Nat → Int} {F : Nat → Nat → Int} {ct : Tg → Option gC} (hI : mI z F) (hS : ST ad z F ct) (s p : Int) (r_s : -2147483648 ≤ s ∧ s < 2147483648) (r_p : -2147483648 ≤ p ∧ p < 2147483648) (gh : gH) (hR : cR ad ct gh) : gM l D base yX6_side cX6_side 3 (some Jvm.ClassFile.FieldType.int) 8 126 2 12 [.ref (ad (2, 0, 0)), vi (s), vi (p)] gh (fun r gh' => r = some (vi ((lay0 F s.toNat (z 3).toNat (z 0)).1 p.toNat)) ∧ gh' = gh ∧ (inB s 0 (z 11 - 1) && inB p 0 (z 3 - 1)) = true) (fun E gh' => gh' = gh ∧ ((inB s 0 (z 11 - 1) && inB p 0 (z 3 - 1)) = false ∧ E = "java/lang/IndexOutOfBoundsException")) := by
  refine gM.of hl (by decide) (by simp [Value.category]) (Nat.le_of_ble_eq_true rfl) [some (.ref (ad (2, 0, 0))), some (vi (s)), some (vi (p))] rfl (fun x hC hq => ?_)
  obtain ⟨i0, i1, i3, i11, i22, iw, ip, inn, inm, ish⟩ := id hI
  obtain ⟨s1, ⟨ml, B, b1, b2, b3⟩, s3, s4, s5, s6, s7, s8⟩ := id hS
  have f1 : gh (ad (2, 0, 0)) = some (gO 10 [.ref (ad (2, 1, 0)), .ref (ad (2, 3, 0)), .ref (ad (2, 4, 0)), .ref (ad (2, 5, 0)), vi (z 3), vi (z 11), vi (z 22), vi (z 0)]) := hR.1 _ _ (s1)
  have f2 : gh (ad (2, 3, 0)) = some (gR 4 14 (fun i => if (i : Int) < z 3 then some (ad (3, i, 0)) else none)) := hR.1 _ _ (s3)
  have f3 : gh (ad (2, 4, 0)) = some (gR 5 4 (fun k => if (k : Int) < z 11 then some (ad (10, k, 0)) else none)) := hR.1 _ _ (s4)
  have f4 : gh (ad (2, 5, 0)) = some (gR 6 5 (fun e => if (e : Int) < z 22 then some (ad (20, e, 0)) else none)) := hR.1 _ _ (s5)
  refine g_ald_n hC dX6_side_0 rfl ?_
  refine g_iload_n hC dX6_side_1 rfl ?_
  refine g_iload_n hC dX6_side_2 rfl ?_
  refine g_callVX (rest := []) hC (kX6_spotOn hl hI hS s p r_s r_p gh hR) gc_RX6_148 rfl f1 rfl ⟨by decide, by decide⟩ ⟨by decide, by decide⟩ (Nat.le_of_ble_eq_true rfl) rfl dX6_side_3 (fun E g hx_ => g_out hC hq (by decide) (by decide) (by obtain ⟨h1, h2, h3⟩ := hx_; exact ⟨h1, h2, h3⟩)) (fun r g2 hp => ?_)
  obtain ⟨rfl, hgh, hs⟩ := hp
  rw [hgh]
  refine gV.eqs (st' := [.ref (ad (17, s.toNat, p.toNat))]) rfl rfl rfl ?_
  obtain ⟨hs2, hp2⟩ := (Bool.and_eq_true _ _).mp hs
  have hs3 := inB_t hs2
  have hp3 := inB_t hp2
  obtain ⟨ah, N, T, hSH⟩ := s7 s.toNat (by omega)
  obtain ⟨a1, a2, a3, a4, a5, a6, a7, a8, a9⟩ := id hSH
  have f5 : gh (ad (10, s.toNat, 0)) = some (gO 7 [.ref (ad (13, s.toNat, 0)), .ref (ad (15, s.toNat, 0)), vi (F 12 s.toNat), vi (F 13 s.toNat), vi (F 14 s.toNat), .ref (ad (11, s.toNat, 0)), vi ((((z 3).toNat : Nat) : Int)), .ref (ad (12, s.toNat, 0)), vi ((((lsU F s.toNat (wdA ad F (z 0)) (z 3).toNat 5).length : Nat) : Int))]) := hR.1 _ _ (a1)
  have f6 : gh (ad (17, s.toNat, p.toNat)) = some (gO 9 [vi (F 6 p.toNat), vi (cN F s.toNat p.toNat), vi (rN F s.toNat p.toNat), .ref (ad (3, p.toNat, 0)), va_rf (wdA ad F (z 0) p.toNat), vi ((lay0 F s.toNat (z 3).toNat (z 0)).1 p.toNat), vi (ah p.toNat)]) := hR.1 _ _ (a8 p.toNat (by omega))
  refine g_getN (host := RX6) (k := 5) hC dX6_side_6 (show vwCl[9]? = some (RX5, TX5, 7) from rfl) gwu_9 (by decide) (List.mem_append_right _ (List.mem_of_getElem? (i := 483) (by decide +kernel))) f6 rfl ?_
  exact g_iret hC hq dX6_side_9 (by decide) (by decide) ⟨rfl, rfl, hs⟩

set_option maxHeartbeats 4000000 in
set_option maxRecDepth 100000 in
theorem kX6_drawn {l : Launch} (hl : l.stackTraces = false) {D : gD} {base : Nat}  {ad : Tg → Nat} {z : Nat → Int} {F : Nat → Nat → Int} {ct : Tg → Option gC} (hI : mI z F) (hS : ST ad z F ct) (s r c : Int) (r_s : -2147483648 ≤ s ∧ s < 2147483648) (r_r : -2147483648 ≤ r ∧ r < 2147483648) (r_c : -2147483648 ≤ c ∧ c < 2147483648) (gh : gH) (hR : cR ad ct gh) : gM l D base yX6_drawn cX6_drawn 5 (some Jvm.ClassFile.FieldType.char) 7 103 2 12 [.ref (ad (2, 0, 0)), vi (s), vi (r), vi (c)] gh (fun r' gh' => r' = some (vi ((lay0 F s.toNat (z 3).toNat (z 0)).2 (40 * r + c).toNat)) ∧ gh' = gh ∧ (inB s 0 (z 11 - 1) && (inB r 0 23 && inB c 0 39)) = true) (fun E gh' => gh' = gh ∧ ((inB s 0 (z 11 - 1) && (inB r 0 23 && inB c 0 39)) = false ∧ E = "java/lang/IndexOutOfBoundsException")) := by
  refine gM.of hl (by decide) (by simp [Value.category]) (Nat.le_of_ble_eq_true rfl) [some (.ref (ad (2, 0, 0))), some (vi (s)), some (vi (r)), some (vi (c)), none] rfl (fun x hC hq => ?_)
  obtain ⟨i0, i1, i3, i11, i22, iw, ip, inn, inm, ish⟩ := id hI
  obtain ⟨s1, ⟨ml, B, b1, b2, b3⟩, s3, s4, s5, s6, s7, s8⟩ := id hS
  have f1 : gh (ad (2, 0, 0)) = some (gO 10 [.ref (ad (2, 1, 0)), .ref (ad (2, 3, 0)), .ref (ad (2, 4, 0)), .ref (ad (2, 5, 0)), vi (z 3), vi (z 11), vi (z 22), vi (z 0)]) := hR.1 _ _ (s1)
  have f2 : gh (ad (2, 3, 0)) = some (gR 4 14 (fun i => if (i : Int) < z 3 then some (ad (3, i, 0)) else none)) := hR.1 _ _ (s3)
  have f3 : gh (ad (2, 4, 0)) = some (gR 5 4 (fun k => if (k : Int) < z 11 then some (ad (10, k, 0)) else none)) := hR.1 _ _ (s4)
  have f4 : gh (ad (2, 5, 0)) = some (gR 6 5 (fun e => if (e : Int) < z 22 then some (ad (20, e, 0)) else none)) := hR.1 _ _ (s5)
  refine g_ald_n hC dX6_drawn_0 rfl ?_
  refine g_iload_n hC dX6_drawn_1 rfl ?_
  refine g_callVX (rest := []) hC (kX6_sheetNumbered hl hI hS s r_s gh hR) gc_RX6_163 rfl f1 rfl ⟨by decide, by decide⟩ ⟨by decide, by decide⟩ (Nat.le_of_ble_eq_true rfl) rfl dX6_drawn_2 (fun E g hx_ => g_out hC hq (by decide) (by decide) (by obtain ⟨h1, h2, h3⟩ := hx_; exact ⟨h1, by rw [h2]; rfl, h3⟩)) (fun r g2 hp => ?_)
  obtain ⟨rfl, hgh, hs⟩ := hp
  rw [hgh]
  refine gV.eqs (st' := [.ref (ad (10, s.toNat, 0))]) rfl rfl rfl ?_
  have hs2 := inB_t hs
  obtain ⟨ah, N, T, hSH⟩ := s7 s.toNat (by omega)
  obtain ⟨a1, a2, a3, a4, a5, a6, a7, a8, a9⟩ := id hSH
  have f5 : gh (ad (10, s.toNat, 0)) = some (gO 7 [.ref (ad (13, s.toNat, 0)), .ref (ad (15, s.toNat, 0)), vi (F 12 s.toNat), vi (F 13 s.toNat), vi (F 14 s.toNat), .ref (ad (11, s.toNat, 0)), vi ((((z 3).toNat : Nat) : Int)), .ref (ad (12, s.toNat, 0)), vi ((((lsU F s.toNat (wdA ad F (z 0)) (z 3).toNat 5).length : Nat) : Int))]) := hR.1 _ _ (a1)
  have f6 : gh (ad (13, s.toNat, 0)) = some (gO 5 [.ref (ad (14, s.toNat, 0))]) := hR.1 _ _ (a4)
  have f7 : gh (ad (14, s.toNat, 0)) = some (gI 0 960 ((lay0 F s.toNat (z 3).toNat (z 0)).2)) := hR.1 _ _ (a5)
  refine g_ast (lv' := [some (.ref (ad (2, 0, 0))), some (vi (s)), some (vi (r)), some (vi (c)), some (.ref (ad (10, s.toNat, 0)))]) hC dX6_drawn_5 (by decide) rfl ?_
  refine g_iload_n hC dX6_drawn_7 rfl ?_
  refine g_iload_n hC dX6_drawn_8 rfl ?_
  refine g_callS (rest := []) hC (kX6_isOnGrid hl r c r_r r_c gh ) gc_RX6_167 rfl ⟨by decide, by decide⟩ ⟨by decide, by decide⟩ (Nat.le_of_ble_eq_true rfl) rfl dX6_drawn_9 (fun r gh' hp => ?_)
  obtain ⟨rfl, hgh⟩ := hp
  rw [hgh]
  clear hgh
  refine gV.eqs (st' := [vi (b2i (inB r 0 23 && inB c 0 39))]) rfl rfl rfl ?_
  refine g_ifne_b (tgt := 25) hC dX6_drawn_12 (by decide)  (fun hg => ?_) (fun hg => ?_)
  · refine g_ald hC dX6_drawn_25 rfl ?_
    refine g_get hC dX6_drawn_27 gf_RX6_173 f5 rfl ?_
    refine g_iload_n hC dX6_drawn_30 rfl ?_
    refine g_iload_n hC dX6_drawn_31 rfl ?_
    have hok := lay0_okP hI (s := s.toNat) (np := (z 3).toNat) (on := z 0) (by omega)
    refine g_callV (rest := []) hC (kX1_signAt hl hok r c r_r r_c gh f6 f7) gc_RX6_177 rfl f6 rfl ⟨by decide, by decide⟩ ⟨by decide, by decide⟩ (Nat.le_of_ble_eq_true rfl) rfl dX6_drawn_32 (fun r gh' hp => ?_)
    obtain ⟨rfl, hgh⟩ := hp
    rw [hgh]
    clear hgh
    refine gV.eqs (st' := [vi (sgn (lay0 F s.toNat (z 3).toNat (z 0)).2 r c)]) rfl rfl rfl ?_
    have hv := sgn_ok hok r c
    have ev : sgn (lay0 F s.toNat (z 3).toNat (z 0)).2 r c = (lay0 F s.toNat (z 3).toNat (z 0)).2 (40 * r + c).toNat := by unfold sgn; rw [if_pos hg]
    rw [ev] at hv ⊢
    exact g_cret hC hq (by omega) dX6_drawn_35 (by decide) (by decide) ⟨rfl, rfl, by rw [hs, hg]; rfl⟩
  · exact g_throw hC hq gt_171_119 dX6_drawn_15 dX6_drawn_18 dX6_drawn_19 dX6_drawn_21 dX6_drawn_24 (by decide) (Nat.le_of_ble_eq_true rfl) (by decide) (by decide) (by decide) (by decide) ⟨rfl, by rw [hs, hg]; rfl, rfl⟩

set_option maxHeartbeats 4000000 in
set_option maxRecDepth 100000 in
theorem kX6_worth {l : Launch} (hl : l.stackTraces = false) {D : gD} {base : Nat}  {ad : Tg → Nat} {z : Nat → Int} {F : Nat → Nat → Int} {ct : Tg → Option gC} (hI : mI z F) (hS : ST ad z F ct) (s : Int) (r_s : -2147483648 ≤ s ∧ s < 2147483648) (gh : gH) (hR : cR ad ct gh) : gM l D base yX6_worth cX6_worth 2 (some Jvm.ClassFile.FieldType.int) 7 103 2 12 [.ref (ad (2, 0, 0)), vi (s)] gh (fun r gh' => r = some (vi (sumW (lay0 F s.toNat (z 3).toNat (z 0)).1 (F 6) (z 3).toNat)) ∧ gh' = gh ∧ (inB s 0 (z 11 - 1)) = true) (fun E gh' => gh' = gh ∧ ((inB s 0 (z 11 - 1)) = false ∧ E = "java/lang/IndexOutOfBoundsException")) := by
  refine gM.of hl (by decide) (by simp [Value.category]) (Nat.le_of_ble_eq_true rfl) [some (.ref (ad (2, 0, 0))), some (vi (s))] rfl (fun x hC hq => ?_)
  obtain ⟨i0, i1, i3, i11, i22, iw, ip, inn, inm, ish⟩ := id hI
  obtain ⟨s1, ⟨ml, B, b1, b2, b3⟩, s3, s4, s5, s6, s7, s8⟩ := id hS
  have f1 : gh (ad (2, 0, 0)) = some (gO 10 [.ref (ad (2, 1, 0)), .ref (ad (2, 3, 0)), .ref (ad (2, 4, 0)), .ref (ad (2, 5, 0)), vi (z 3), vi (z 11), vi (z 22), vi (z 0)]) := hR.1 _ _ (s1)
  have f2 : gh (ad (2, 3, 0)) = some (gR 4 14 (fun i => if (i : Int) < z 3 then some (ad (3, i, 0)) else none)) := hR.1 _ _ (s3)
  have f3 : gh (ad (2, 4, 0)) = some (gR 5 4 (fun k => if (k : Int) < z 11 then some (ad (10, k, 0)) else none)) := hR.1 _ _ (s4)
  have f4 : gh (ad (2, 5, 0)) = some (gR 6 5 (fun e => if (e : Int) < z 22 then some (ad (20, e, 0)) else none)) := hR.1 _ _ (s5)
  refine g_ald_n hC dX6_worth_0 rfl ?_
  refine g_iload_n hC dX6_worth_1 rfl ?_
  refine g_callVX (rest := []) hC (kX6_sheetNumbered hl hI hS s r_s gh hR) gc_RX6_163 rfl f1 rfl ⟨by decide, by decide⟩ ⟨by decide, by decide⟩ (Nat.le_of_ble_eq_true rfl) rfl dX6_worth_2 (fun E g hx_ => g_out hC hq (by decide) (by decide) (by obtain ⟨h1, h2, h3⟩ := hx_; exact ⟨h1, h2, h3⟩)) (fun r g2 hp => ?_)
  obtain ⟨rfl, hgh, hs⟩ := hp
  rw [hgh]
  refine gV.eqs (st' := [.ref (ad (10, s.toNat, 0))]) rfl rfl rfl ?_
  have hs2 := inB_t hs
  obtain ⟨ah, N, T, hSH⟩ := s7 s.toNat (by omega)
  obtain ⟨a1, a2, a3, a4, a5, a6, a7, a8, a9⟩ := id hSH
  have f5 : gh (ad (10, s.toNat, 0)) = some (gO 7 [.ref (ad (13, s.toNat, 0)), .ref (ad (15, s.toNat, 0)), vi (F 12 s.toNat), vi (F 13 s.toNat), vi (F 14 s.toNat), .ref (ad (11, s.toNat, 0)), vi ((((z 3).toNat : Nat) : Int)), .ref (ad (12, s.toNat, 0)), vi ((((lsU F s.toNat (wdA ad F (z 0)) (z 3).toNat 5).length : Nat) : Int))]) := hR.1 _ _ (a1)
  have f6 : gh (ad (12, s.toNat, 0)) = some (gR 8 14 (N)) := hR.1 _ _ (a3)
  have hLn : (lsU F s.toNat (wdA ad F (z 0)) (z 3).toNat 5).length ≤ (z 3).toNat := lsU_len14 5
  refine g_callV (rest := []) hC (kX3_worth (t := fun i => ad (17, s.toNat, i)) (lo := fun q => (lsU F s.toNat (wdA ad F (z 0)) (z 3).toNat 5).getD q 0) (F := F) (s := s.toNat) (pv := fun i => .ref (ad (3, i, 0))) (wv := fun i => va_rf (wdA ad F (z 0) i)) (sd := (lay0 F s.toNat (z 3).toNat (z 0)).1) (ah := ah) hl (by omega) (fun q hq => lay0_side) gh f5 f6 (fun q hq => ⟨(a9 q hq).1, hR.1 _ _ (a8 _ (a9 q hq).2)⟩)) gc_RX6_183 rfl f5 rfl ⟨by decide, by decide⟩ ⟨by decide, by decide⟩ (Nat.le_of_ble_eq_true rfl) rfl dX6_worth_5 (fun r g3 hp => ?_)
  obtain ⟨rfl, hgh⟩ := hp
  rw [hgh]
  rw [worth_eq hI (by omega)]
  refine gV.eqs (st' := [vi (sumW (lay0 F s.toNat (z 3).toNat (z 0)).1 (F 6) (z 3).toNat)]) rfl rfl rfl ?_
  exact g_iret hC hq dX6_worth_8 (by decide) (by decide) ⟨rfl, rfl, hs⟩

set_option maxHeartbeats 4000000 in
set_option maxRecDepth 100000 in
theorem kX6_best {l : Launch} (hl : l.stackTraces = false) {D : gD} {base : Nat}  {ad : Tg → Nat} {z : Nat → Int} {F : Nat → Nat → Int} {ct : Tg → Option gC} (hI : mI z F) (hS : ST ad z F ct) (s : Int) (r_s : -2147483648 ≤ s ∧ s < 2147483648) (gh : gH) (hR : cR ad ct gh) : gM l D base yX6_best cX6_best 3 (some Jvm.ClassFile.FieldType.int) 11 263 2 12 [.ref (ad (2, 0, 0)), vi (s)] gh (fun r gh' => r = some (vi (maxW F s.toNat (z 0) (dotP F s.toNat (z 3).toNat) (nmL F s.toNat (z 0) (z 3).toNat) (5 ^ (nmL F s.toNat (z 0) (z 3).toNat).length))) ∧ (inB s 0 (z 11 - 1) && decide ((nmL F s.toNat (z 0) (z 3).toNat).length ≤ 4)) = true ∧ xOK ad ct z F gh') (fun E gh' => gh' = gh ∧ (((inB s 0 (z 11 - 1)) = false ∧ E = "java/lang/IndexOutOfBoundsException") ∨ ((inB s 0 (z 11 - 1)) = true ∧ (inB s 0 (z 11 - 1) && decide ((nmL F s.toNat (z 0) (z 3).toNat).length ≤ 4)) = false ∧ E = "java/lang/IllegalStateException"))) := by
  refine gM.of hl (by decide) (by simp [Value.category]) (Nat.le_of_ble_eq_true rfl) [some (.ref (ad (2, 0, 0))), some (vi (s)), none] rfl (fun x hC hq => ?_)
  obtain ⟨i0, i1, i3, i11, i22, iw, ip, inn, inm, ish⟩ := id hI
  obtain ⟨s1, ⟨ml, B, b1, b2, b3⟩, s3, s4, s5, s6, s7, s8⟩ := id hS
  have f1 : gh (ad (2, 0, 0)) = some (gO 10 [.ref (ad (2, 1, 0)), .ref (ad (2, 3, 0)), .ref (ad (2, 4, 0)), .ref (ad (2, 5, 0)), vi (z 3), vi (z 11), vi (z 22), vi (z 0)]) := hR.1 _ _ (s1)
  have f2 : gh (ad (2, 3, 0)) = some (gR 4 14 (fun i => if (i : Int) < z 3 then some (ad (3, i, 0)) else none)) := hR.1 _ _ (s3)
  have f3 : gh (ad (2, 4, 0)) = some (gR 5 4 (fun k => if (k : Int) < z 11 then some (ad (10, k, 0)) else none)) := hR.1 _ _ (s4)
  have f4 : gh (ad (2, 5, 0)) = some (gR 6 5 (fun e => if (e : Int) < z 22 then some (ad (20, e, 0)) else none)) := hR.1 _ _ (s5)
  refine g_ald_n hC dX6_best_0 rfl ?_
  refine g_iload_n hC dX6_best_1 rfl ?_
  refine g_callVX (rest := []) hC (kX6_sheetNumbered hl hI hS s r_s gh hR) gc_RX6_163 rfl f1 rfl ⟨by decide, by decide⟩ ⟨by decide, by decide⟩ (Nat.le_of_ble_eq_true rfl) rfl dX6_best_2 (fun E g hx_ => g_out hC hq (by decide) (by decide) (by obtain ⟨h1, h2, h3⟩ := hx_; exact ⟨h1, Or.inl ⟨h2, h3⟩⟩)) (fun r g2 hp => ?_)
  obtain ⟨rfl, hgh, hs⟩ := hp
  rw [hgh]
  refine gV.eqs (st' := [.ref (ad (10, s.toNat, 0))]) rfl rfl rfl ?_
  have hs2 := inB_t hs
  obtain ⟨ah, N, T, hSH⟩ := s7 s.toNat (by omega)
  obtain ⟨a1, a2, a3, a4, a5, a6, a7, a8, a9⟩ := id hSH
  have f5 : gh (ad (10, s.toNat, 0)) = some (gO 7 [.ref (ad (13, s.toNat, 0)), .ref (ad (15, s.toNat, 0)), vi (F 12 s.toNat), vi (F 13 s.toNat), vi (F 14 s.toNat), .ref (ad (11, s.toNat, 0)), vi ((((z 3).toNat : Nat) : Int)), .ref (ad (12, s.toNat, 0)), vi ((((lsU F s.toNat (wdA ad F (z 0)) (z 3).toNat 5).length : Nat) : Int))]) := hR.1 _ _ (a1)
  have hpm := ls_perm (ad := ad) (s := s.toNat) (np := (z 3).toNat) (on := z 0) hI (by omega)
  have hll := hpm.length_eq
  have hLn : (lsU F s.toNat (wdA ad F (z 0)) (z 3).toNat 5).length ≤ (z 3).toNat := lsU_len14 5
  refine g_ast_n (lv' := [some (.ref (ad (2, 0, 0))), some (vi (s)), some (.ref (ad (10, s.toNat, 0)))]) hC dX6_best_5 (by decide) rfl ?_
  refine g_ald_n hC dX6_best_6 rfl ?_
  refine g_getN (host := RX6) (k := 8) hC dX6_best_7 (show vwCl[7]? = some (RX3, TX3, 9) from rfl) gwu_7 (by decide) (List.mem_append_right _ (List.mem_of_getElem? (i := 426) (by decide +kernel))) f5 rfl ?_
  refine g_iconst hC dX6_best_10 rfl ?_
  refine g_icmp_le (tgt := 24) hC dX6_best_11 (by decide) (by omega) (by omega) (fun h4 => ?_) (fun h4 => ?_)
  · refine g_ald_n hC dX6_best_24 rfl ?_
    refine g_callV (rest := []) hC (kX3_best hl hI (by omega) rfl (by omega) hSH (fun i hi => s6 i (by omega)) gh hR) gc_RX6_191 rfl f5 rfl ⟨by decide, by decide⟩ ⟨by decide, by decide⟩ (Nat.le_of_ble_eq_true rfl) rfl dX6_best_25 (fun r g3 hp => ?_)
    obtain ⟨rfl, ct2, h2R, hfr, hS2⟩ := hp
    have hgv := best_eq (ad := ad) (s := s.toNat) hI (np := (z 3).toNat) (by omega) (on := z 0) (P := dotP F s.toNat (z 3).toNat)
    rw [← hgv]
    refine gV.eqs (st' := [vi (maxW F s.toNat (z 0) (dotP F s.toNat (z 3).toNat) (nmL F s.toNat (z 0) (z 3).toNat) (5 ^ (nmL F s.toNat (z 0) (z 3).toNat).length))]) rfl rfl rfl ?_
    have hST : ST ad z F ct2 := by
      have f : ∀ a b c : Nat, (a ≤ 9 ∨ 18 ≤ a ∨ b ≠ s.toNat) → ct2 (a, b, c) = ct (a, b, c) := fun a b c h => hfr _ (notS h)
      refine ⟨by rw [f _ _ _ (Or.inl (by decide))]; exact s1, ⟨ml, B, by rw [f _ _ _ (Or.inl (by decide))]; exact b1, by rw [f _ _ _ (Or.inl (by decide))]; exact b2, b3⟩, by rw [f _ _ _ (Or.inl (by decide))]; exact s3, by rw [f _ _ _ (Or.inl (by decide))]; exact s4, by rw [f _ _ _ (Or.inl (by decide))]; exact s5, fun i hi => (s6 i hi).fr (fun a b c ha hb => f _ _ _ (Or.inl (by omega))), fun k hk => ?_, fun e he => (s8 e he).cg (fun a b ha hb => ⟨f _ _ _ (Or.inr (Or.inl (by omega))), rfl⟩) ⟨rfl, rfl⟩ (fun _ _ => rfl)⟩
      by_cases q : k = s.toNat
      · rw [q]; exact ⟨ah, N, _, hS2⟩
      · obtain ⟨ah2, N2, T2, h9⟩ := s7 k hk
        exact ⟨ah2, N2, T2, h9.fr (fun t ht => by obtain ⟨a, b, c⟩ := t; exact f a b c (Or.inr (Or.inr (by have := ht.2.2; simp only at this; omega))))⟩
    exact g_iret hC hq dX6_best_28 (by decide) (by decide) ⟨rfl, by rw [hs, Bool.true_and]; exact decide_eq_true (by omega), ad, ct2, h2R, hST, ⟨fun t ht => ⟨hfr t (by obtain ⟨a, b, c⟩ := t; exact notS (by simp only at ht; omega)), rfl⟩, rfl⟩⟩
  · exact g_throw hC hq gt_189_62 dX6_best_14 dX6_best_17 dX6_best_18 dX6_best_20 dX6_best_23 (by decide) (Nat.le_of_ble_eq_true rfl) (by decide) (by decide) (by decide) (by decide) ⟨rfl, Or.inr ⟨hs, by rw [hs, Bool.true_and]; exact decide_eq_false (by omega), rfl⟩⟩

set_option maxHeartbeats 4000000 in
set_option maxRecDepth 100000 in
theorem kX6_printed {l : Launch} (hl : l.stackTraces = false) {D : gD} {base : Nat}  {ad : Tg → Nat} {z : Nat → Int} {F : Nat → Nat → Int} {ct : Tg → Option gC} (hI : mI z F) (hS : ST ad z F ct) (hE : mE z F) (e s r c : Int) (r_e : -2147483648 ≤ e ∧ e < 2147483648) (r_s : -2147483648 ≤ s ∧ s < 2147483648) (r_r : -2147483648 ≤ r ∧ r < 2147483648) (r_c : -2147483648 ≤ c ∧ c < 2147483648) (gh : gH) (hR : cR ad ct gh) : gM l D base yX6_printed cX6_printed 6 (some Jvm.ClassFile.FieldType.char) 7 103 2 12 [.ref (ad (2, 0, 0)), vi (e), vi (s), vi (r), vi (c)] gh (fun r' gh' => r' = some (vi (printedV F e.toNat s.toNat r c)) ∧ gh' = gh ∧ (inB e 0 (z 22 - 1) && (inB s 0 (z 11 - 1) && (inB r 0 23 && inB c 0 39))) = true) (fun E gh' => gh' = gh ∧ ((inB e 0 (z 22 - 1) && (inB s 0 (z 11 - 1) && (inB r 0 23 && inB c 0 39))) = false ∧ E = "java/lang/IndexOutOfBoundsException")) := by
  refine gM.of hl (by decide) (by simp [Value.category]) (Nat.le_of_ble_eq_true rfl) [some (.ref (ad (2, 0, 0))), some (vi (e)), some (vi (s)), some (vi (r)), some (vi (c)), none] rfl (fun x hC hq => ?_)
  obtain ⟨i0, i1, i3, i11, i22, iw, ip, inn, inm, ish⟩ := id hI
  obtain ⟨s1, ⟨ml, B, b1, b2, b3⟩, s3, s4, s5, s6, s7, s8⟩ := id hS
  have f1 : gh (ad (2, 0, 0)) = some (gO 10 [.ref (ad (2, 1, 0)), .ref (ad (2, 3, 0)), .ref (ad (2, 4, 0)), .ref (ad (2, 5, 0)), vi (z 3), vi (z 11), vi (z 22), vi (z 0)]) := hR.1 _ _ (s1)
  have f2 : gh (ad (2, 3, 0)) = some (gR 4 14 (fun i => if (i : Int) < z 3 then some (ad (3, i, 0)) else none)) := hR.1 _ _ (s3)
  have f3 : gh (ad (2, 4, 0)) = some (gR 5 4 (fun k => if (k : Int) < z 11 then some (ad (10, k, 0)) else none)) := hR.1 _ _ (s4)
  have f4 : gh (ad (2, 5, 0)) = some (gR 6 5 (fun e => if (e : Int) < z 22 then some (ad (20, e, 0)) else none)) := hR.1 _ _ (s5)
  refine g_ald_n hC dX6_printed_0 rfl ?_
  refine g_iload_n hC dX6_printed_1 rfl ?_
  refine g_callVX (rest := []) hC (kX6_editionNumbered hl hI hS e r_e gh hR) gc_RX6_201 rfl f1 rfl ⟨by decide, by decide⟩ ⟨by decide, by decide⟩ (Nat.le_of_ble_eq_true rfl) rfl dX6_printed_2 (fun E g hx_ => g_out hC hq (by decide) (by decide) (by obtain ⟨h1, h2, h3⟩ := hx_; exact ⟨h1, by rw [h2]; rfl, h3⟩)) (fun r g2 hp => ?_)
  obtain ⟨rfl, hgh, he⟩ := hp
  rw [hgh]
  refine gV.eqs (st' := [.ref (ad (20, e.toNat, 0))]) rfl rfl rfl ?_
  have he2 := inB_t he
  obtain ⟨d1, d2, d3⟩ := s8 e.toNat (by omega)
  have f5 : gh (ad (20, e.toNat, 0)) = some (gO 4 [.ref (ad (21, e.toNat, 0))]) := hR.1 _ _ (d1)
  have f6 : gh (ad (21, e.toNat, 0)) = some (gR 9 4 (fun s => if (s : Int) < F 24 e.toNat then some (ad (22, e.toNat, s)) else none)) := hR.1 _ _ (d2)
  refine g_ast (lv' := [some (.ref (ad (2, 0, 0))), some (vi (e)), some (vi (s)), some (vi (r)), some (vi (c)), some (.ref (ad (20, e.toNat, 0)))]) hC dX6_printed_5 (by decide) rfl ?_
  refine g_iload_n hC dX6_printed_7 rfl ?_
  refine g_iconst hC dX6_printed_8 rfl ?_
  refine g_ald_n hC dX6_printed_9 rfl ?_
  refine g_get hC dX6_printed_10 gf_RX6_38 f1 rfl ?_
  refine g_iconst hC dX6_printed_13 rfl ?_
  refine g_isub hC dX6_printed_14 ?_
  refine g_callS (rest := []) hC (kX6_isWithin hl s 0 (z 11 - 1) r_s (by omega) (by omega) gh ) gc_RX6_67 rfl ⟨by decide, by decide⟩ ⟨by decide, by decide⟩ (Nat.le_of_ble_eq_true rfl) rfl dX6_printed_15 (fun r gh' hp => ?_)
  obtain ⟨rfl, hgh⟩ := hp
  rw [hgh]
  clear hgh
  refine gV.eqs (st' := [vi (b2i (inB s 0 (z 11 - 1)))]) rfl rfl rfl ?_
  refine g_ifeq_b (tgt := 30) hC dX6_printed_18 (by decide)  (fun hs => ?_) (fun hs => ?_)
  · exact g_throw hC hq gt_205_119 dX6_printed_30 dX6_printed_33 dX6_printed_34 dX6_printed_36 dX6_printed_39 (by decide) (Nat.le_of_ble_eq_true rfl) (by decide) (by decide) (by decide) (by decide) ⟨rfl, by rw [he, hs]; rfl, rfl⟩
  · refine g_iload_n hC dX6_printed_21 rfl ?_
    refine g_iload hC dX6_printed_22 rfl ?_
    refine g_callS (rest := []) hC (kX6_isOnGrid hl r c r_r r_c gh ) gc_RX6_167 rfl ⟨by decide, by decide⟩ ⟨by decide, by decide⟩ (Nat.le_of_ble_eq_true rfl) rfl dX6_printed_24 (fun r gh' hp => ?_)
    obtain ⟨rfl, hgh⟩ := hp
    rw [hgh]
    clear hgh
    refine gV.eqs (st' := [vi (b2i (inB r 0 23 && inB c 0 39))]) rfl rfl rfl ?_
    refine g_ifne_b (tgt := 40) hC dX6_printed_27 (by decide)  (fun hg => ?_) (fun hg => ?_)
    · have hs2 := inB_t hs
      refine g_ald hC dX6_printed_40 rfl ?_
      refine g_iload_n hC dX6_printed_42 rfl ?_
      refine g_iload_n hC dX6_printed_43 rfl ?_
      refine g_iload hC dX6_printed_44 rfl ?_
      obtain ⟨sn, hsn⟩ : ∃ sn : Nat, s = (sn : Int) := ⟨s.toNat, by omega⟩
      subst hsn
      by_cases hn : (sn : Int) < F 24 e.toNat
      · obtain ⟨g1, g2⟩ := d3 sn hn
        have hok := recP_ok hE (e := e.toNat) (s := sn) (m := (F 23 e.toNat).toNat) (by omega) hn (F 23 e.toNat).toNat (by have := (hE e.toNat (by omega)).1; omega)
        have f7 : gh (ad (22, e.toNat, sn)) = some (gO 5 [.ref (ad (23, e.toNat, sn))]) := hR.1 _ _ (g1)
        have f8 : gh (ad (23, e.toNat, sn)) = some (gI 0 960 (recP F e.toNat sn (F 23 e.toNat).toNat (F 23 e.toNat).toNat)) := hR.1 _ _ (g2)
        refine g_callV (rest := []) hC (kX0_signAt (f := fun s => if (s : Int) < F 24 e.toNat then some (ad (22, e.toNat, s)) else none) (gg := ad (22, e.toNat, sn)) (k := sn) hl (by omega) r c r_r r_c hok (if_pos hn) gh f5 f6 f7 f8) gc_RX6_207 rfl f5 rfl ⟨by decide, by decide⟩ ⟨by decide, by decide⟩ (Nat.le_of_ble_eq_true rfl) rfl dX6_printed_46 (fun r gh' hp => ?_)
        obtain ⟨rfl, hgh⟩ := hp
        rw [hgh]
        clear hgh
        refine gV.eqs (st' := [vi (sgn (recP F e.toNat sn (F 23 e.toNat).toNat (F 23 e.toNat).toNat) r c)]) rfl rfl rfl ?_
        have hv := sgn_ok hok r c
        have ev : sgn (recP F e.toNat sn (F 23 e.toNat).toNat (F 23 e.toNat).toNat) r c = printedV F e.toNat sn r c := by unfold sgn printedV; rw [if_pos hg, if_neg (by omega)]
        rw [ev] at hv ⊢
        exact g_cret hC hq (by omega) dX6_printed_49 (by decide) (by decide) ⟨rfl, rfl, by rw [he, hs, hg]; rfl⟩
      · refine g_callV (rest := []) hC (kX0_signAt0 (f := fun s => if (s : Int) < F 24 e.toNat then some (ad (22, e.toNat, s)) else none) (k := sn) hl (by omega) r c r_r r_c (if_neg hn) gh f5 f6) gc_RX6_207 rfl f5 rfl ⟨by decide, by decide⟩ ⟨by decide, by decide⟩ (Nat.le_of_ble_eq_true rfl) rfl dX6_printed_46 (fun r gh' hp => ?_)
        obtain ⟨rfl, hgh⟩ := hp
        rw [hgh]
        clear hgh
        refine gV.eqs (st' := [vi (32)]) rfl rfl rfl ?_
        have ev : (32 : Int) = printedV F e.toNat sn r c := by unfold printedV; rw [if_pos (by omega)]
        refine g_top (b := printedV F e.toNat sn r c) ev ?_
        have hv : 0 ≤ printedV F e.toNat sn r c ∧ printedV F e.toNat sn r c < 65536 := by rw [← ev]; decide
        exact g_cret hC hq (by omega) dX6_printed_49 (by decide) (by decide) ⟨rfl, rfl, by rw [he, hs, hg]; rfl⟩
    · exact g_throw hC hq gt_205_119 dX6_printed_30 dX6_printed_33 dX6_printed_34 dX6_printed_36 dX6_printed_39 (by decide) (Nat.le_of_ble_eq_true rfl) (by decide) (by decide) (by decide) (by decide) ⟨rfl, by rw [he, hs, hg]; rfl, rfl⟩

end C21
