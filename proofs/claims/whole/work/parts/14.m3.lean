/-! the reference: letter, pass, place, sheet, spelled, isOn, rowOf, columnOf, dot, hasName -/
section M3
set_option maxHeartbeats 4000000 in
set_option maxRecDepth 100000 in
theorem kX7_letter {l : Launch} (hl : l.stackTraces = false) {D : gD} {base mo : Nat} {ad : Nat → Nat} {z : Nat → Int} {F : Nat → Nat → Int} (hI : mI z F) (c : Int) (rc : 0 ≤ c ∧ c < 65536) : mM l D base yX7_letter cX7_letter 2 (some Jvm.ClassFile.FieldType.int) 1 23 mo ad [vi (c)] z F (fun r z' F' => if ((inB c 97 122) && (decide (z 1 < 8)) && true) = true then r = some (vi (z 1 + 1)) ∧ z' = gup (gup z 27 (goesN (inB c 97 122) (decide (z 1 < 8)) true)) 1 (z 1 + 1) ∧ F' = gup F 2 (gup (F 2) (z 1).toNat c) else r = some (vi 0) ∧ z' = gup z 27 (goesN (inB c 97 122) (decide (z 1 < 8)) true) ∧ F' = F) := by
  obtain ⟨i0, i1, i3, i11, i22, iw, ip, inn, inm, ish⟩ := id hI
  refine mM.of hl (by decide) (by simp [Value.category]) (Nat.le_of_ble_eq_true rfl) [some (.ref mo), some (vi (c))] rfl (fun gh x hC hq => ?_)
  refine m_ald_n hC dX7_letter_0 rfl ?_
  refine m_iload_n hC dX7_letter_1 rfl ?_
  refine m_bipush (v := 97) hC dX7_letter_2 rfl ?_
  refine m_bipush (v := 122) hC dX7_letter_4 rfl ?_
  refine m_callS (rest := [.ref mo]) hC (fun gh => kX7_in hl c 97 122 (by omega) (by omega) (by omega) gh) gc_RX7_81 rfl ⟨by decide, by decide⟩ (Nat.le_of_ble_eq_true rfl) rfl dX7_letter_6 (fun r hp => ?_)
  subst hp
  refine g_cut (A := gVM x D base 2 mo ad gh 23 [some (.ref mo), some (vi (c))] [vi (b2i (decide (z 1 < 8))), vi (b2i (inB c 97 122)), .ref mo] (z) (F)) ?_ (fun j_23 => ?_)
  · refine m_iconst hC dX7_letter_23 rfl ?_
    refine m_callV (rest := []) hC (kX7_goes hl (inB c 97 122) (decide (z 1 < 8)) true) gc_RX7_91 rfl rfl ⟨by decide, by decide⟩ (Nat.le_of_ble_eq_true rfl) rfl dX7_letter_24 (fun r z' F' hp => ?_)
    obtain ⟨rfl, hz, hF⟩ := hp
    rw [hz, hF]
    clear hz hF
    refine gVM.eqs (st' := [vi (b2i (((inB c 97 122) && (decide (z 1 < 8)) && true)))]) rfl rfl rfl rfl ?_
    refine m_ifne_b (tgt := 32) hC dX7_letter_27 (by decide)  (fun hg => ?_) (fun hg => ?_)
    · have hg2 := hg
      simp only [Bool.and_eq_true, Bool.and_true, decide_eq_true_eq, inB_iff] at hg2
      refine m_ald_n hC dX7_letter_32 rfl ?_
      refine m_getA hC 2 dX7_letter_33 gf_RX7_7 ⟨by decide, rfl⟩ ?_
      refine m_ald_n hC dX7_letter_36 rfl ?_
      refine m_getI hC 1 dX7_letter_37 gf_RX7_88 ⟨by decide, rfl⟩ ?_
      refine m_top (b := z 1) rfl ?_
      refine m_iload_n hC dX7_letter_40 rfl ?_
      refine m_cast hC 2 ((z 1).toNat) dX7_letter_41 ⟨by decide, rfl, rfl⟩ (by omega) (by simp only [mK]; omega) (by omega) ?_
      refine m_ald_n hC dX7_letter_42 rfl ?_
      refine m_dup hC dX7_letter_43 rfl ?_
      refine m_getI hC 1 dX7_letter_44 gf_RX7_88 ⟨by decide, rfl⟩ ?_
      refine m_top (b := z 1) rfl ?_
      refine m_iconst hC dX7_letter_47 rfl ?_
      refine m_iadd hC dX7_letter_48 ?_
      refine m_putI hC 1 dX7_letter_49 gp_RX7_88 ⟨by decide, rfl⟩ ?_
      refine m_ald_n hC dX7_letter_52 rfl ?_
      refine m_getI hC 1 dX7_letter_53 gf_RX7_88 ⟨by decide, rfl⟩ ?_
      refine m_top (b := (z 1) + (1)) rfl ?_
      exact m_iret hC hq dX7_letter_56 (by rw [if_pos hg]; exact ⟨rfl, rfl, rfl⟩)
    · refine m_iconst hC dX7_letter_30 rfl ?_
      exact m_iret hC hq dX7_letter_31 (by rw [if_neg (by rw [hg]; decide)]; exact ⟨rfl, rfl, rfl⟩)
  · refine m_ald_n hC dX7_letter_9 rfl ?_
    refine m_getI hC 1 dX7_letter_10 gf_RX7_88 ⟨by decide, rfl⟩ ?_
    refine m_bipush (v := 8) hC dX7_letter_13 rfl ?_
    refine m_icmp_ge (tgt := 22) hC dX7_letter_15 (by decide) (by omega) (by omega) (fun c_15 => ?_) (fun c_15 => ?_)
    · refine m_iconst hC dX7_letter_22 rfl ?_
      refine m_top (b := b2i (decide (z 1 < 8))) (b2i_f (by first | rfl | (simp [c_15]; done) | (simp only [c_15]; rfl))) ?_
      exact j_23
    · refine m_iconst hC dX7_letter_18 rfl ?_
      refine m_goto (tgt := 23) hC dX7_letter_19 (by decide) ?_
      refine m_top (b := b2i (decide (z 1 < 8))) (b2i_t (by first | rfl | (simp [c_15]; done) | (simp only [c_15]; rfl))) ?_
      exact j_23

theorem m_icmp_gtW {x : gX} {l : Launch} {D : gD} {base nL : Nat} {own : String} {cc : ByteArray} {rm : Room} {pc : Nat} {lv : List (Option Value)} {st : List Value} {mo : Nat} {ad : Nat → Nat} {gh0 : gH} {z : Nat → Int} {F : Nat → Nat → Int} (hC : gK x l D base nL own cc rm) {a b : Int} {off : Int} {tgt : Nat} (hd : decode cc pc = .ok (.if_icmp .gt off, 3)) (ht : (pc : Int) + off = (tgt : Int)) (kt : ¬ iI a ≤ iI b → gVM x D base nL mo ad gh0 tgt lv st z F) (kf : iI a ≤ iI b → gVM x D base nL mo ad gh0 (pc + 3) lv st z F) : gVM x D base nL mo ad gh0 pc lv (vi b :: vi a :: st) z F := fun gh h1 h2 => by
  obtain ⟨p, l', e, R, s, m, args, below, meth, c, Q⟩ := x
  obtain ⟨hx, hb, -⟩ := hC
  intro H locs ls hG hS hl
  exact lv_icmp_gt hx hb hd ht (fun h => kt (Int32.not_le.mpr h) gh h1 h2 H locs ls hG hS hl) (fun h => kf (Int32.not_lt.mp h) gh h1 h2 H locs ls hG hS hl)
set_option maxHeartbeats 4000000 in
set_option maxRecDepth 100000 in
theorem kX7_pass {l : Launch} (hl : l.stackTraces = false) {D : gD} {base mo : Nat} {ad : Nat → Nat} {z : Nat → Int} {F : Nat → Nat → Int} (hI : mI z F) (d : Int) (rd : -2147483648 ≤ d ∧ d < 2147483648) : mM l D base yX7_pass cX7_pass 2 (some Jvm.ClassFile.FieldType.int) 1 23 mo ad [vi (d)] z F (fun r z' F' => if ((inB d 1 1000) && (decide (iI (z 0 + d) ≤ iI 10000)) && true) = true then r = some (vi (z 0 + d)) ∧ z' = gup (gup z 27 (goesN (inB d 1 1000) (decide (iI (z 0 + d) ≤ iI 10000)) true)) 0 (z 0 + d) ∧ F' = F else r = some (vi 0) ∧ z' = gup z 27 (goesN (inB d 1 1000) (decide (iI (z 0 + d) ≤ iI 10000)) true) ∧ F' = F) := by
  obtain ⟨i0, i1, i3, i11, i22, iw, ip, inn, inm, ish⟩ := id hI
  refine mM.of hl (by decide) (by simp [Value.category]) (Nat.le_of_ble_eq_true rfl) [some (.ref mo), some (vi (d))] rfl (fun gh x hC hq => ?_)
  refine m_ald_n hC dX7_pass_0 rfl ?_
  refine m_iload_n hC dX7_pass_1 rfl ?_
  refine m_iconst hC dX7_pass_2 rfl ?_
  refine m_sipush (v := 1000) hC dX7_pass_3 rfl ?_
  refine m_callS (rest := [.ref mo]) hC (fun gh => kX7_in hl d 1 1000 (by omega) (by omega) (by omega) gh) gc_RX7_81 rfl ⟨by decide, by decide⟩ (Nat.le_of_ble_eq_true rfl) rfl dX7_pass_6 (fun r hp => ?_)
  subst hp
  refine g_cut (A := gVM x D base 2 mo ad gh 26 [some (.ref mo), some (vi (d))] [vi (b2i (decide (iI (z 0 + d) ≤ iI 10000))), vi (b2i (inB d 1 1000)), .ref mo] (z) (F)) ?_ (fun j_26 => ?_)
  · refine m_iconst hC dX7_pass_26 rfl ?_
    refine m_callV (rest := []) hC (kX7_goes hl (inB d 1 1000) (decide (iI (z 0 + d) ≤ iI 10000)) true) gc_RX7_91 rfl rfl ⟨by decide, by decide⟩ (Nat.le_of_ble_eq_true rfl) rfl dX7_pass_27 (fun r z' F' hp => ?_)
    obtain ⟨rfl, hz, hF⟩ := hp
    rw [hz, hF]
    clear hz hF
    refine gVM.eqs (st' := [vi (b2i (((inB d 1 1000) && (decide (iI (z 0 + d) ≤ iI 10000)) && true)))]) rfl rfl rfl rfl ?_
    refine m_ifne_b (tgt := 35) hC dX7_pass_30 (by decide)  (fun hg => ?_) (fun hg => ?_)
    · have hg2 := hg
      simp only [Bool.and_eq_true, Bool.and_true, decide_eq_true_eq, inB_iff] at hg2
      refine m_ald_n hC dX7_pass_35 rfl ?_
      refine m_dup hC dX7_pass_36 rfl ?_
      refine m_getI hC 0 dX7_pass_37 gf_RX7_103 ⟨by decide, rfl⟩ ?_
      refine m_top (b := z 0) rfl ?_
      refine m_iload_n hC dX7_pass_40 rfl ?_
      refine m_iadd hC dX7_pass_41 ?_
      refine m_putI hC 0 dX7_pass_42 gp_RX7_103 ⟨by decide, rfl⟩ ?_
      refine m_ald_n hC dX7_pass_45 rfl ?_
      refine m_getI hC 0 dX7_pass_46 gf_RX7_103 ⟨by decide, rfl⟩ ?_
      refine m_top (b := (z 0) + (d)) rfl ?_
      exact m_iret hC hq dX7_pass_49 (by rw [if_pos hg]; exact ⟨rfl, rfl, rfl⟩)
    · refine m_iconst hC dX7_pass_33 rfl ?_
      exact m_iret hC hq dX7_pass_34 (by rw [if_neg (by rw [hg]; decide)]; exact ⟨rfl, rfl, rfl⟩)
  · refine m_ald_n hC dX7_pass_9 rfl ?_
    refine m_getI hC 0 dX7_pass_10 gf_RX7_103 ⟨by decide, rfl⟩ ?_
    refine m_iload_n hC dX7_pass_13 rfl ?_
    refine m_iadd hC dX7_pass_14 ?_
    refine m_sipush (v := 10000) hC dX7_pass_15 rfl ?_
    refine m_icmp_gtW (tgt := 25) hC dX7_pass_18 (by decide) (fun c_18 => ?_) (fun c_18 => ?_)
    · refine m_iconst hC dX7_pass_25 rfl ?_
      refine m_top (b := b2i (decide (iI (z 0 + d) ≤ iI 10000))) (b2i_f (decide_eq_false c_18)) ?_
      exact j_26
    · refine m_iconst hC dX7_pass_21 rfl ?_
      refine m_goto (tgt := 26) hC dX7_pass_22 (by decide) ?_
      refine m_top (b := b2i (decide (iI (z 0 + d) ≤ iI 10000))) (b2i_t (decide_eq_true c_18)) ?_
      exact j_26

set_option maxHeartbeats 4000000 in
set_option maxRecDepth 100000 in
theorem kX7_place {l : Launch} (hl : l.stackTraces = false) {D : gD} {base mo : Nat} {ad : Nat → Nat} {z : Nat → Int} {F : Nat → Nat → Int} (hI : mI z F) (fa wi ra : Int) (rfa : -2147483648 ≤ fa ∧ fa < 2147483648) (rwi : -2147483648 ≤ wi ∧ wi < 2147483648) (rra : -2147483648 ≤ ra ∧ ra < 2147483648) : mM l D base yX7_place cX7_place 4 (some Jvm.ClassFile.FieldType.int) 1 23 mo ad [vi (fa), vi (wi), vi (ra)] z F (fun r z' F' => if (((inB fa (-180) 179 && inB wi (-60) 60 && inB ra (1) 5)) && (decide (z 3 < 14)) && true) = true then r = some (vi (z 3)) ∧ z' = gup (gup z 27 (goesN (inB fa (-180) 179 && inB wi (-60) 60 && inB ra (1) 5) (decide (z 3 < 14)) true)) 3 (z 3 + 1) ∧ F' = gup (gup (gup F 4 (gup (F 4) (z 3).toNat fa)) 5 (gup (F 5) (z 3).toNat wi)) 6 (gup (F 6) (z 3).toNat ra) else r = some (vi 0) ∧ z' = gup z 27 (goesN ((inB fa (-180) 179 && inB wi (-60) 60 && inB ra (1) 5)) (decide (z 3 < 14)) true) ∧ F' = F) := by
  obtain ⟨i0, i1, i3, i11, i22, iw, ip, inn, inm, ish⟩ := id hI
  refine mM.of hl (by decide) (by simp [Value.category]) (Nat.le_of_ble_eq_true rfl) [some (.ref mo), some (vi (fa)), some (vi (wi)), some (vi (ra))] rfl (fun gh x hC hq => ?_)
  refine m_ald_n hC dX7_place_0 rfl ?_
  refine g_cut (A := gVM x D base 4 mo ad gh 39 [some (.ref mo), some (vi (fa)), some (vi (wi)), some (vi (ra))] [vi (b2i ((inB fa (-180) 179 && inB wi (-60) 60 && inB ra (1) 5))), .ref mo] (z) (F)) ?_ (fun j_39 => ?_)
  · refine g_cut (A := gVM x D base 4 mo ad gh 53 [some (.ref mo), some (vi (fa)), some (vi (wi)), some (vi (ra))] [vi (b2i (decide (z 3 < 14))), vi (b2i ((inB fa (-180) 179 && inB wi (-60) 60 && inB ra (1) 5))), .ref mo] (z) (F)) ?_ (fun j_53 => ?_)
    · refine m_iconst hC dX7_place_53 rfl ?_
      refine m_callV (rest := []) hC (kX7_goes hl ((inB fa (-180) 179 && inB wi (-60) 60 && inB ra (1) 5)) (decide (z 3 < 14)) true) gc_RX7_91 rfl rfl ⟨by decide, by decide⟩ (Nat.le_of_ble_eq_true rfl) rfl dX7_place_54 (fun r z' F' hp => ?_)
      obtain ⟨rfl, hz, hF⟩ := hp
      rw [hz, hF]
      clear hz hF
      refine gVM.eqs (st' := [vi (b2i ((((inB fa (-180) 179 && inB wi (-60) 60 && inB ra (1) 5)) && (decide (z 3 < 14)) && true)))]) rfl rfl rfl rfl ?_
      refine m_ifne_b (tgt := 62) hC dX7_place_57 (by decide)  (fun hg => ?_) (fun hg => ?_)
      · have hg2 := hg
        simp only [Bool.and_eq_true, Bool.and_true, decide_eq_true_eq, inB_iff] at hg2
        refine m_ald_n hC dX7_place_62 rfl ?_
        refine m_getA hC 4 dX7_place_63 gf_RX7_13 ⟨by decide, rfl⟩ ?_
        refine m_ald_n hC dX7_place_66 rfl ?_
        refine m_getI hC 3 dX7_place_67 gf_RX7_78 ⟨by decide, rfl⟩ ?_
        refine m_top (b := z 3) rfl ?_
        refine m_iload_n hC dX7_place_70 rfl ?_
        refine m_iast hC 4 ((z 3).toNat) dX7_place_71 ⟨by decide, rfl, rfl⟩ (by omega) (by simp only [mK]; omega) ?_
        refine m_ald_n hC dX7_place_72 rfl ?_
        refine m_getA hC 5 dX7_place_73 gf_RX7_17 ⟨by decide, rfl⟩ ?_
        refine m_ald_n hC dX7_place_76 rfl ?_
        refine m_getI hC 3 dX7_place_77 gf_RX7_78 ⟨by decide, rfl⟩ ?_
        refine m_top (b := z 3) rfl ?_
        refine m_iload_n hC dX7_place_80 rfl ?_
        refine m_iast hC 5 ((z 3).toNat) dX7_place_81 ⟨by decide, rfl, rfl⟩ (by omega) (by simp only [mK]; omega) ?_
        refine m_ald_n hC dX7_place_82 rfl ?_
        refine m_getA hC 6 dX7_place_83 gf_RX7_20 ⟨by decide, rfl⟩ ?_
        refine m_ald_n hC dX7_place_86 rfl ?_
        refine m_getI hC 3 dX7_place_87 gf_RX7_78 ⟨by decide, rfl⟩ ?_
        refine m_top (b := z 3) rfl ?_
        refine m_iload_n hC dX7_place_90 rfl ?_
        refine m_iast hC 6 ((z 3).toNat) dX7_place_91 ⟨by decide, rfl, rfl⟩ (by omega) (by simp only [mK]; omega) ?_
        refine m_ald_n hC dX7_place_92 rfl ?_
        refine m_dup hC dX7_place_93 rfl ?_
        refine m_getI hC 3 dX7_place_94 gf_RX7_78 ⟨by decide, rfl⟩ ?_
        refine m_top (b := z 3) rfl ?_
        refine m_iconst hC dX7_place_97 rfl ?_
        refine m_iadd hC dX7_place_98 ?_
        refine m_putI hC 3 dX7_place_99 gp_RX7_78 ⟨by decide, rfl⟩ ?_
        refine m_ald_n hC dX7_place_102 rfl ?_
        refine m_getI hC 3 dX7_place_103 gf_RX7_78 ⟨by decide, rfl⟩ ?_
        refine m_top (b := (z 3) + (1)) rfl ?_
        refine m_iconst hC dX7_place_106 rfl ?_
        refine m_isub hC dX7_place_107 ?_
        refine m_top (b := z 3) (by omega) ?_
        exact m_iret hC hq dX7_place_108 (by rw [if_pos hg]; exact ⟨rfl, rfl, rfl⟩)
      · refine m_iconst hC dX7_place_60 rfl ?_
        exact m_iret hC hq dX7_place_61 (by rw [if_neg (by rw [hg]; decide)]; exact ⟨rfl, rfl, rfl⟩)
    · refine m_ald_n hC dX7_place_39 rfl ?_
      refine m_getI hC 3 dX7_place_40 gf_RX7_78 ⟨by decide, rfl⟩ ?_
      refine m_bipush (v := 14) hC dX7_place_43 rfl ?_
      refine m_icmp_ge (tgt := 52) hC dX7_place_45 (by decide) (by omega) (by omega) (fun c_45 => ?_) (fun c_45 => ?_)
      · refine m_iconst hC dX7_place_52 rfl ?_
        refine m_top (b := b2i (decide (z 3 < 14))) (b2i_f (by first | rfl | (simp [c_45]; done) | (simp only [c_45]; rfl))) ?_
        exact j_53
      · refine m_iconst hC dX7_place_48 rfl ?_
        refine m_goto (tgt := 53) hC dX7_place_49 (by decide) ?_
        refine m_top (b := b2i (decide (z 3 < 14))) (b2i_t (by first | rfl | (simp [c_45]; done) | (simp only [c_45]; rfl))) ?_
        exact j_53
  · refine m_iload_n hC dX7_place_1 rfl ?_
    refine m_sipush (v := (-180)) hC dX7_place_2 rfl ?_
    refine m_sipush (v := 179) hC dX7_place_5 rfl ?_
    refine m_callS (rest := [.ref mo]) hC (fun gh => kX7_in hl (fa) ((-180)) 179 (by omega) (by omega) (by omega) gh) gc_RX7_81 rfl ⟨by decide, by decide⟩ (Nat.le_of_ble_eq_true rfl) rfl dX7_place_8 (fun r hp => ?_)
    subst hp
    refine m_ifeq_b (tgt := 38) hC dX7_place_11 (by decide)  (fun c_11 => ?_) (fun c_11 => ?_)
    · refine m_iconst hC dX7_place_38 rfl ?_
      refine m_top (b := b2i ((inB fa (-180) 179 && inB wi (-60) 60 && inB ra (1) 5))) (b2i_f (by simp [c_11])) ?_
      exact j_39
    · refine m_iload_n hC dX7_place_14 rfl ?_
      refine m_bipush (v := (-60)) hC dX7_place_15 rfl ?_
      refine m_bipush (v := 60) hC dX7_place_17 rfl ?_
      refine m_callS (rest := [.ref mo]) hC (fun gh => kX7_in hl (wi) ((-60)) 60 (by omega) (by omega) (by omega) gh) gc_RX7_81 rfl ⟨by decide, by decide⟩ (Nat.le_of_ble_eq_true rfl) rfl dX7_place_19 (fun r hp => ?_)
      subst hp
      refine m_ifeq_b (tgt := 38) hC dX7_place_22 (by decide)  (fun c_22 => ?_) (fun c_22 => ?_)
      · refine m_iconst hC dX7_place_38 rfl ?_
        refine m_top (b := b2i ((inB fa (-180) 179 && inB wi (-60) 60 && inB ra (1) 5))) (b2i_f (by simp [c_11, c_22])) ?_
        exact j_39
      · refine m_iload_n hC dX7_place_25 rfl ?_
        refine m_iconst hC dX7_place_26 rfl ?_
        refine m_iconst hC dX7_place_27 rfl ?_
        refine m_callS (rest := [.ref mo]) hC (fun gh => kX7_in hl (ra) (1) 5 (by omega) (by omega) (by omega) gh) gc_RX7_81 rfl ⟨by decide, by decide⟩ (Nat.le_of_ble_eq_true rfl) rfl dX7_place_28 (fun r hp => ?_)
        subst hp
        refine m_ifeq_b (tgt := 38) hC dX7_place_31 (by decide)  (fun c_31 => ?_) (fun c_31 => ?_)
        · refine m_iconst hC dX7_place_38 rfl ?_
          refine m_top (b := b2i ((inB fa (-180) 179 && inB wi (-60) 60 && inB ra (1) 5))) (b2i_f (by simp [c_11, c_22, c_31])) ?_
          exact j_39
        · refine m_iconst hC dX7_place_34 rfl ?_
          refine m_goto (tgt := 39) hC dX7_place_35 (by decide) ?_
          refine m_top (b := b2i ((inB fa (-180) 179 && inB wi (-60) 60 && inB ra (1) 5))) (b2i_t (by simp [c_11, c_22, c_31])) ?_
          exact j_39

set_option maxHeartbeats 4000000 in
set_option maxRecDepth 100000 in
theorem kX7_sheet {l : Launch} (hl : l.stackTraces = false) {D : gD} {base mo : Nat} {ad : Nat → Nat} {z : Nat → Int} {F : Nat → Nat → Int} (hI : mI z F) (fa wi so : Int) (rfa : -2147483648 ≤ fa ∧ fa < 2147483648) (rwi : -2147483648 ≤ wi ∧ wi < 2147483648) (rso : -2147483648 ≤ so ∧ so < 2147483648) : mM l D base yX7_sheet cX7_sheet 4 (some Jvm.ClassFile.FieldType.int) 1 23 mo ad [vi (fa), vi (wi), vi (so)] z F (fun r z' F' => if (((inB fa (-180) 150 && inB wi (-60) 41 && inB so (0) 1)) && (decide (z 11 < 4)) && true) = true then r = some (vi (z 11)) ∧ z' = gup (gup z 27 (goesN (inB fa (-180) 150 && inB wi (-60) 41 && inB so (0) 1) (decide (z 11 < 4)) true)) 11 (z 11 + 1) ∧ F' = gup (gup (gup F 12 (gup (F 12) (z 11).toNat fa)) 13 (gup (F 13) (z 11).toNat wi)) 14 (gup (F 14) (z 11).toNat so) else r = some (vi 0) ∧ z' = gup z 27 (goesN ((inB fa (-180) 150 && inB wi (-60) 41 && inB so (0) 1)) (decide (z 11 < 4)) true) ∧ F' = F) := by
  obtain ⟨i0, i1, i3, i11, i22, iw, ip, inn, inm, ish⟩ := id hI
  refine mM.of hl (by decide) (by simp [Value.category]) (Nat.le_of_ble_eq_true rfl) [some (.ref mo), some (vi (fa)), some (vi (wi)), some (vi (so))] rfl (fun gh x hC hq => ?_)
  refine m_ald_n hC dX7_sheet_0 rfl ?_
  refine g_cut (A := gVM x D base 4 mo ad gh 39 [some (.ref mo), some (vi (fa)), some (vi (wi)), some (vi (so))] [vi (b2i ((inB fa (-180) 150 && inB wi (-60) 41 && inB so (0) 1))), .ref mo] (z) (F)) ?_ (fun j_39 => ?_)
  · refine g_cut (A := gVM x D base 4 mo ad gh 52 [some (.ref mo), some (vi (fa)), some (vi (wi)), some (vi (so))] [vi (b2i (decide (z 11 < 4))), vi (b2i ((inB fa (-180) 150 && inB wi (-60) 41 && inB so (0) 1))), .ref mo] (z) (F)) ?_ (fun j_52 => ?_)
    · refine m_iconst hC dX7_sheet_52 rfl ?_
      refine m_callV (rest := []) hC (kX7_goes hl ((inB fa (-180) 150 && inB wi (-60) 41 && inB so (0) 1)) (decide (z 11 < 4)) true) gc_RX7_91 rfl rfl ⟨by decide, by decide⟩ (Nat.le_of_ble_eq_true rfl) rfl dX7_sheet_53 (fun r z' F' hp => ?_)
      obtain ⟨rfl, hz, hF⟩ := hp
      rw [hz, hF]
      clear hz hF
      refine gVM.eqs (st' := [vi (b2i ((((inB fa (-180) 150 && inB wi (-60) 41 && inB so (0) 1)) && (decide (z 11 < 4)) && true)))]) rfl rfl rfl rfl ?_
      refine m_ifne_b (tgt := 61) hC dX7_sheet_56 (by decide)  (fun hg => ?_) (fun hg => ?_)
      · have hg2 := hg
        simp only [Bool.and_eq_true, Bool.and_true, decide_eq_true_eq, inB_iff] at hg2
        refine m_ald_n hC dX7_sheet_61 rfl ?_
        refine m_getA hC 12 dX7_sheet_62 gf_RX7_35 ⟨by decide, rfl⟩ ?_
        refine m_ald_n hC dX7_sheet_65 rfl ?_
        refine m_getI hC 11 dX7_sheet_66 gf_RX7_85 ⟨by decide, rfl⟩ ?_
        refine m_top (b := z 11) rfl ?_
        refine m_iload_n hC dX7_sheet_69 rfl ?_
        refine m_iast hC 12 ((z 11).toNat) dX7_sheet_70 ⟨by decide, rfl, rfl⟩ (by omega) (by simp only [mK]; omega) ?_
        refine m_ald_n hC dX7_sheet_71 rfl ?_
        refine m_getA hC 13 dX7_sheet_72 gf_RX7_38 ⟨by decide, rfl⟩ ?_
        refine m_ald_n hC dX7_sheet_75 rfl ?_
        refine m_getI hC 11 dX7_sheet_76 gf_RX7_85 ⟨by decide, rfl⟩ ?_
        refine m_top (b := z 11) rfl ?_
        refine m_iload_n hC dX7_sheet_79 rfl ?_
        refine m_iast hC 13 ((z 11).toNat) dX7_sheet_80 ⟨by decide, rfl, rfl⟩ (by omega) (by simp only [mK]; omega) ?_
        refine m_ald_n hC dX7_sheet_81 rfl ?_
        refine m_getA hC 14 dX7_sheet_82 gf_RX7_41 ⟨by decide, rfl⟩ ?_
        refine m_ald_n hC dX7_sheet_85 rfl ?_
        refine m_getI hC 11 dX7_sheet_86 gf_RX7_85 ⟨by decide, rfl⟩ ?_
        refine m_top (b := z 11) rfl ?_
        refine m_iload_n hC dX7_sheet_89 rfl ?_
        refine m_iast hC 14 ((z 11).toNat) dX7_sheet_90 ⟨by decide, rfl, rfl⟩ (by omega) (by simp only [mK]; omega) ?_
        refine m_ald_n hC dX7_sheet_91 rfl ?_
        refine m_dup hC dX7_sheet_92 rfl ?_
        refine m_getI hC 11 dX7_sheet_93 gf_RX7_85 ⟨by decide, rfl⟩ ?_
        refine m_top (b := z 11) rfl ?_
        refine m_iconst hC dX7_sheet_96 rfl ?_
        refine m_iadd hC dX7_sheet_97 ?_
        refine m_putI hC 11 dX7_sheet_98 gp_RX7_85 ⟨by decide, rfl⟩ ?_
        refine m_ald_n hC dX7_sheet_101 rfl ?_
        refine m_getI hC 11 dX7_sheet_102 gf_RX7_85 ⟨by decide, rfl⟩ ?_
        refine m_top (b := (z 11) + (1)) rfl ?_
        refine m_iconst hC dX7_sheet_105 rfl ?_
        refine m_isub hC dX7_sheet_106 ?_
        refine m_top (b := z 11) (by omega) ?_
        exact m_iret hC hq dX7_sheet_107 (by rw [if_pos hg]; exact ⟨rfl, rfl, rfl⟩)
      · refine m_iconst hC dX7_sheet_59 rfl ?_
        exact m_iret hC hq dX7_sheet_60 (by rw [if_neg (by rw [hg]; decide)]; exact ⟨rfl, rfl, rfl⟩)
    · refine m_ald_n hC dX7_sheet_39 rfl ?_
      refine m_getI hC 11 dX7_sheet_40 gf_RX7_85 ⟨by decide, rfl⟩ ?_
      refine m_iconst hC dX7_sheet_43 rfl ?_
      refine m_icmp_ge (tgt := 51) hC dX7_sheet_44 (by decide) (by omega) (by omega) (fun c_44 => ?_) (fun c_44 => ?_)
      · refine m_iconst hC dX7_sheet_51 rfl ?_
        refine m_top (b := b2i (decide (z 11 < 4))) (b2i_f (by first | rfl | (simp [c_44]; done) | (simp only [c_44]; rfl))) ?_
        exact j_52
      · refine m_iconst hC dX7_sheet_47 rfl ?_
        refine m_goto (tgt := 52) hC dX7_sheet_48 (by decide) ?_
        refine m_top (b := b2i (decide (z 11 < 4))) (b2i_t (by first | rfl | (simp [c_44]; done) | (simp only [c_44]; rfl))) ?_
        exact j_52
  · refine m_iload_n hC dX7_sheet_1 rfl ?_
    refine m_sipush (v := (-180)) hC dX7_sheet_2 rfl ?_
    refine m_sipush (v := 150) hC dX7_sheet_5 rfl ?_
    refine m_callS (rest := [.ref mo]) hC (fun gh => kX7_in hl (fa) ((-180)) 150 (by omega) (by omega) (by omega) gh) gc_RX7_81 rfl ⟨by decide, by decide⟩ (Nat.le_of_ble_eq_true rfl) rfl dX7_sheet_8 (fun r hp => ?_)
    subst hp
    refine m_ifeq_b (tgt := 38) hC dX7_sheet_11 (by decide)  (fun c_11 => ?_) (fun c_11 => ?_)
    · refine m_iconst hC dX7_sheet_38 rfl ?_
      refine m_top (b := b2i ((inB fa (-180) 150 && inB wi (-60) 41 && inB so (0) 1))) (b2i_f (by simp [c_11])) ?_
      exact j_39
    · refine m_iload_n hC dX7_sheet_14 rfl ?_
      refine m_bipush (v := (-60)) hC dX7_sheet_15 rfl ?_
      refine m_bipush (v := 41) hC dX7_sheet_17 rfl ?_
      refine m_callS (rest := [.ref mo]) hC (fun gh => kX7_in hl (wi) ((-60)) 41 (by omega) (by omega) (by omega) gh) gc_RX7_81 rfl ⟨by decide, by decide⟩ (Nat.le_of_ble_eq_true rfl) rfl dX7_sheet_19 (fun r hp => ?_)
      subst hp
      refine m_ifeq_b (tgt := 38) hC dX7_sheet_22 (by decide)  (fun c_22 => ?_) (fun c_22 => ?_)
      · refine m_iconst hC dX7_sheet_38 rfl ?_
        refine m_top (b := b2i ((inB fa (-180) 150 && inB wi (-60) 41 && inB so (0) 1))) (b2i_f (by simp [c_11, c_22])) ?_
        exact j_39
      · refine m_iload_n hC dX7_sheet_25 rfl ?_
        refine m_iconst hC dX7_sheet_26 rfl ?_
        refine m_iconst hC dX7_sheet_27 rfl ?_
        refine m_callS (rest := [.ref mo]) hC (fun gh => kX7_in hl (so) (0) 1 (by omega) (by omega) (by omega) gh) gc_RX7_81 rfl ⟨by decide, by decide⟩ (Nat.le_of_ble_eq_true rfl) rfl dX7_sheet_28 (fun r hp => ?_)
        subst hp
        refine m_ifeq_b (tgt := 38) hC dX7_sheet_31 (by decide)  (fun c_31 => ?_) (fun c_31 => ?_)
        · refine m_iconst hC dX7_sheet_38 rfl ?_
          refine m_top (b := b2i ((inB fa (-180) 150 && inB wi (-60) 41 && inB so (0) 1))) (b2i_f (by simp [c_11, c_22, c_31])) ?_
          exact j_39
        · refine m_iconst hC dX7_sheet_34 rfl ?_
          refine m_goto (tgt := 39) hC dX7_sheet_35 (by decide) ?_
          refine m_top (b := b2i ((inB fa (-180) 150 && inB wi (-60) 41 && inB so (0) 1))) (b2i_t (by simp [c_11, c_22, c_31])) ?_
          exact j_39

set_option maxHeartbeats 4000000 in
set_option maxRecDepth 100000 in
theorem kX7_isOn {l : Launch} (hl : l.stackTraces = false) {D : gD} {base mo : Nat} {ad : Nat → Nat} {z : Nat → Int} {F : Nat → Nat → Int} (hI : mI z F) (s i : Nat) (hs : (s : Int) < z 11) (hi : (i : Int) < z 3) : mM l D base yX7_isOn cX7_isOn 3 (some Jvm.ClassFile.FieldType.boolean) 1 22 mo ad [vi ((s : Int)), vi ((i : Int))] z F (fun r z' F' => r = some (vi (b2i (qOn F s i))) ∧ z' = z ∧ F' = F) := by
  obtain ⟨i0, i1, i3, i11, i22, iw, ip, inn, inm, ish⟩ := id hI
  have hp := ip i hi
  have hsh := ish s hs
  refine mM.of hl (by decide) (by simp [Value.category]) (Nat.le_of_ble_eq_true rfl) [some (.ref mo), some (vi ((s : Int))), some (vi ((i : Int)))] rfl (fun gh x hC hq => ?_)
  refine m_ald_n hC dX7_isOn_0 rfl ?_
  refine m_getA hC 4 dX7_isOn_1 gf_RX7_13 ⟨by decide, rfl⟩ ?_
  refine m_iload_n hC dX7_isOn_4 rfl ?_
  refine m_iald hC 4 (i) dX7_isOn_5 ⟨by decide, rfl, rfl⟩ (by omega) (by simp only [mK]; omega) ?_
  refine m_ald_n hC dX7_isOn_6 rfl ?_
  refine m_getA hC 12 dX7_isOn_7 gf_RX7_35 ⟨by decide, rfl⟩ ?_
  refine m_iload_n hC dX7_isOn_10 rfl ?_
  refine m_iald hC 12 (s) dX7_isOn_11 ⟨by decide, rfl, rfl⟩ (by omega) (by simp only [mK]; omega) ?_
  refine m_isub hC dX7_isOn_12 ?_
  refine m_iconst hC dX7_isOn_13 rfl ?_
  refine m_bipush (v := 29) hC dX7_isOn_14 rfl ?_
  refine m_callS (rest := []) hC (fun gh => kX7_in hl ((F 4 (i)) - (F 12 (s))) 0 29 (by omega) (by omega) (by omega) gh) gc_RX7_81 rfl ⟨by decide, by decide⟩ (Nat.le_of_ble_eq_true rfl) rfl dX7_isOn_16 (fun r hp => ?_)
  subst hp
  refine m_ifeq_b (tgt := 48) hC dX7_isOn_19 (by decide)  (fun c_19 => ?_) (fun c_19 => ?_)
  · refine m_iconst hC dX7_isOn_48 rfl ?_
    refine m_top (b := b2i (qOn F s i)) (b2i_f (by unfold qOn; simp [c_19])) ?_
    exact m_bret hC hq dX7_isOn_49 ⟨rfl, rfl, rfl⟩
  · refine m_ald_n hC dX7_isOn_22 rfl ?_
    refine m_getA hC 5 dX7_isOn_23 gf_RX7_17 ⟨by decide, rfl⟩ ?_
    refine m_iload_n hC dX7_isOn_26 rfl ?_
    refine m_iald hC 5 (i) dX7_isOn_27 ⟨by decide, rfl, rfl⟩ (by omega) (by simp only [mK]; omega) ?_
    refine m_ald_n hC dX7_isOn_28 rfl ?_
    refine m_getA hC 13 dX7_isOn_29 gf_RX7_38 ⟨by decide, rfl⟩ ?_
    refine m_iload_n hC dX7_isOn_32 rfl ?_
    refine m_iald hC 13 (s) dX7_isOn_33 ⟨by decide, rfl, rfl⟩ (by omega) (by simp only [mK]; omega) ?_
    refine m_isub hC dX7_isOn_34 ?_
    refine m_iconst hC dX7_isOn_35 rfl ?_
    refine m_bipush (v := 19) hC dX7_isOn_36 rfl ?_
    refine m_callS (rest := []) hC (fun gh => kX7_in hl ((F 5 (i)) - (F 13 (s))) 0 19 (by omega) (by omega) (by omega) gh) gc_RX7_81 rfl ⟨by decide, by decide⟩ (Nat.le_of_ble_eq_true rfl) rfl dX7_isOn_38 (fun r hp => ?_)
    subst hp
    refine m_ifeq_b (tgt := 48) hC dX7_isOn_41 (by decide)  (fun c_41 => ?_) (fun c_41 => ?_)
    · refine m_iconst hC dX7_isOn_48 rfl ?_
      refine m_top (b := b2i (qOn F s i)) (b2i_f (by unfold qOn; simp [c_19, c_41])) ?_
      exact m_bret hC hq dX7_isOn_49 ⟨rfl, rfl, rfl⟩
    · refine m_iconst hC dX7_isOn_44 rfl ?_
      refine m_goto (tgt := 49) hC dX7_isOn_45 (by decide) ?_
      refine m_top (b := b2i (qOn F s i)) (b2i_t (by unfold qOn; simp [c_19, c_41])) ?_
      exact m_bret hC hq dX7_isOn_49 ⟨rfl, rfl, rfl⟩

set_option maxHeartbeats 4000000 in
set_option maxRecDepth 100000 in
theorem kX7_rowOf {l : Launch} (hl : l.stackTraces = false) {D : gD} {base mo : Nat} {ad : Nat → Nat} {z : Nat → Int} {F : Nat → Nat → Int} (hI : mI z F) (s i : Nat) (hs : (s : Int) < z 11) (hi : (i : Int) < z 3) (hon : qOn F s i = true) : mM l D base yX7_rowOf cX7_rowOf 3 (some Jvm.ClassFile.FieldType.int) 0 0 mo ad [vi ((s : Int)), vi ((i : Int))] z F (fun r z' F' => r = some (vi (qRow F s i)) ∧ z' = z ∧ F' = F) := by
  obtain ⟨i0, i1, i3, i11, i22, iw, ip, inn, inm, ish⟩ := id hI
  have hp := ip i hi
  have hsh := ish s hs
  have ho := qOn_iff.mp hon
  refine mM.of hl (by decide) (by simp [Value.category]) (Nat.le_of_ble_eq_true rfl) [some (.ref mo), some (vi ((s : Int))), some (vi ((i : Int)))] rfl (fun gh x hC hq => ?_)
  refine m_bipush (v := 24) hC dX7_rowOf_0 rfl ?_
  refine m_ald_n hC dX7_rowOf_2 rfl ?_
  refine m_getA hC 5 dX7_rowOf_3 gf_RX7_17 ⟨by decide, rfl⟩ ?_
  refine m_iload_n hC dX7_rowOf_6 rfl ?_
  refine m_iald hC 5 (i) dX7_rowOf_7 ⟨by decide, rfl, rfl⟩ (by omega) (by simp only [mK]; omega) ?_
  refine m_ald_n hC dX7_rowOf_8 rfl ?_
  refine m_getA hC 13 dX7_rowOf_9 gf_RX7_38 ⟨by decide, rfl⟩ ?_
  refine m_iload_n hC dX7_rowOf_12 rfl ?_
  refine m_iald hC 13 (s) dX7_rowOf_13 ⟨by decide, rfl, rfl⟩ (by omega) (by simp only [mK]; omega) ?_
  refine m_isub hC dX7_rowOf_14 ?_
  refine m_imul hC dX7_rowOf_15 ?_
  refine m_bipush (v := 20) hC dX7_rowOf_16 rfl ?_
  refine m_idiv hC dX7_rowOf_18 (by omega) (by omega) ?_
  exact m_iret hC hq dX7_rowOf_19 ⟨rfl, rfl, rfl⟩

set_option maxHeartbeats 4000000 in
set_option maxRecDepth 100000 in
theorem kX7_columnOf {l : Launch} (hl : l.stackTraces = false) {D : gD} {base mo : Nat} {ad : Nat → Nat} {z : Nat → Int} {F : Nat → Nat → Int} (hI : mI z F) (s i : Nat) (hs : (s : Int) < z 11) (hi : (i : Int) < z 3) (hon : qOn F s i = true) : mM l D base yX7_columnOf cX7_columnOf 6 (some Jvm.ClassFile.FieldType.int) 0 0 mo ad [vi ((s : Int)), vi ((i : Int))] z F (fun r z' F' => r = some (vi (qCol F s i)) ∧ z' = z ∧ F' = F) := by
  obtain ⟨i0, i1, i3, i11, i22, iw, ip, inn, inm, ish⟩ := id hI
  have hp := ip i hi
  have hsh := ish s hs
  have ho := qOn_iff.mp hon
  refine mM.of hl (by decide) (by simp [Value.category]) (Nat.le_of_ble_eq_true rfl) [some (.ref mo), some (vi ((s : Int))), some (vi ((i : Int))), none, none, none] rfl (fun gh x hC hq => ?_)
  refine m_ald_n hC dX7_columnOf_0 rfl ?_
  refine m_getA hC 4 dX7_columnOf_1 gf_RX7_13 ⟨by decide, rfl⟩ ?_
  refine m_iload_n hC dX7_columnOf_4 rfl ?_
  refine m_iald hC 4 (i) dX7_columnOf_5 ⟨by decide, rfl, rfl⟩ (by omega) (by simp only [mK]; omega) ?_
  refine m_ald_n hC dX7_columnOf_6 rfl ?_
  refine m_getA hC 12 dX7_columnOf_7 gf_RX7_35 ⟨by decide, rfl⟩ ?_
  refine m_iload_n hC dX7_columnOf_10 rfl ?_
  refine m_iald hC 12 (s) dX7_columnOf_11 ⟨by decide, rfl, rfl⟩ (by omega) (by simp only [mK]; omega) ?_
  refine m_isub hC dX7_columnOf_12 ?_
  refine m_istore_n (lv' := [some (.ref mo), some (vi ((s : Int))), some (vi ((i : Int))), some (vi ((F 4 (i)) - (F 12 (s)))), none, none]) hC dX7_columnOf_13 (by decide) rfl ?_
  refine m_ald_n hC dX7_columnOf_14 rfl ?_
  refine m_getA hC 14 dX7_columnOf_15 gf_RX7_41 ⟨by decide, rfl⟩ ?_
  refine m_iload_n hC dX7_columnOf_18 rfl ?_
  refine m_iald hC 14 (s) dX7_columnOf_19 ⟨by decide, rfl, rfl⟩ (by omega) (by simp only [mK]; omega) ?_
  refine m_if_ne (tgt := 31) hC dX7_columnOf_20 (by decide) (by omega) (fun hk => ?_) (fun hk => ?_)
  · have h1 := fpU ho.2
    have h2 := fpV ho.1
    have h3 := fpC ho.1 ho.2
    refine m_fconst1 hC dX7_columnOf_31 ?_
    refine m_ldcf hC dX7_columnOf_32 gk_RX7_110 ?_
    refine m_ald_n hC dX7_columnOf_34 rfl ?_
    refine m_getA hC 5 dX7_columnOf_35 gf_RX7_17 ⟨by decide, rfl⟩ ?_
    refine m_iload_n hC dX7_columnOf_38 rfl ?_
    refine m_iald hC 5 (i) dX7_columnOf_39 ⟨by decide, rfl, rfl⟩ (by omega) (by simp only [mK]; omega) ?_
    refine m_ald_n hC dX7_columnOf_40 rfl ?_
    refine m_getA hC 13 dX7_columnOf_41 gf_RX7_38 ⟨by decide, rfl⟩ ?_
    refine m_iload_n hC dX7_columnOf_44 rfl ?_
    refine m_iald hC 13 (s) dX7_columnOf_45 ⟨by decide, rfl, rfl⟩ (by omega) (by simp only [mK]; omega) ?_
    refine m_isub hC dX7_columnOf_46 ?_
    refine m_i2f hC dX7_columnOf_47 ?_
    refine m_fmul hC dX7_columnOf_48 (h1.1) ?_
    refine m_fsub hC dX7_columnOf_49 (h1.2) ?_
    refine m_fstore (lv' := [some (.ref mo), some (vi ((s : Int))), some (vi ((i : Int))), some (vi ((F 4 (i)) - (F 12 (s)))), some (.float (fU (F 5 i - F 13 s))), none]) hC dX7_columnOf_50 (by decide) rfl ?_
    refine m_iload_n hC dX7_columnOf_52 rfl ?_
    refine m_bipush (v := 15) hC dX7_columnOf_53 rfl ?_
    refine m_isub hC dX7_columnOf_55 ?_
    refine m_i2f hC dX7_columnOf_56 ?_
    refine m_ldcf hC dX7_columnOf_57 gk_RX7_111 ?_
    refine m_fmul hC dX7_columnOf_59 (h2.1) ?_
    refine m_ldcf hC dX7_columnOf_60 gk_RX7_112 ?_
    refine m_fdiv hC dX7_columnOf_62 (h2.2) ?_
    refine m_fload hC dX7_columnOf_63 rfl ?_
    refine m_fmul hC dX7_columnOf_65 (h3.1) ?_
    refine m_fstore (lv' := [some (.ref mo), some (vi ((s : Int))), some (vi ((i : Int))), some (vi ((F 4 (i)) - (F 12 (s)))), some (.float (fU (F 5 i - F 13 s))), some (.float (fV (F 4 i - F 12 s) (F 5 i - F 13 s)))]) hC dX7_columnOf_66 (by decide) rfl ?_
    refine m_ldcf hC dX7_columnOf_68 gk_RX7_113 ?_
    refine m_fload hC dX7_columnOf_70 rfl ?_
    refine m_fadd hC dX7_columnOf_72 (h3.2.1) ?_
    refine m_f2i hC dX7_columnOf_73 ?_
    refine gVM.eqs (st' := [vi (qCol F s i)]) rfl (by unfold qCol; rw [if_neg hk]; unfold cone; show [Value.int _] = [Value.int (iI _)]; rw [← iI_of]; rfl) rfl rfl ?_
    exact m_iret hC hq dX7_columnOf_74 ⟨rfl, rfl, rfl⟩
  · refine m_bipush (v := 40) hC dX7_columnOf_23 rfl ?_
    refine m_iload_n hC dX7_columnOf_25 rfl ?_
    refine m_imul hC dX7_columnOf_26 ?_
    refine m_bipush (v := 30) hC dX7_columnOf_27 rfl ?_
    refine m_idiv hC dX7_columnOf_29 (by omega) (by omega) ?_
    refine m_top (b := qCol F s i) (by unfold qCol; rw [if_pos hk]) ?_
    exact m_iret hC hq dX7_columnOf_30 ⟨rfl, rfl, rfl⟩

def spV (F : Nat → Nat → Int) (on which : Int) (i : Nat) : Int := if nmOf F on i = -1 then 32 else if F 9 (nmOf F on i).toNat ≤ which then 32 else F 10 (8 * nmOf F on i + which).toNat
theorem nmOf_rng {z : Nat → Int} {F : Nat → Nat → Int} (hI : mI z F) {on : Int} {i : Nat} (hi : i < 14) : nmOf F on i = -1 ∨ ∃ j : Nat, j < 6 ∧ (j : Int) < F 7 i ∧ nmOf F on i = 6 * (i : Int) + j ∧ (nmOf F on i).toNat = 6 * i + j := by
  obtain ⟨i0, i1, i3, i11, i22, iw, ip, inn, inm, ish⟩ := id hI
  have h1 := inn i hi
  rcases nmR_rng (F := F) (on := on) (i := i) (F 7 i).toNat with h | ⟨j, h2, h3⟩
  · exact Or.inl h
  · exact Or.inr ⟨j, by omega, by omega, h3, by unfold nmOf; omega⟩
theorem nmOf_b {z : Nat → Int} {F : Nat → Nat → Int} (hI : mI z F) {on : Int} {i : Nat} (hi : i < 14) : -1 ≤ nmOf F on i ∧ nmOf F on i < 84 := by
  rcases nmOf_rng hI (on := on) hi with h | ⟨j, h1, h2, h3, h4⟩
  · omega
  · omega
set_option maxHeartbeats 4000000 in
set_option maxRecDepth 100000 in
theorem kX7_spelled {l : Launch} (hl : l.stackTraces = false) {D : gD} {base mo : Nat} {ad : Nat → Nat} {z : Nat → Int} {F : Nat → Nat → Int} (hI : mI z F) (i on wh : Int) (ri : -2147483648 ≤ i ∧ i < 2147483648) (ron : -2147483648 ≤ on ∧ on < 2147483648) (rwh : -2147483648 ≤ wh ∧ wh < 2147483648) : mM l D base yX7_spelled cX7_spelled 5 (some Jvm.ClassFile.FieldType.char) 2 43 mo ad [vi (i), vi (on), vi (wh)] z F (fun r z' F' => if (((inB i 0 (z 3 - 1) && decide (0 ≤ wh))) && (inB on 0 10000) && true) = true then r = some (vi (spV F on wh i.toNat)) ∧ z' = gup z 27 (goesN (inB i 0 (z 3 - 1) && decide (0 ≤ wh)) (inB on 0 10000) true) ∧ F' = F else r = some (vi 32) ∧ z' = gup z 27 (goesN ((inB i 0 (z 3 - 1) && decide (0 ≤ wh))) (inB on 0 10000) true) ∧ F' = F) := by
  obtain ⟨i0, i1, i3, i11, i22, iw, ip, inn, inm, ish⟩ := id hI
  refine mM.of hl (by decide) (by simp [Value.category]) (Nat.le_of_ble_eq_true rfl) [some (.ref mo), some (vi (i)), some (vi (on)), some (vi (wh)), none] rfl (fun gh x hC hq => ?_)
  refine m_ald_n hC dX7_spelled_0 rfl ?_
  refine g_cut (A := gVM x D base 5 mo ad gh 18 [some (.ref mo), some (vi (i)), some (vi (on)), some (vi (wh)), none] [vi (b2i ((inB i 0 (z 3 - 1) && decide (0 ≤ wh)))), .ref mo] (z) (F)) ?_ (fun j_18 => ?_)
  · refine m_iload_n hC dX7_spelled_18 rfl ?_
    refine m_iconst hC dX7_spelled_19 rfl ?_
    refine m_sipush (v := 10000) hC dX7_spelled_20 rfl ?_
    refine m_callS (rest := [vi (b2i ((inB i 0 (z 3 - 1) && decide (0 ≤ wh)))), .ref mo]) hC (fun gh => kX7_in hl on 0 10000 (by omega) (by omega) (by omega) gh) gc_RX7_81 rfl ⟨by decide, by decide⟩ (Nat.le_of_ble_eq_true rfl) rfl dX7_spelled_23 (fun r hp => ?_)
    subst hp
    refine m_iconst hC dX7_spelled_26 rfl ?_
    refine m_callV (rest := []) hC (kX7_goes hl (inB i 0 (z 3 - 1) && decide (0 ≤ wh)) (inB on 0 10000) true) gc_RX7_91 rfl rfl ⟨by decide, by decide⟩ (Nat.le_of_ble_eq_true rfl) rfl dX7_spelled_27 (fun r z' F' hp => ?_)
    obtain ⟨rfl, hz, hF⟩ := hp
    rw [hz, hF]
    clear hz hF
    refine gVM.eqs (st' := [vi (b2i (((inB i 0 (z 3 - 1) && decide (0 ≤ wh)) && (inB on 0 10000) && true)))]) rfl rfl rfl rfl ?_
    refine m_ifne_b (tgt := 36) hC dX7_spelled_30 (by decide)  (fun hg => ?_) (fun hg => ?_)
    · have hg2 := hg
      simp only [Bool.and_eq_true, Bool.and_true, decide_eq_true_eq, inB_iff] at hg2
      obtain ⟨k, rfl⟩ : ∃ k : Nat, i = (k : Int) := ⟨i.toNat, by omega⟩
      have hk : k < 14 := by omega
      refine m_ald_n hC dX7_spelled_36 rfl ?_
      refine m_iload_n hC dX7_spelled_37 rfl ?_
      refine m_iload_n hC dX7_spelled_38 rfl ?_
      have hI2 : mI (gup z 27 (goesN (inB (k : Int) 0 (z 3 - 1) && decide (0 ≤ wh)) (inB on 0 10000) true)) F := hI
      refine m_callV (rest := []) hC (kX7_nameOn hl hI2 k hk on (by omega)) gc_RX7_106 rfl rfl ⟨by decide, by decide⟩ (Nat.le_of_ble_eq_true rfl) rfl dX7_spelled_39 (fun r z' F' hp => ?_)
      obtain ⟨rfl, hz, hF⟩ := hp
      rw [hz, hF]
      clear hz hF
      refine gVM.eqs (st' := [vi (nmOf F on k)]) rfl rfl rfl rfl ?_
      have hnm := nmOf_b hI (on := on) hk
      refine m_istore (lv' := [some (.ref mo), some (vi ((k : Int))), some (vi (on)), some (vi (wh)), some (vi (nmOf F on k))]) hC dX7_spelled_42 (by decide) rfl ?_
      refine m_iload hC dX7_spelled_44 rfl ?_
      refine m_iconst hC dX7_spelled_46 rfl ?_
      refine m_icmp_eq (tgt := 61) hC dX7_spelled_47 (by decide) (by omega) (by omega) (fun hn => ?_) (fun hn => ?_)
      · refine m_bipush (v := 32) hC dX7_spelled_61 rfl ?_
        refine m_goto (tgt := 78) hC dX7_spelled_63 (by decide) ?_
        exact m_cret hC hq (by decide) dX7_spelled_78 (by rw [if_pos hg]; exact ⟨by show _ = some (vi (spV F on wh k)); unfold spV; rw [if_pos hn], rfl, rfl⟩)
      · obtain ⟨j, hj1, hj2, hj3, hj4⟩ := (nmOf_rng hI (on := on) hk).resolve_left hn
        have hnj := inm k j hk hj2
        rw [← hj4] at hnj
        refine m_iload_n hC dX7_spelled_50 rfl ?_
        refine m_ald_n hC dX7_spelled_51 rfl ?_
        refine m_getA hC 9 dX7_spelled_52 gf_RX7_29 ⟨by decide, rfl⟩ ?_
        refine m_iload hC dX7_spelled_55 rfl ?_
        refine m_iald hC 9 ((nmOf F on k).toNat) dX7_spelled_57 ⟨by decide, rfl, rfl⟩ (by omega) (by simp only [mK]; omega) ?_
        refine m_icmp_lt (tgt := 66) hC dX7_spelled_58 (by decide) (by omega) (by omega) (fun hw => ?_) (fun hw => ?_)
        · have hlt := hnj.2.2.2.2 wh.toNat (by omega)
          rw [show 8 * (nmOf F on k).toNat + wh.toNat = (8 * nmOf F on k + wh).toNat by omega] at hlt
          refine m_ald_n hC dX7_spelled_66 rfl ?_
          refine m_getA hC 10 dX7_spelled_67 gf_RX7_32 ⟨by decide, rfl⟩ ?_
          refine m_bipush (v := 8) hC dX7_spelled_70 rfl ?_
          refine m_iload hC dX7_spelled_72 rfl ?_
          refine m_imul hC dX7_spelled_74 ?_
          refine m_iload_n hC dX7_spelled_75 rfl ?_
          refine m_iadd hC dX7_spelled_76 ?_
          refine m_cald hC 10 ((8 * nmOf F on k + wh).toNat) dX7_spelled_77 ⟨by decide, rfl, rfl⟩ (by omega) (by simp only [mK]; omega) ?_
          exact m_cret hC hq (by omega) dX7_spelled_78 (by rw [if_pos hg]; exact ⟨by show _ = some (vi (spV F on wh k)); unfold spV; rw [if_neg hn, if_neg (by omega)], rfl, rfl⟩)
        · refine m_bipush (v := 32) hC dX7_spelled_61 rfl ?_
          refine m_goto (tgt := 78) hC dX7_spelled_63 (by decide) ?_
          exact m_cret hC hq (by decide) dX7_spelled_78 (by rw [if_pos hg]; exact ⟨by show _ = some (vi (spV F on wh k)); unfold spV; rw [if_neg hn, if_pos hw], rfl, rfl⟩)
    · refine m_bipush (v := 32) hC dX7_spelled_33 rfl ?_
      exact m_cret hC hq (by decide) dX7_spelled_35 (by rw [if_neg (by rw [hg]; decide)]; exact ⟨rfl, rfl, rfl⟩)
  · refine m_ald_n hC dX7_spelled_1 rfl ?_
    refine m_iload_n hC dX7_spelled_2 rfl ?_
    refine m_callV (rest := [.ref mo]) hC (kX7_isPlace hl hI i (by omega)) gc_RX7_95 rfl rfl ⟨by decide, by decide⟩ (Nat.le_of_ble_eq_true rfl) rfl dX7_spelled_3 (fun r z' F' hp => ?_)
    obtain ⟨rfl, hz, hF⟩ := hp
    rw [hz, hF]
    clear hz hF
    refine gVM.eqs (st' := [vi (b2i (inB i 0 (z 3 - 1))), .ref mo]) rfl rfl rfl rfl ?_
    refine m_ifeq_b (tgt := 17) hC dX7_spelled_6 (by decide)  (fun c_6 => ?_) (fun c_6 => ?_)
    · refine m_iconst hC dX7_spelled_17 rfl ?_
      refine m_top (b := b2i ((inB i 0 (z 3 - 1) && decide (0 ≤ wh)))) (b2i_f (by simp [c_6])) ?_
      exact j_18
    · refine m_iload_n hC dX7_spelled_9 rfl ?_
      refine m_if_lt (tgt := 17) hC dX7_spelled_10 (by decide) (by omega) (fun c_10 => ?_) (fun c_10 => ?_)
      · refine m_iconst hC dX7_spelled_17 rfl ?_
        refine m_top (b := b2i ((inB i 0 (z 3 - 1) && decide (0 ≤ wh)))) (b2i_f (by simp [c_6, c_10])) ?_
        exact j_18
      · refine m_iconst hC dX7_spelled_13 rfl ?_
        refine m_goto (tgt := 18) hC dX7_spelled_14 (by decide) ?_
        refine m_top (b := b2i ((inB i 0 (z 3 - 1) && decide (0 ≤ wh)))) (b2i_t (by simp [c_6, c_10])) ?_
        exact j_18

set_option maxHeartbeats 4000000 in
set_option maxRecDepth 100000 in
theorem kX7_hasName {l : Launch} (hl : l.stackTraces = false) {D : gD} {base mo : Nat} {ad : Nat → Nat} {z : Nat → Int} {F : Nat → Nat → Int} (hI : mI z F) (i : Nat) (hi : i < 14) (hc : -1 ≤ F 15 i ∧ F 15 i ≤ 39) : mM l D base yX7_hasName cX7_hasName 2 (some Jvm.ClassFile.FieldType.boolean) 1 24 mo ad [vi ((i : Int))] z F (fun r z' F' => r = some (vi (b2i (decide (F 15 i ≠ -1) && decide (nmOf F (z 0) i ≠ -1)))) ∧ z' = z ∧ F' = F) := by
  obtain ⟨i0, i1, i3, i11, i22, iw, ip, inn, inm, ish⟩ := id hI
  refine mM.of hl (by decide) (by simp [Value.category]) (Nat.le_of_ble_eq_true rfl) [some (.ref mo), some (vi ((i : Int)))] rfl (fun gh x hC hq => ?_)
  refine m_ald_n hC dX7_hasName_0 rfl ?_
  refine m_getA hC 15 dX7_hasName_1 gf_RX7_44 ⟨by decide, rfl⟩ ?_
  refine m_iload_n hC dX7_hasName_4 rfl ?_
  refine m_iald hC 15 (i) dX7_hasName_5 ⟨by decide, rfl, rfl⟩ (by omega) (by simp only [mK]; omega) ?_
  refine m_iconst hC dX7_hasName_6 rfl ?_
  refine m_icmp_eq (tgt := 27) hC dX7_hasName_7 (by decide) (by omega) (by omega) (fun c_7 => ?_) (fun c_7 => ?_)
  · refine m_iconst hC dX7_hasName_27 rfl ?_
    refine m_top (b := b2i (decide (F 15 i ≠ -1) && decide (nmOf F (z 0) i ≠ -1))) (b2i_f (by simp [c_7])) ?_
    exact m_bret hC hq dX7_hasName_28 ⟨rfl, rfl, rfl⟩
  · refine m_ald_n hC dX7_hasName_10 rfl ?_
    refine m_iload_n hC dX7_hasName_11 rfl ?_
    refine m_ald_n hC dX7_hasName_12 rfl ?_
    refine m_getI hC 0 dX7_hasName_13 gf_RX7_103 ⟨by decide, rfl⟩ ?_
    refine m_callV (rest := []) hC (kX7_nameOn hl hI i hi (z 0) (by omega)) gc_RX7_106 rfl rfl ⟨by decide, by decide⟩ (Nat.le_of_ble_eq_true rfl) rfl dX7_hasName_16 (fun r z' F' hp => ?_)
    obtain ⟨rfl, hz, hF⟩ := hp
    rw [hz, hF]
    clear hz hF
    refine gVM.eqs (st' := [vi (nmOf F (z 0) i)]) rfl rfl rfl rfl ?_
    have hnm := nmOf_b hI (on := z 0) hi
    refine m_iconst hC dX7_hasName_19 rfl ?_
    refine m_icmp_eq (tgt := 27) hC dX7_hasName_20 (by decide) (by omega) (by omega) (fun c_20 => ?_) (fun c_20 => ?_)
    · refine m_iconst hC dX7_hasName_27 rfl ?_
      refine m_top (b := b2i (decide (F 15 i ≠ -1) && decide (nmOf F (z 0) i ≠ -1))) (b2i_f (by simp [c_7, c_20])) ?_
      exact m_bret hC hq dX7_hasName_28 ⟨rfl, rfl, rfl⟩
    · refine m_iconst hC dX7_hasName_23 rfl ?_
      refine m_goto (tgt := 28) hC dX7_hasName_24 (by decide) ?_
      refine m_top (b := b2i (decide (F 15 i ≠ -1) && decide (nmOf F (z 0) i ≠ -1))) (b2i_t (by simp [c_7, c_20])) ?_
      exact m_bret hC hq dX7_hasName_28 ⟨rfl, rfl, rfl⟩

def dotV (F : Nat → Nat → Int) (s i : Nat) (b : Bool) : Int := if qOn F s i = true then (if b = true then qRow F s i else qCol F s i) else -1
set_option maxHeartbeats 4000000 in
set_option maxRecDepth 100000 in
theorem kX7_dot {l : Launch} (hl : l.stackTraces = false) {D : gD} {base mo : Nat} {ad : Nat → Nat} {z : Nat → Int} {F : Nat → Nat → Int} (hI : mI z F) (s p : Int) (b : Bool) (rs : -2147483648 ≤ s ∧ s < 2147483648) (rp : -2147483648 ≤ p ∧ p < 2147483648) : mM l D base yX7_dot cX7_dot 4 (some Jvm.ClassFile.FieldType.int) 2 44 mo ad [vi (s), vi (p), vi (b2i (b))] z F (fun r z' F' => if (((inB s 0 (z 11 - 1) && inB p 0 (z 3 - 1))) && (true) && true) = true then r = some (vi (dotV F s.toNat p.toNat b)) ∧ z' = gup z 27 (goesN (inB s 0 (z 11 - 1) && inB p 0 (z 3 - 1)) true true) ∧ F' = F else r = some (vi 0) ∧ z' = gup z 27 (goesN ((inB s 0 (z 11 - 1) && inB p 0 (z 3 - 1))) (true) true) ∧ F' = F) := by
  obtain ⟨i0, i1, i3, i11, i22, iw, ip, inn, inm, ish⟩ := id hI
  refine mM.of hl (by decide) (by simp [Value.category]) (Nat.le_of_ble_eq_true rfl) [some (.ref mo), some (vi (s)), some (vi (p)), some (vi (b2i (b)))] rfl (fun gh x hC hq => ?_)
  refine m_ald_n hC dX7_dot_0 rfl ?_
  refine g_cut (A := gVM x D base 4 mo ad gh 22 [some (.ref mo), some (vi (s)), some (vi (p)), some (vi (b2i (b)))] [vi (b2i ((inB s 0 (z 11 - 1) && inB p 0 (z 3 - 1)))), .ref mo] (z) (F)) ?_ (fun j_22 => ?_)
  · refine m_iconst hC dX7_dot_22 rfl ?_
    refine m_iconst hC dX7_dot_23 rfl ?_
    refine m_callV (rest := []) hC (kX7_goes hl (inB s 0 (z 11 - 1) && inB p 0 (z 3 - 1)) true true) gc_RX7_91 rfl rfl ⟨by decide, by decide⟩ (Nat.le_of_ble_eq_true rfl) rfl dX7_dot_24 (fun r z' F' hp => ?_)
    obtain ⟨rfl, hz, hF⟩ := hp
    rw [hz, hF]
    clear hz hF
    refine gVM.eqs (st' := [vi (b2i (((inB s 0 (z 11 - 1) && inB p 0 (z 3 - 1)) && true && true)))]) rfl rfl rfl rfl ?_
    refine m_ifne_b (tgt := 32) hC dX7_dot_27 (by decide)  (fun hg => ?_) (fun hg => ?_)
    · have hg2 := hg
      simp only [Bool.and_eq_true, Bool.and_true, decide_eq_true_eq, inB_iff] at hg2
      obtain ⟨sn, rfl⟩ : ∃ sn : Nat, s = (sn : Int) := ⟨s.toNat, by omega⟩
      obtain ⟨pn, rfl⟩ : ∃ pn : Nat, p = (pn : Int) := ⟨p.toNat, by omega⟩
      have hs9 : (sn : Int) < z 11 := by omega
      have hp9 : (pn : Int) < z 3 := by omega
      have hI2 : mI (gup z 27 (goesN (inB (sn : Int) 0 (z 11 - 1) && inB (pn : Int) 0 (z 3 - 1)) true true)) F := hI
      refine m_ald_n hC dX7_dot_32 rfl ?_
      refine m_iload_n hC dX7_dot_33 rfl ?_
      refine m_iload_n hC dX7_dot_34 rfl ?_
      refine m_callV (rest := []) hC (kX7_isOn hl hI2 sn pn hs9 hp9) gc_RX7_114 rfl rfl ⟨by decide, by decide⟩ (Nat.le_of_ble_eq_true rfl) rfl dX7_dot_35 (fun r z' F' hp => ?_)
      obtain ⟨rfl, hz, hF⟩ := hp
      rw [hz, hF]
      clear hz hF
      refine gVM.eqs (st' := [vi (b2i (qOn F sn pn))]) rfl rfl rfl rfl ?_
      refine m_ifne_b (tgt := 45) hC dX7_dot_38 (by decide)  (fun ho => ?_) (fun ho => ?_)
      · refine m_iload_n hC dX7_dot_45 rfl ?_
        refine m_ifeq_b (tgt := 58) hC dX7_dot_46 (by decide)  (fun hb => ?_) (fun hb => ?_)
        · refine m_ald_n hC dX7_dot_58 rfl ?_
          refine m_iload_n hC dX7_dot_59 rfl ?_
          refine m_iload_n hC dX7_dot_60 rfl ?_
          refine m_callV (rest := []) hC (kX7_columnOf hl hI2 sn pn hs9 hp9 ho) gc_RX7_118 rfl rfl ⟨by decide, by decide⟩ (Nat.le_of_ble_eq_true rfl) rfl dX7_dot_61 (fun r z' F' hp => ?_)
          obtain ⟨rfl, hz, hF⟩ := hp
          rw [hz, hF]
          clear hz hF
          refine gVM.eqs (st' := [vi (qCol F sn pn)]) rfl rfl rfl rfl ?_
          exact m_iret hC hq dX7_dot_64 (by rw [if_pos hg]; exact ⟨by show _ = some (vi (dotV F sn pn b)); unfold dotV; rw [if_pos ho, if_neg (by rw [hb]; decide)], rfl, rfl⟩)
        · refine m_ald_n hC dX7_dot_49 rfl ?_
          refine m_iload_n hC dX7_dot_50 rfl ?_
          refine m_iload_n hC dX7_dot_51 rfl ?_
          refine m_callV (rest := []) hC (kX7_rowOf hl hI2 sn pn hs9 hp9 ho) gc_RX7_121 rfl rfl ⟨by decide, by decide⟩ (Nat.le_of_ble_eq_true rfl) rfl dX7_dot_52 (fun r z' F' hp => ?_)
          obtain ⟨rfl, hz, hF⟩ := hp
          rw [hz, hF]
          clear hz hF
          refine gVM.eqs (st' := [vi (qRow F sn pn)]) rfl rfl rfl rfl ?_
          refine m_goto (tgt := 64) hC dX7_dot_55 (by decide) ?_
          exact m_iret hC hq dX7_dot_64 (by rw [if_pos hg]; exact ⟨by show _ = some (vi (dotV F sn pn b)); unfold dotV; rw [if_pos ho, if_pos hb], rfl, rfl⟩)
      · refine m_iconst hC dX7_dot_41 rfl ?_
        refine m_goto (tgt := 64) hC dX7_dot_42 (by decide) ?_
        exact m_iret hC hq dX7_dot_64 (by rw [if_pos hg]; exact ⟨by show _ = some (vi (dotV F sn pn b)); unfold dotV; rw [if_neg (by rw [ho]; decide)], rfl, rfl⟩)
    · refine m_iconst hC dX7_dot_30 rfl ?_
      exact m_iret hC hq dX7_dot_31 (by rw [if_neg (by rw [hg]; decide)]; exact ⟨rfl, rfl, rfl⟩)
  · refine m_ald_n hC dX7_dot_1 rfl ?_
    refine m_iload_n hC dX7_dot_2 rfl ?_
    refine m_callV (rest := [.ref mo]) hC (kX7_isSheet hl hI s (by omega)) gc_RX7_145 rfl rfl ⟨by decide, by decide⟩ (Nat.le_of_ble_eq_true rfl) rfl dX7_dot_3 (fun r z' F' hp => ?_)
    obtain ⟨rfl, hz, hF⟩ := hp
    rw [hz, hF]
    clear hz hF
    refine gVM.eqs (st' := [vi (b2i (inB s 0 (z 11 - 1))), .ref mo]) rfl rfl rfl rfl ?_
    refine m_ifeq_b (tgt := 21) hC dX7_dot_6 (by decide)  (fun c_6 => ?_) (fun c_6 => ?_)
    · refine m_iconst hC dX7_dot_21 rfl ?_
      refine m_top (b := b2i ((inB s 0 (z 11 - 1) && inB p 0 (z 3 - 1)))) (b2i_f (by simp [c_6])) ?_
      exact j_22
    · refine m_ald_n hC dX7_dot_9 rfl ?_
      refine m_iload_n hC dX7_dot_10 rfl ?_
      refine m_callV (rest := [.ref mo]) hC (kX7_isPlace hl hI p (by omega)) gc_RX7_95 rfl rfl ⟨by decide, by decide⟩ (Nat.le_of_ble_eq_true rfl) rfl dX7_dot_11 (fun r z' F' hp => ?_)
      obtain ⟨rfl, hz, hF⟩ := hp
      rw [hz, hF]
      clear hz hF
      refine gVM.eqs (st' := [vi (b2i (inB p 0 (z 3 - 1))), .ref mo]) rfl rfl rfl rfl ?_
      refine m_ifeq_b (tgt := 21) hC dX7_dot_14 (by decide)  (fun c_14 => ?_) (fun c_14 => ?_)
      · refine m_iconst hC dX7_dot_21 rfl ?_
        refine m_top (b := b2i ((inB s 0 (z 11 - 1) && inB p 0 (z 3 - 1)))) (b2i_f (by simp [c_6, c_14])) ?_
        exact j_22
      · refine m_iconst hC dX7_dot_17 rfl ?_
        refine m_goto (tgt := 22) hC dX7_dot_18 (by decide) ?_
        refine m_top (b := b2i ((inB s 0 (z 11 - 1) && inB p 0 (z 3 - 1)))) (b2i_t (by simp [c_6, c_14])) ?_
        exact j_22

end M3
