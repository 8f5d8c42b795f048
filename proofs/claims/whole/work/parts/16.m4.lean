/-! the reference: dots, mayStand, puts, takes -/
section M4
theorem upto_all {α : Type} {f g : Nat → α} {n : Nat} : ∀ j, j < n → upto f g n j = f j := fun j h => upto_lt h
set_option maxHeartbeats 4000000 in
set_option maxRecDepth 100000 in
theorem kX7_dots {l : Launch} (hl : l.stackTraces = false) {D : gD} {base mo : Nat} {ad : Nat → Nat} {z : Nat → Int} {F : Nat → Nat → Int} (hI : mI z F) (s u : Nat) (hs : (s : Int) < z 11) (hu : (u : Int) ≤ z 3) : mM l D base yX7_dots cX7_dots 4 none 2 44 mo ad [vi ((s : Int)), vi ((u : Int))] z F (fun r z' F' => r = none ∧ z' = z ∧ F' = F4 F (upto (cN F s) (F 15) u) (upto (rN F s) (F 16) u) (upto (fun _ => -1) (F 17) u) (dotP F s u)) := by
  obtain ⟨i0, i1, i3, i11, i22, iw, ip, inn, inm, ish⟩ := id hI
  refine mM.of hl (by decide) (by simp [Value.category]) (Nat.le_of_ble_eq_true rfl) [some (.ref mo), some (vi ((s : Int))), some (vi ((u : Int))), none] rfl (fun gh x hC hq => ?_)
  refine gVM.eqs (F' := F4 F (F 15) (F 16) (F 17) (F 18)) rfl rfl rfl (F4_self F).symm ?_
  refine m_iconst hC dX7_dots_0 rfl ?_
  refine m_istore_n (lv' := [some (.ref mo), some (vi ((s : Int))), some (vi ((u : Int))), some (vi (0))]) hC dX7_dots_1 (by decide) rfl ?_
  have lp : ∀ n : Nat, n ≤ 960 → gVM x D base 4 mo ad gh 2 [some (.ref mo), some (vi ((s : Int))), some (vi ((u : Int))), some (vi (((n : Nat) : Int)))] [] (z) (F4 F (F 15) (F 16) (F 17) (upto (fun _ => 46) (F 18) n)) := by
    refine g_for _ (fun n hn ih => ?_) ?_
    · refine m_iload_n hC dX7_dots_2 rfl ?_
      refine m_sipush (v := 960) hC dX7_dots_3 rfl ?_
      refine m_icmp_ge (tgt := 23) hC dX7_dots_6 (by decide) (by omega) (by omega) (fun c_6 => False.elim (by omega)) (fun c_6 => ?_)
      refine m_ald_n hC dX7_dots_9 rfl ?_
      refine m_getA hC 18 dX7_dots_10 gf_RX7_53 ⟨by decide, rfl⟩ ?_
      refine m_iload_n hC dX7_dots_13 rfl ?_
      refine m_bipush (v := 46) hC dX7_dots_14 rfl ?_
      refine m_cast hC 18 (n) dX7_dots_16 ⟨by decide, rfl, rfl⟩ rfl (by simp only [mK]; exact hn) (by omega) ?_
      refine gVM.eqs (F' := F4 F (F 15) (F 16) (F 17) (gup (upto (fun _ => 46) (F 18) n) (n) (46))) rfl rfl rfl (F4_18 _ _ _ _ _ _) ?_
      refine m_iinc (lv' := [some (.ref mo), some (vi ((s : Int))), some (vi ((u : Int))), some (vi (((n : Nat) : Int) + 1))]) hC dX7_dots_17 (by decide) rfl rfl ?_
      refine m_goto (tgt := 2) hC dX7_dots_20 (by decide) ?_
      rw [upto_s (fun _ => (46 : Int)) (F 18) n rfl]
      refine gVM.eqs (lv' := [some (.ref mo), some (vi ((s : Int))), some (vi ((u : Int))), some (vi (((n + 1 : Nat) : Int)))]) (lcons rfl (lcons rfl (lcons rfl (lcons (svi (by omega)) rfl)))) rfl rfl rfl ih
    · refine m_iload_n hC dX7_dots_2 rfl ?_
      refine m_sipush (v := 960) hC dX7_dots_3 rfl ?_
      refine m_icmp_ge (tgt := 23) hC dX7_dots_6 (by decide) (by omega) (by omega) (fun c_6 => ?_) (fun c_6 => False.elim (by omega))
      refine m_iconst hC dX7_dots_23 rfl ?_
      refine m_istore_n (lv' := [some (.ref mo), some (vi ((s : Int))), some (vi ((u : Int))), some (vi (0))]) hC dX7_dots_24 (by decide) rfl ?_
      refine gVM.canon 18 (dotP F s 0) ⟨by decide, rfl⟩ (fun j hj => (upto_lt hj : upto (fun _ => (46 : Int)) (F 18) 960 j = 46)) ?_
      refine gVM.eqs (F' := F4 F (F 15) (F 16) (F 17) (dotP F s 0)) rfl rfl rfl (F4_18 _ _ _ _ _ _) ?_
      have lp2 : ∀ k : Nat, k ≤ u → gVM x D base 4 mo ad gh 25 [some (.ref mo), some (vi ((s : Int))), some (vi ((u : Int))), some (vi (((k : Nat) : Int)))] [] (z) (F4 F (upto (cN F s) (F 15) (k)) (upto (rN F s) (F 16) (k)) (upto (fun _ => -1) (F 17) (k)) (dotP F s (k))) := by
        refine g_for _ (fun k hk ih2 => ?_) ?_
        · have hp := ip k (by omega)
          have hsh := ish s hs
          have hI4 : mI z (F4 F (upto (cN F s) (F 15) k) (upto (rN F s) (F 16) k) (upto (fun _ => -1) (F 17) k) (dotP F s k)) := hI
          refine m_iload_n hC dX7_dots_25 rfl ?_
          refine m_iload_n hC dX7_dots_26 rfl ?_
          refine m_icmp_ge (tgt := 126) hC dX7_dots_27 (by decide) (by omega) (by omega) (fun c_27 => False.elim (by omega)) (fun c_27 => ?_)
          refine m_ald_n hC dX7_dots_30 rfl ?_
          refine m_getA hC 15 dX7_dots_31 gf_RX7_44 ⟨by decide, rfl⟩ ?_
          refine m_iload_n hC dX7_dots_34 rfl ?_
          refine m_ald_n hC dX7_dots_35 rfl ?_
          refine m_iload_n hC dX7_dots_36 rfl ?_
          refine m_iload_n hC dX7_dots_37 rfl ?_
          refine m_callV (rest := [vi (((k : Nat) : Int)), .ref (ad 15)]) hC (kX7_isOn hl hI4 s k hs (by omega)) gc_RX7_114 rfl rfl ⟨by decide, by decide⟩ (Nat.le_of_ble_eq_true rfl) rfl dX7_dots_38 (fun r z' F' hp => ?_)
          obtain ⟨rfl, hz, hF⟩ := hp
          rw [hz, hF]
          clear hz hF
          refine gVM.eqs (st' := [vi (b2i (qOn F s k)), vi (((k : Nat) : Int)), .ref (ad 15)]) rfl rfl rfl rfl ?_
          refine m_ifeq_b (tgt := 53) hC dX7_dots_41 (by decide)  (fun ho => ?_) (fun ho => ?_)
          · have hno : ¬ qOn F s k = true := by rw [ho]; decide
            have ec : (-1 : Int) = cN F s k := by unfold cN; rw [if_neg hno]
            have er : (-1 : Int) = rN F s k := by unfold rN; rw [if_neg hno]
            refine m_iconst hC dX7_dots_53 rfl ?_
            refine m_iast hC 15 (k) dX7_dots_54 ⟨by decide, rfl, rfl⟩ rfl (by simp only [mK]; omega) ?_
            refine gVM.eqs (F' := F4 F (gup (upto (cN F s) (F 15) (k)) (k) ((-1))) (upto (rN F s) (F 16) (k)) (upto (fun _ => -1) (F 17) (k)) (dotP F s (k))) rfl rfl rfl (F4_15 _ _ _ _ _ _) ?_
            rw [upto_s (cN F s) (F 15) k ec]
            refine m_ald_n hC dX7_dots_55 rfl ?_
            refine m_getA hC 16 dX7_dots_56 gf_RX7_47 ⟨by decide, rfl⟩ ?_
            refine m_iload_n hC dX7_dots_59 rfl ?_
            refine m_ald_n hC dX7_dots_60 rfl ?_
            refine m_iload_n hC dX7_dots_61 rfl ?_
            refine m_iload_n hC dX7_dots_62 rfl ?_
            have hI5 : mI z (F4 F (upto (cN F s) (F 15) (k + 1)) (upto (rN F s) (F 16) (k)) (upto (fun _ => -1) (F 17) (k)) (dotP F s (k))) := hI
            refine m_callV (rest := [vi (((k : Nat) : Int)), .ref (ad 16)]) hC (kX7_isOn hl hI5 s k hs (by omega)) gc_RX7_114 rfl rfl ⟨by decide, by decide⟩ (Nat.le_of_ble_eq_true rfl) rfl dX7_dots_63 (fun r z' F' hp => ?_)
            obtain ⟨rfl, hz, hF⟩ := hp
            rw [hz, hF]
            clear hz hF
            refine gVM.eqs (st' := [vi (b2i (qOn F s k)), vi (((k : Nat) : Int)), .ref (ad 16)]) rfl rfl rfl rfl ?_
            rw [ho]
            refine m_ifeq_b (tgt := 78) hC dX7_dots_66 (by decide) (fun _ => ?_) (fun h => by cases h)
            refine m_iconst hC dX7_dots_78 rfl ?_
            refine m_iast hC 16 (k) dX7_dots_79 ⟨by decide, rfl, rfl⟩ rfl (by simp only [mK]; omega) ?_
            refine gVM.eqs (F' := F4 F (upto (cN F s) (F 15) (k + 1)) (gup (upto (rN F s) (F 16) (k)) (k) ((-1))) (upto (fun _ => -1) (F 17) (k)) (dotP F s (k))) rfl rfl rfl (F4_16 _ _ _ _ _ _) ?_
            rw [upto_s (rN F s) (F 16) k er]
            refine m_ald_n hC dX7_dots_80 rfl ?_
            refine m_getA hC 17 dX7_dots_81 gf_RX7_50 ⟨by decide, rfl⟩ ?_
            refine m_iload_n hC dX7_dots_84 rfl ?_
            refine m_iconst hC dX7_dots_85 rfl ?_
            refine m_iast hC 17 (k) dX7_dots_86 ⟨by decide, rfl, rfl⟩ rfl (by simp only [mK]; omega) ?_
            refine gVM.eqs (F' := F4 F (upto (cN F s) (F 15) (k + 1)) (upto (rN F s) (F 16) (k + 1)) (gup (upto (fun _ => -1) (F 17) (k)) (k) ((-1))) (dotP F s (k))) rfl rfl rfl (F4_17 _ _ _ _ _ _) ?_
            rw [upto_s (fun _ => (-1 : Int)) (F 17) k rfl]
            refine m_ald_n hC dX7_dots_87 rfl ?_
            refine m_getA hC 15 dX7_dots_88 gf_RX7_44 ⟨by decide, rfl⟩ ?_
            refine m_iload_n hC dX7_dots_91 rfl ?_
            refine m_iald hC 15 (k) dX7_dots_92 ⟨by decide, rfl, rfl⟩ rfl (by simp only [mK]; omega) ?_
            refine m_top (b := (upto (cN F s) (F 15) (k + 1)) (k)) rfl ?_
            rw [upto_lt (show k < k + 1 by omega), ← ec]
            refine m_iconst hC dX7_dots_93 rfl ?_
            refine m_icmp_eq (tgt := 120) hC dX7_dots_94 (by decide) (by omega) (by omega) (fun c_94 => ?_) (fun c_94 => False.elim (by omega))
            have ed : dotP F s k = dotP F s (k + 1) := by conv => rhs; (unfold dotP; rw [if_neg hno])
            rw [ed]
            refine m_iinc (lv' := [some (.ref mo), some (vi ((s : Int))), some (vi ((u : Int))), some (vi (((k : Nat) : Int) + 1))]) hC dX7_dots_120 (by decide) rfl rfl ?_
            refine m_goto (tgt := 25) hC dX7_dots_123 (by decide) ?_
            refine gVM.eqs (lv' := [some (.ref mo), some (vi ((s : Int))), some (vi ((u : Int))), some (vi (((k + 1 : Nat) : Int)))]) (lcons rfl (lcons rfl (lcons rfl (lcons (svi (by omega)) rfl)))) rfl rfl rfl ih2
          · have hc := qCol_rng ho
            have hr := qRow_rng ho
            have ec : qCol F s k = cN F s k := by unfold cN; rw [if_pos ho]
            have er : qRow F s k = rN F s k := by unfold rN; rw [if_pos ho]
            refine m_ald_n hC dX7_dots_44 rfl ?_
            refine m_iload_n hC dX7_dots_45 rfl ?_
            refine m_iload_n hC dX7_dots_46 rfl ?_
            refine m_callV (rest := [vi (((k : Nat) : Int)), .ref (ad 15)]) hC (kX7_columnOf hl hI4 s k hs (by omega) ho) gc_RX7_118 rfl rfl ⟨by decide, by decide⟩ (Nat.le_of_ble_eq_true rfl) rfl dX7_dots_47 (fun r z' F' hp => ?_)
            obtain ⟨rfl, hz, hF⟩ := hp
            rw [hz, hF]
            clear hz hF
            refine gVM.eqs (st' := [vi (qCol F s k), vi (((k : Nat) : Int)), .ref (ad 15)]) rfl rfl rfl rfl ?_
            refine m_goto (tgt := 54) hC dX7_dots_50 (by decide) ?_
            refine m_iast hC 15 (k) dX7_dots_54 ⟨by decide, rfl, rfl⟩ rfl (by simp only [mK]; omega) ?_
            refine gVM.eqs (F' := F4 F (gup (upto (cN F s) (F 15) (k)) (k) (qCol F s k)) (upto (rN F s) (F 16) (k)) (upto (fun _ => -1) (F 17) (k)) (dotP F s (k))) rfl rfl rfl (F4_15 _ _ _ _ _ _) ?_
            rw [upto_s (cN F s) (F 15) k ec]
            refine m_ald_n hC dX7_dots_55 rfl ?_
            refine m_getA hC 16 dX7_dots_56 gf_RX7_47 ⟨by decide, rfl⟩ ?_
            refine m_iload_n hC dX7_dots_59 rfl ?_
            refine m_ald_n hC dX7_dots_60 rfl ?_
            refine m_iload_n hC dX7_dots_61 rfl ?_
            refine m_iload_n hC dX7_dots_62 rfl ?_
            have hI5 : mI z (F4 F (upto (cN F s) (F 15) (k + 1)) (upto (rN F s) (F 16) (k)) (upto (fun _ => -1) (F 17) (k)) (dotP F s (k))) := hI
            refine m_callV (rest := [vi (((k : Nat) : Int)), .ref (ad 16)]) hC (kX7_isOn hl hI5 s k hs (by omega)) gc_RX7_114 rfl rfl ⟨by decide, by decide⟩ (Nat.le_of_ble_eq_true rfl) rfl dX7_dots_63 (fun r z' F' hp => ?_)
            obtain ⟨rfl, hz, hF⟩ := hp
            rw [hz, hF]
            clear hz hF
            refine gVM.eqs (st' := [vi (b2i (qOn F s k)), vi (((k : Nat) : Int)), .ref (ad 16)]) rfl rfl rfl rfl ?_
            rw [ho]
            refine m_ifeq_b (tgt := 78) hC dX7_dots_66 (by decide) (fun h => by cases h) (fun _ => ?_)
            refine m_ald_n hC dX7_dots_69 rfl ?_
            refine m_iload_n hC dX7_dots_70 rfl ?_
            refine m_iload_n hC dX7_dots_71 rfl ?_
            refine m_callV (rest := [vi (((k : Nat) : Int)), .ref (ad 16)]) hC (kX7_rowOf hl hI5 s k hs (by omega) ho) gc_RX7_121 rfl rfl ⟨by decide, by decide⟩ (Nat.le_of_ble_eq_true rfl) rfl dX7_dots_72 (fun r z' F' hp => ?_)
            obtain ⟨rfl, hz, hF⟩ := hp
            rw [hz, hF]
            clear hz hF
            refine gVM.eqs (st' := [vi (qRow F s k), vi (((k : Nat) : Int)), .ref (ad 16)]) rfl rfl rfl rfl ?_
            refine m_goto (tgt := 79) hC dX7_dots_75 (by decide) ?_
            refine m_iast hC 16 (k) dX7_dots_79 ⟨by decide, rfl, rfl⟩ rfl (by simp only [mK]; omega) ?_
            refine gVM.eqs (F' := F4 F (upto (cN F s) (F 15) (k + 1)) (gup (upto (rN F s) (F 16) (k)) (k) (qRow F s k)) (upto (fun _ => -1) (F 17) (k)) (dotP F s (k))) rfl rfl rfl (F4_16 _ _ _ _ _ _) ?_
            rw [upto_s (rN F s) (F 16) k er]
            refine m_ald_n hC dX7_dots_80 rfl ?_
            refine m_getA hC 17 dX7_dots_81 gf_RX7_50 ⟨by decide, rfl⟩ ?_
            refine m_iload_n hC dX7_dots_84 rfl ?_
            refine m_iconst hC dX7_dots_85 rfl ?_
            refine m_iast hC 17 (k) dX7_dots_86 ⟨by decide, rfl, rfl⟩ rfl (by simp only [mK]; omega) ?_
            refine gVM.eqs (F' := F4 F (upto (cN F s) (F 15) (k + 1)) (upto (rN F s) (F 16) (k + 1)) (gup (upto (fun _ => -1) (F 17) (k)) (k) ((-1))) (dotP F s (k))) rfl rfl rfl (F4_17 _ _ _ _ _ _) ?_
            rw [upto_s (fun _ => (-1 : Int)) (F 17) k rfl]
            refine m_ald_n hC dX7_dots_87 rfl ?_
            refine m_getA hC 15 dX7_dots_88 gf_RX7_44 ⟨by decide, rfl⟩ ?_
            refine m_iload_n hC dX7_dots_91 rfl ?_
            refine m_iald hC 15 (k) dX7_dots_92 ⟨by decide, rfl, rfl⟩ rfl (by simp only [mK]; omega) ?_
            refine m_top (b := (upto (cN F s) (F 15) (k + 1)) (k)) rfl ?_
            rw [upto_lt (show k < k + 1 by omega), ← ec]
            refine m_iconst hC dX7_dots_93 rfl ?_
            refine m_icmp_eq (tgt := 120) hC dX7_dots_94 (by decide) (by omega) (by omega) (fun c_94 => False.elim (by omega)) (fun c_94 => ?_)
            refine m_ald_n hC dX7_dots_97 rfl ?_
            refine m_getA hC 18 dX7_dots_98 gf_RX7_53 ⟨by decide, rfl⟩ ?_
            refine m_bipush (v := 40) hC dX7_dots_101 rfl ?_
            refine m_ald_n hC dX7_dots_103 rfl ?_
            refine m_getA hC 16 dX7_dots_104 gf_RX7_47 ⟨by decide, rfl⟩ ?_
            refine m_iload_n hC dX7_dots_107 rfl ?_
            refine m_iald hC 16 (k) dX7_dots_108 ⟨by decide, rfl, rfl⟩ rfl (by simp only [mK]; omega) ?_
            refine m_top (b := (upto (rN F s) (F 16) (k + 1)) (k)) rfl ?_
            rw [upto_lt (show k < k + 1 by omega), ← er]
            refine m_imul hC dX7_dots_109 ?_
            refine m_ald_n hC dX7_dots_110 rfl ?_
            refine m_getA hC 15 dX7_dots_111 gf_RX7_44 ⟨by decide, rfl⟩ ?_
            refine m_iload_n hC dX7_dots_114 rfl ?_
            refine m_iald hC 15 (k) dX7_dots_115 ⟨by decide, rfl, rfl⟩ rfl (by simp only [mK]; omega) ?_
            refine m_top (b := (upto (cN F s) (F 15) (k + 1)) (k)) rfl ?_
            rw [upto_lt (show k < k + 1 by omega), ← ec]
            refine m_iadd hC dX7_dots_116 ?_
            refine m_bipush (v := 42) hC dX7_dots_117 rfl ?_
            refine m_cast hC 18 ((40 * qRow F s k + qCol F s k).toNat) dX7_dots_119 ⟨by decide, rfl, rfl⟩ (by omega) (by simp only [mK]; omega) (by omega) ?_
            refine gVM.eqs (F' := F4 F (upto (cN F s) (F 15) (k + 1)) (upto (rN F s) (F 16) (k + 1)) (upto (fun _ => -1) (F 17) (k + 1)) (gup (dotP F s (k)) ((40 * qRow F s k + qCol F s k).toNat) (42))) rfl rfl rfl (F4_18 _ _ _ _ _ _) ?_
            rw [show gup (dotP F s k) (40 * qRow F s k + qCol F s k).toNat 42 = dotP F s (k + 1) by conv => rhs; unfold dotP; rw [if_pos ho]]
            refine m_iinc (lv' := [some (.ref mo), some (vi ((s : Int))), some (vi ((u : Int))), some (vi (((k : Nat) : Int) + 1))]) hC dX7_dots_120 (by decide) rfl rfl ?_
            refine m_goto (tgt := 25) hC dX7_dots_123 (by decide) ?_
            refine gVM.eqs (lv' := [some (.ref mo), some (vi ((s : Int))), some (vi ((u : Int))), some (vi (((k + 1 : Nat) : Int)))]) (lcons rfl (lcons rfl (lcons rfl (lcons (svi (by omega)) rfl)))) rfl rfl rfl ih2
        · refine m_iload_n hC dX7_dots_25 rfl ?_
          refine m_iload_n hC dX7_dots_26 rfl ?_
          refine m_icmp_ge (tgt := 126) hC dX7_dots_27 (by decide) (by omega) (by omega) (fun c_27 => ?_) (fun c_27 => False.elim (by omega))
          exact m_vret hC hq dX7_dots_126 ⟨rfl, rfl, rfl⟩
      refine gVM.eqs (lv' := [some (.ref mo), some (vi ((s : Int))), some (vi ((u : Int))), some (vi (((0 : Nat) : Int)))]) (F' := F4 F (upto (cN F s) (F 15) 0) (upto (rN F s) (F 16) 0) (upto (fun _ => -1) (F 17) 0) (dotP F s 0)) rfl rfl rfl (by rw [upto_0, upto_0, upto_0]) (lp2 0 (Nat.zero_le _))
  refine gVM.eqs (lv' := [some (.ref mo), some (vi ((s : Int))), some (vi ((u : Int))), some (vi (((0 : Nat) : Int)))]) (F' := F4 F (F 15) (F 16) (F 17) (upto (fun _ => 46) (F 18) 0)) rfl rfl rfl (by rw [upto_0]) (lp 0 (Nat.zero_le _))

end M4
