/-! the reference: print, printed -/
section M9
def pr25 (F : Nat → Nat → Int) (day : Int) (e : Nat) : Nat → (Nat → Int)
  | 0 => F 25
  | n + 1 => gup (pr25 F day e n) (14 * e + n) (nmOf F day n)
def pr26i (F : Nat → Nat → Int) (day : Int) (np e k : Nat) (X : Nat → Int) : Nat → (Nat → Int)
  | 0 => X
  | n + 1 => gup (pr26i F day np e k X n) (14 * (4 * e + k) + n) ((lay0 F k np day).1 n)
def pr26 (F : Nat → Nat → Int) (day : Int) (np e : Nat) : Nat → (Nat → Int)
  | 0 => F 26
  | k + 1 => pr26i F day np e k (pr26 F day np e k) np
/-- the rows with an edition printed -/
def prF (z : Nat → Int) (F : Nat → Nat → Int) : Nat → Nat → Int :=
  gup (gup (gup (gup F 23 (gup (F 23) (z 22).toNat (z 3))) 24 (gup (F 24) (z 22).toNat (z 11))) 25 (pr25 F (z 0) (z 22).toNat (z 3).toNat)) 26 (pr26 F (z 0) (z 3).toNat (z 22).toNat (z 11).toNat)
set_option maxHeartbeats 4000000 in
set_option maxRecDepth 100000 in
theorem kX7_print {l : Launch} (hl : l.stackTraces = false) {D : gD} {base mo : Nat} {ad : Nat → Nat} {z : Nat → Int} {F : Nat → Nat → Int} (hI : mI z F) : mM l D base yX7_print cX7_print 3 (some Jvm.ClassFile.FieldType.int) 4 92 mo ad [] z F (fun r z' F' => r = some (if ((decide (z 22 < 5)) && true && true) = true then vi (z 22) else vi 0) ∧ z' 27 = goesN (decide (z 22 < 5)) true true ∧ (if ((decide (z 22 < 5)) && true && true) = true then mSc (gup z 22 (z 22 + 1)) (prF z F) z' F' else mSc z F z' F')) := by
  obtain ⟨i0, i1, i3, i11, i22, iw, ip, inn, inm, ish⟩ := id hI
  refine mM.of hl (by decide) (by simp [Value.category]) (Nat.le_of_ble_eq_true rfl) [some (.ref mo), none, none] rfl (fun gh x hC hq => ?_)
  refine m_ald_n hC dX7_print_0 rfl ?_
  refine g_cut (A := gVM x D base 3 mo ad gh 14 [some (.ref mo), none, none] [vi (b2i (decide (z 22 < 5))), .ref mo] (z) (F)) ?_ (fun j_14 => ?_)
  · refine m_iconst hC dX7_print_14 rfl ?_
    refine m_iconst hC dX7_print_15 rfl ?_
    refine m_callV (rest := []) hC (kX7_goes hl (decide (z 22 < 5)) true true) gc_RX7_91 rfl rfl ⟨by decide, by decide⟩ (Nat.le_of_ble_eq_true rfl) rfl dX7_print_16 (fun r z' F' hp => ?_)
    obtain ⟨rfl, hz, hF⟩ := hp
    rw [hz, hF]
    clear hz hF
    refine gVM.eqs (st' := [vi (b2i (((decide (z 22 < 5)) && true && true)))]) rfl rfl rfl rfl ?_
    refine m_ifne_b (tgt := 24) hC dX7_print_19 (by decide)  (fun hg => ?_) (fun hg => ?_)
    · have hg2 := hg
      simp only [Bool.and_eq_true, Bool.and_true, decide_eq_true_eq] at hg2
      obtain ⟨zz, ezz⟩ : ∃ zz, zz = gup (z) 27 (goesN (decide (z 22 < 5)) true true) := ⟨_, rfl⟩
      rw [← ezz]
      have z27 : zz 27 = goesN (decide (z 22 < 5)) true true := by rw [ezz]; exact gup_eq
      have hz0 : zz 0 = z 0 := by rw [ezz]; rfl
      have hz1 : zz 1 = z 1 := by rw [ezz]; rfl
      have hz3 : zz 3 = z 3 := by rw [ezz]; rfl
      have hz11 : zz 11 = z 11 := by rw [ezz]; rfl
      have hz22 : zz 22 = z 22 := by rw [ezz]; rfl
      have hzz : ∀ k, k ≠ 27 → k ≠ 20 → zz k = z k := fun k h _ => by rw [ezz]; exact gup_ne h
      clear ezz
      obtain ⟨np, hnp⟩ : ∃ np : Nat, z 3 = (np : Int) := ⟨(z 3).toNat, by omega⟩
      obtain ⟨ns, hns⟩ : ∃ ns : Nat, z 11 = (ns : Int) := ⟨(z 11).toNat, by omega⟩
      obtain ⟨ne, hne⟩ : ∃ ne : Nat, z 22 = (ne : Int) := ⟨(z 22).toNat, by omega⟩
      have enp : (zz 3).toNat = np := by omega
      have hn14 : np ≤ 14 := by omega
      have hs4 : ns ≤ 4 := by omega
      have he5 : ne < 5 := by omega
      have hIz : mI zz F := mI_c lE.rf hzz hI
      refine m_ald_n hC dX7_print_24 rfl ?_
      refine m_getA hC 23 dX7_print_25 gf_RX7_62 ⟨by decide, rfl⟩ ?_
      refine m_ald_n hC dX7_print_28 rfl ?_
      refine m_getI hC 22 dX7_print_29 gf_RX7_164 ⟨by decide, rfl⟩ ?_
      refine m_ald_n hC dX7_print_32 rfl ?_
      refine m_getI hC 3 dX7_print_33 gf_RX7_78 ⟨by decide, rfl⟩ ?_
      refine m_iast hC 23 (ne) dX7_print_36 ⟨by decide, rfl, rfl⟩ (by omega) (by simp only [mK]; omega) ?_
      refine m_ald_n hC dX7_print_37 rfl ?_
      refine m_getA hC 24 dX7_print_38 gf_RX7_65 ⟨by decide, rfl⟩ ?_
      refine m_ald_n hC dX7_print_41 rfl ?_
      refine m_getI hC 22 dX7_print_42 gf_RX7_164 ⟨by decide, rfl⟩ ?_
      refine m_ald_n hC dX7_print_45 rfl ?_
      refine m_getI hC 11 dX7_print_46 gf_RX7_85 ⟨by decide, rfl⟩ ?_
      refine m_iast hC 24 (ne) dX7_print_49 ⟨by decide, rfl, rfl⟩ (by omega) (by simp only [mK]; omega) ?_
      refine m_iconst hC dX7_print_50 rfl ?_
      refine m_istore_n (lv' := [some (.ref mo), some (vi (0)), none]) hC dX7_print_51 (by decide) rfl ?_
      have lp : ∀ n : Nat, n ≤ np → gVM x D base 3 mo ad gh 52 [some (.ref mo), some (vi (((n : Nat) : Int))), none] [] zz (gup (gup (gup F 23 (gup (F 23) (ne) (zz 3))) 24 (gup (F 24) (ne) (zz 11))) 25 (pr25 F (z 0) ne n)) := by
        refine g_for _ (fun n hn ih => ?_) ?_
        · have hlE : lE F (gup (gup (gup F 23 (gup (F 23) (ne) (zz 3))) 24 (gup (F 24) (ne) (zz 11))) 25 (pr25 F (z 0) ne n)) := ((lE.rf.gup (by decide)).gup (by decide)).gup (by decide)
          refine m_iload_n hC dX7_print_52 rfl ?_
          refine m_ald_n hC dX7_print_53 rfl ?_
          refine m_getI hC 3 dX7_print_54 gf_RX7_78 ⟨by decide, rfl⟩ ?_
          refine m_icmp_ge (tgt := 89) hC dX7_print_57 (by decide) (by omega) (by omega) (fun c_57 => False.elim (by omega)) (fun c_57 => ?_)
          refine m_ald_n hC dX7_print_60 rfl ?_
          refine m_getA hC 25 dX7_print_61 gf_RX7_68 ⟨by decide, rfl⟩ ?_
          refine m_bipush (v := 14) hC dX7_print_64 rfl ?_
          refine m_ald_n hC dX7_print_66 rfl ?_
          refine m_getI hC 22 dX7_print_67 gf_RX7_164 ⟨by decide, rfl⟩ ?_
          refine m_imul hC dX7_print_70 ?_
          refine m_iload_n hC dX7_print_71 rfl ?_
          refine m_iadd hC dX7_print_72 ?_
          refine m_ald_n hC dX7_print_73 rfl ?_
          refine m_iload_n hC dX7_print_74 rfl ?_
          refine m_ald_n hC dX7_print_75 rfl ?_
          refine m_getI hC 0 dX7_print_76 gf_RX7_103 ⟨by decide, rfl⟩ ?_
          refine m_callV (rest := [vi (((14) * (zz 22)) + (((n : Nat) : Int))), .ref (ad 25)]) hC (kX7_nameOn hl (mI_fc hlE hIz) n (by omega) (zz 0) (by omega)) gc_RX7_106 rfl rfl ⟨by decide, by decide⟩ (Nat.le_of_ble_eq_true rfl) rfl dX7_print_79 (fun r z' F' hp => ?_)
          obtain ⟨rfl, hz, hF⟩ := hp
          rw [hz, hF]
          clear hz hF
          refine gVM.eqs (st' := [vi (nmOf F (z 0) n), vi (((14) * (zz 22)) + (((n : Nat) : Int))), .ref (ad 25)]) rfl (by rw [nmOf_c hlE, hz0] <;> rfl) rfl rfl ?_
          have hnb := nmOf_b hI (on := z 0) (i := n) (by omega)
          refine m_iast hC 25 (14 * ne + n) dX7_print_82 ⟨by decide, rfl, rfl⟩ (by omega) (by simp only [mK]; omega) ?_
          refine gVM.eqs (F' := gup (gup (gup F 23 (gup (F 23) (ne) (zz 3))) 24 (gup (F 24) (ne) (zz 11))) 25 (pr25 F (z 0) ne (n + 1))) rfl rfl rfl (gup_gup _ _ _ _) ?_
          refine m_iinc (lv' := [some (.ref mo), some (vi (((n : Nat) : Int) + 1)), none]) hC dX7_print_83 (by decide) rfl rfl ?_
          refine m_goto (tgt := 52) hC dX7_print_86 (by decide) ?_
          refine gVM.eqs (lv' := [some (.ref mo), some (vi ((((n + 1) : Nat) : Int))), none]) (lcons rfl (lcons (svi (by omega)) (lcons rfl rfl))) rfl rfl rfl ih
        · refine m_iload_n hC dX7_print_52 rfl ?_
          refine m_ald_n hC dX7_print_53 rfl ?_
          refine m_getI hC 3 dX7_print_54 gf_RX7_78 ⟨by decide, rfl⟩ ?_
          refine m_icmp_ge (tgt := 89) hC dX7_print_57 (by decide) (by omega) (by omega) (fun c_57 => ?_) (fun c_57 => False.elim (by omega))
          refine m_iconst hC dX7_print_89 rfl ?_
          refine m_istore_n (lv' := [some (.ref mo), some (vi (0)), none]) hC dX7_print_90 (by decide) rfl ?_
          obtain ⟨Fm, eFm⟩ : ∃ Fm, Fm = gup (gup (gup F 23 (gup (F 23) (ne) (zz 3))) 24 (gup (F 24) (ne) (zz 11))) 25 (pr25 F (z 0) ne np) := ⟨_, rfl⟩
          rw [← eFm]
          have hFm : lE F Fm := by rw [eFm]; exact ((lE.rf.gup (by decide)).gup (by decide)).gup (by decide)
          have hm26 : Fm 26 = F 26 := by rw [eFm]; rfl
          have l2 : ∀ k : Nat, k ≤ ns → ∀ Fa : Nat → Nat → Int, fEq (gup Fm 26 (pr26 F (z 0) np ne k)) Fa → gVM x D base 3 mo ad gh 91 [some (.ref mo), some (vi (((k : Nat) : Int))), none] [] zz Fa := by
            refine g_for _ (fun k hk ih2 => ?_) ?_
            · intro Fa hFa
              have hlEa : lE F Fa := (hFm.gup (by decide)).tr hFa.le
              have hIa := mI_fc hlEa hIz
              refine m_iload_n hC dX7_print_91 rfl ?_
              refine m_ald_n hC dX7_print_92 rfl ?_
              refine m_getI hC 11 dX7_print_93 gf_RX7_85 ⟨by decide, rfl⟩ ?_
              refine m_icmp_ge (tgt := 150) hC dX7_print_96 (by decide) (by omega) (by omega) (fun c_96 => False.elim (by omega)) (fun c_96 => ?_)
              refine m_ald_n hC dX7_print_99 rfl ?_
              refine m_iload_n hC dX7_print_100 rfl ?_
              refine m_callV (rest := []) hC (kX7_laysE hl hIa hlEa k (by omega)) gc_RX7_99 rfl rfl ⟨by decide, by decide⟩ (Nat.le_of_ble_eq_true rfl) rfl dX7_print_101 (fun r z' F' hp => ?_)
              obtain ⟨rfl, hz, rA, rB, rC, rP, hF, hCC, hP⟩ := hp
              rw [hz, hF]
              clear hz
              refine gVM.eqs (st' := []) rfl rfl rfl rfl ?_
              rw [enp, hz0] at hCC
              obtain ⟨Fb, eFb⟩ : ∃ Fb, Fb = F4 Fa rA rB rC rP := ⟨_, rfl⟩
              rw [← eFb]
              have hFb : fEq (gup Fm 26 (pr26 F (z 0) np ne k)) Fb := by rw [eFb]; exact hFa.tr fEq.f4
              have hb17 : ∀ j, j < np → Fb 17 j = (lay0 F k np (z 0)).1 j := fun j hj => by rw [eFb]; exact hCC j hj
              have hb26 : Fb 26 = pr26 F (z 0) np ne k := hFb.at26
              clear hCC hP eFb
              refine m_iconst hC dX7_print_104 rfl ?_
              refine m_istore_n (lv' := [some (.ref mo), some (vi (((k : Nat) : Int))), some (vi (0))]) hC dX7_print_105 (by decide) rfl ?_
              have l3 : ∀ n : Nat, n ≤ np → gVM x D base 3 mo ad gh 106 [some (.ref mo), some (vi ((k : Int))), some (vi (((n : Nat) : Int)))] [] zz (gup Fb 26 (pr26i F (z 0) np ne k (pr26 F (z 0) np ne k) n)) := by
                refine g_for _ (fun n hn ih3 => ?_) ?_
                · refine m_iload_n hC dX7_print_106 rfl ?_
                  refine m_ald_n hC dX7_print_107 rfl ?_
                  refine m_getI hC 3 dX7_print_108 gf_RX7_78 ⟨by decide, rfl⟩ ?_
                  refine m_icmp_ge (tgt := 144) hC dX7_print_111 (by decide) (by omega) (by omega) (fun c_111 => False.elim (by omega)) (fun c_111 => ?_)
                  refine m_ald_n hC dX7_print_114 rfl ?_
                  refine m_getA hC 26 dX7_print_115 gf_RX7_71 ⟨by decide, rfl⟩ ?_
                  refine m_bipush (v := 14) hC dX7_print_118 rfl ?_
                  refine m_iconst hC dX7_print_120 rfl ?_
                  refine m_ald_n hC dX7_print_121 rfl ?_
                  refine m_getI hC 22 dX7_print_122 gf_RX7_164 ⟨by decide, rfl⟩ ?_
                  refine m_imul hC dX7_print_125 ?_
                  refine m_iload_n hC dX7_print_126 rfl ?_
                  refine m_iadd hC dX7_print_127 ?_
                  refine m_imul hC dX7_print_128 ?_
                  refine m_iload_n hC dX7_print_129 rfl ?_
                  refine m_iadd hC dX7_print_130 ?_
                  refine m_ald_n hC dX7_print_131 rfl ?_
                  refine m_getA hC 17 dX7_print_132 gf_RX7_50 ⟨by decide, rfl⟩ ?_
                  refine m_iload_n hC dX7_print_135 rfl ?_
                  refine m_iald hC 17 (n) dX7_print_136 ⟨by decide, rfl, rfl⟩ rfl (by simp only [mK]; omega) ?_
                  refine m_top (b := Fb 17 (n)) rfl ?_
                  rw [hb17 n hn]
                  refine m_iast hC 26 (14 * (4 * ne + k) + n) dX7_print_137 ⟨by decide, rfl, rfl⟩ (by omega) (by simp only [mK]; omega) ?_
                  refine gVM.eqs (F' := gup Fb 26 (pr26i F (z 0) np ne k (pr26 F (z 0) np ne k) (n + 1))) rfl rfl rfl (gup_gup _ _ _ _) ?_
                  refine m_iinc (lv' := [some (.ref mo), some (vi ((k : Int))), some (vi (((n : Nat) : Int) + 1))]) hC dX7_print_138 (by decide) rfl rfl ?_
                  refine m_goto (tgt := 106) hC dX7_print_141 (by decide) ?_
                  refine gVM.eqs (lv' := [some (.ref mo), some (vi ((k : Int))), some (vi ((((n + 1) : Nat) : Int)))]) (lcons rfl (lcons rfl (lcons (svi (by omega)) rfl))) rfl rfl rfl ih3
                · refine m_iload_n hC dX7_print_106 rfl ?_
                  refine m_ald_n hC dX7_print_107 rfl ?_
                  refine m_getI hC 3 dX7_print_108 gf_RX7_78 ⟨by decide, rfl⟩ ?_
                  refine m_icmp_ge (tgt := 144) hC dX7_print_111 (by decide) (by omega) (by omega) (fun c_111 => ?_) (fun c_111 => False.elim (by omega))
                  refine m_iinc (lv' := [some (.ref mo), some (vi ((k : Int) + 1)), some (vi (((np : Nat) : Int)))]) hC dX7_print_144 (by decide) rfl rfl ?_
                  refine m_goto (tgt := 91) hC dX7_print_147 (by decide) ?_
                  refine gVM.drop (lv' := [some (.ref mo), some (vi ((k : Int) + 1)), none]) trivial (by intro k v hk; match k, hk with | 0, hk => exact hk | 1, hk => exact hk | 2, hk => exact absurd hk (by simp) | k + 3, hk => exact absurd hk (by simp)) ?_
                  refine gVM.eqs (lv' := [some (.ref mo), some (vi ((((k + 1) : Nat) : Int))), none]) (lcons rfl (lcons (svi (by omega)) (lcons rfl rfl))) rfl rfl rfl ?_
                  refine ih2 _ (fun j h1 h2 h3 h4 h5 h6 => ?_)
                  by_cases e : j = 26
                  · rw [e, gup_eq, gup_eq]; rfl
                  · rw [gup_ne e, gup_ne e, hFb j h1 h2 h3 h4 h5 h6, gup_ne e]
              refine gVM.eqs (lv' := [some (.ref mo), some (vi ((k : Int))), some (vi (((0 : Nat) : Int)))]) (F' := gup Fb 26 (pr26i F (z 0) np ne k (pr26 F (z 0) np ne k) 0)) rfl rfl rfl (by show Fb = gup Fb 26 (pr26 F (z 0) np ne k); rw [← hb26, gup_self]) (l3 0 (Nat.zero_le _))
            · intro Fa hFa
              refine m_iload_n hC dX7_print_91 rfl ?_
              refine m_ald_n hC dX7_print_92 rfl ?_
              refine m_getI hC 11 dX7_print_93 gf_RX7_85 ⟨by decide, rfl⟩ ?_
              refine m_icmp_ge (tgt := 150) hC dX7_print_96 (by decide) (by omega) (by omega) (fun c_96 => ?_) (fun c_96 => False.elim (by omega))
              refine m_ald_n hC dX7_print_150 rfl ?_
              refine m_dup hC dX7_print_151 rfl ?_
              refine m_getI hC 22 dX7_print_152 gf_RX7_164 ⟨by decide, rfl⟩ ?_
              refine m_iconst hC dX7_print_155 rfl ?_
              refine m_iadd hC dX7_print_156 ?_
              refine m_putI hC 22 dX7_print_157 gp_RX7_164 ⟨by decide, rfl⟩ ?_
              refine m_ald_n hC dX7_print_160 rfl ?_
              refine m_getI hC 22 dX7_print_161 gf_RX7_164 ⟨by decide, rfl⟩ ?_
              refine m_top (b := (zz 22) + (1)) rfl ?_
              refine m_iconst hC dX7_print_164 rfl ?_
              refine m_isub hC dX7_print_165 ?_
              refine m_top (b := z 22) (by omega) ?_
              have ePr : prF z F = gup Fm 26 (pr26 F (z 0) np ne ns) := by rw [eFm]; unfold prF; rw [show (z 22).toNat = ne by omega, show (z 3).toNat = np by omega, show (z 11).toNat = ns by omega, hz3, hz11]
              exact m_iret hC hq dX7_print_166 ⟨by rw [if_pos hg], z27, by rw [if_pos hg]; exact ⟨fun k h1 h2 => by
                by_cases e : k = 22
                · rw [e, gup_eq, gup_eq, hz22]
                · rw [gup_ne e, gup_ne e]; exact hzz k h1 h2, by rw [ePr]; exact hFa⟩⟩
          refine gVM.eqs (lv' := [some (.ref mo), some (vi (((0 : Nat) : Int))), none]) rfl rfl rfl rfl (l2 0 (Nat.zero_le _) Fm (by show fEq (gup Fm 26 (F 26)) Fm; rw [← hm26, gup_self]; exact fEq.rf))
      refine gVM.eqs (lv' := [some (.ref mo), some (vi (((0 : Nat) : Int))), none]) (F' := gup (gup (gup F 23 (gup (F 23) (ne) (zz 3))) 24 (gup (F 24) (ne) (zz 11))) 25 (pr25 F (z 0) ne 0)) rfl rfl rfl (gup_self (gup (gup F 23 (gup (F 23) (ne) (zz 3))) 24 (gup (F 24) (ne) (zz 11))) 25).symm (lp 0 (Nat.zero_le _))
    · refine m_iconst hC dX7_print_22 rfl ?_
      exact m_iret hC hq dX7_print_23 ⟨by rw [if_neg (by rw [hg]; decide)], gup_eq, by rw [if_neg (by rw [hg]; decide)]; exact mSc.rf⟩
  · refine m_ald_n hC dX7_print_1 rfl ?_
    refine m_getI hC 22 dX7_print_2 gf_RX7_164 ⟨by decide, rfl⟩ ?_
    refine m_iconst hC dX7_print_5 rfl ?_
    refine m_icmp_ge (tgt := 13) hC dX7_print_6 (by decide) (by omega) (by omega) (fun c_6 => ?_) (fun c_6 => ?_)
    · refine m_iconst hC dX7_print_13 rfl ?_
      refine m_top (b := b2i (decide (z 22 < 5))) (b2i_f (by first | rfl | (simp [c_6]; done) | (simp only [c_6]; rfl))) ?_
      exact j_14
    · refine m_iconst hC dX7_print_9 rfl ?_
      refine m_goto (tgt := 14) hC dX7_print_10 (by decide) ?_
      refine m_top (b := b2i (decide (z 22 < 5))) (b2i_t (by first | rfl | (simp [c_6]; done) | (simp only [c_6]; rfl))) ?_
      exact j_14

end M9
