/-! the reference: name -/
section M8
theorem fEq.gup {F G : Nat → Nat → Int} (h : fEq F G) (k : Nat) {a b : Nat → Int} (e : b = a) : fEq (gup F k a) (gup G k b) := by
  subst e
  intro j h1 h2 h3 h4 h5 h6
  by_cases q : j = k
  · subst q; rw [gup_eq, gup_eq]
  · rw [gup_ne q, gup_ne q]; exact h j h1 h2 h3 h4 h5 h6
set_option maxHeartbeats 4000000 in
set_option maxRecDepth 100000 in
theorem kX7_name {l : Launch} (hl : l.stackTraces = false) {D : gD} {base mo : Nat} {ad : Nat → Nat} {z : Nat → Int} {F : Nat → Nat → Int} (hI : mI z F) (i : Int) (ri : -2147483648 ≤ i ∧ i < 2147483648) : mM l D base yX7_name cX7_name 7 (some Jvm.ClassFile.FieldType.int) 4 92 mo ad [vi (i)] z F (fun r z' F' => r = some (if ((inB i 0 (z 3 - 1)) && (decide (0 < z 1) && decide (F 7 (if inB i 0 (z 3 - 1) = true then i.toNat else 0) < 6)) && true) = true then vi (pushUp F (namF z F i.toNat) i.toNat (z 3).toNat (z 0) (z 11).toNat) else vi 0) ∧ z' 27 = goesN (inB i 0 (z 3 - 1)) (decide (0 < z 1) && decide (F 7 (if inB i 0 (z 3 - 1) = true then i.toNat else 0) < 6)) true ∧ (if ((inB i 0 (z 3 - 1)) && (decide (0 < z 1) && decide (F 7 (if inB i 0 (z 3 - 1) = true then i.toNat else 0) < 6)) && true) = true then mSc (gup z 1 0) (namF z F i.toNat) z' F' else mSc z F z' F')) := by
  obtain ⟨i0, i1, i3, i11, i22, iw, ip, inn, inm, ish⟩ := id hI
  refine mM.of hl (by decide) (by simp [Value.category]) (Nat.le_of_ble_eq_true rfl) [some (.ref mo), some (vi (i)), none, none, none, none, none] rfl (fun gh x hCx hq => ?_)
  refine m_ald_n hCx dX7_name_0 rfl ?_
  refine m_iload_n hCx dX7_name_1 rfl ?_
  refine m_callV (rest := []) hCx (kX7_isPlace hl hI i (by omega)) gc_RX7_95 rfl rfl ⟨by decide, by decide⟩ (Nat.le_of_ble_eq_true rfl) rfl dX7_name_2 (fun r z' F' hp => ?_)
  obtain ⟨rfl, hz, hF⟩ := hp
  rw [hz, hF]
  clear hz hF
  refine gVM.eqs (st' := [vi (b2i (inB i 0 (z 3 - 1)))]) rfl rfl rfl rfl ?_
  refine m_istore_n (lv' := [some (.ref mo), some (vi (i)), some (vi (b2i (inB i 0 (z 3 - 1)))), none, none, none, none]) hCx dX7_name_5 (by decide) rfl ?_
  refine m_ald_n hCx dX7_name_6 rfl ?_
  refine m_iload_n hCx dX7_name_7 rfl ?_
  refine g_cut (A := gVM x D base 7 mo ad gh 39 [some (.ref mo), some (vi (i)), some (vi (b2i (inB i 0 (z 3 - 1)))), none, none, none, none] [vi (b2i ((decide (0 < z 1) && decide (F 7 (if inB i 0 (z 3 - 1) = true then i.toNat else 0) < 6)))), vi (b2i (inB i 0 (z 3 - 1))), .ref mo] (z) (F)) ?_ (fun j_39 => ?_)
  · refine m_iconst hCx dX7_name_39 rfl ?_
    refine m_callV (rest := []) hCx (kX7_goes hl (inB i 0 (z 3 - 1)) (decide (0 < z 1) && decide (F 7 (if inB i 0 (z 3 - 1) = true then i.toNat else 0) < 6)) true) gc_RX7_91 rfl rfl ⟨by decide, by decide⟩ (Nat.le_of_ble_eq_true rfl) rfl dX7_name_40 (fun r z' F' hp => ?_)
    obtain ⟨rfl, hz, hF⟩ := hp
    rw [hz, hF]
    clear hz hF
    refine gVM.eqs (st' := [vi (b2i (((inB i 0 (z 3 - 1)) && (decide (0 < z 1) && decide (F 7 (if inB i 0 (z 3 - 1) = true then i.toNat else 0) < 6)) && true)))]) rfl rfl rfl rfl ?_
    refine m_ifne_b (tgt := 48) hCx dX7_name_43 (by decide)  (fun hg => ?_) (fun hg => ?_)
    · have hg2 := hg
      simp only [Bool.and_eq_true, Bool.and_true, decide_eq_true_eq] at hg2
      obtain ⟨hgA, hgB⟩ := hg2
      rw [if_pos hgA] at hgB
      have hg3 := inB_iff.mp hgA
      obtain ⟨zz, ezz⟩ : ∃ zz, zz = gup (z) 27 (goesN (inB i 0 (z 3 - 1)) (decide (0 < z 1) && decide (F 7 (if inB i 0 (z 3 - 1) = true then i.toNat else 0) < 6)) true) := ⟨_, rfl⟩
      rw [← ezz]
      have z27 : zz 27 = goesN (inB i 0 (z 3 - 1)) (decide (0 < z 1) && decide (F 7 (if inB i 0 (z 3 - 1) = true then i.toNat else 0) < 6)) true := by rw [ezz]; exact gup_eq
      have hz0 : zz 0 = z 0 := by rw [ezz]; rfl
      have hz1 : zz 1 = z 1 := by rw [ezz]; rfl
      have hz3 : zz 3 = z 3 := by rw [ezz]; rfl
      have hz11 : zz 11 = z 11 := by rw [ezz]; rfl
      have hz22 : zz 22 = z 22 := by rw [ezz]; rfl
      have hzz : ∀ k, k ≠ 27 → k ≠ 20 → zz k = z k := fun k h _ => by rw [ezz]; exact gup_ne h
      clear ezz
      obtain ⟨p, ep⟩ : ∃ p : Nat, i = (p : Int) := ⟨i.toNat, by omega⟩
      have ep2 : i.toNat = p := by omega
      rw [ep2] at hgB
      obtain ⟨np, hnp⟩ : ∃ np : Nat, z 3 = (np : Int) := ⟨(z 3).toNat, by omega⟩
      obtain ⟨ns, hns⟩ : ∃ ns : Nat, z 11 = (ns : Int) := ⟨(z 11).toNat, by omega⟩
      have enp : (zz 3).toNat = np := by omega
      have hp9 : p < np := by omega
      have hn14 : np ≤ 14 := by omega
      have hs4 : ns ≤ 4 := by omega
      have hIz : mI zz F := mI_c lE.rf hzz hI
      have hinp := inn p (by omega)
      refine m_iconst hCx dX7_name_48 rfl ?_
      refine m_istore_n (lv' := [some (.ref mo), some (vi (i)), some (vi (b2i (inB i 0 (z 3 - 1)))), some (vi (0)), none, none, none]) hCx dX7_name_49 (by decide) rfl ?_
      have lp : ∀ k : Nat, k ≤ ns → ∀ Fa : Nat → Nat → Int, fEq F Fa → (∀ k' n' : Nat, k' < k → n' < np → Fa 19 (14 * k' + n') = (lay0 F k' np (z 0)).1 n') → gVM x D base 7 mo ad gh 50 [some (.ref mo), some (vi (i)), some (vi (b2i (inB i 0 (z 3 - 1)))), some (vi (((k : Nat) : Int))), none, none, none] [] zz Fa := by
        refine g_for _ (fun k hk ih => ?_) ?_
        · intro Fa hFa h19
          have hIa := mI_fc hFa.le hIz
          refine m_iload_n hCx dX7_name_50 rfl ?_
          refine m_ald_n hCx dX7_name_51 rfl ?_
          refine m_getI hCx 11 dX7_name_52 gf_RX7_85 ⟨by decide, rfl⟩ ?_
          refine m_icmp_ge (tgt := 106) hCx dX7_name_55 (by decide) (by omega) (by omega) (fun c_55 => False.elim (by omega)) (fun c_55 => ?_)
          refine m_ald_n hCx dX7_name_58 rfl ?_
          refine m_iload_n hCx dX7_name_59 rfl ?_
          refine m_callV (rest := []) hCx (kX7_laysE hl hIa hFa.le k (by omega)) gc_RX7_99 rfl rfl ⟨by decide, by decide⟩ (Nat.le_of_ble_eq_true rfl) rfl dX7_name_60 (fun r z' F' hp => ?_)
          obtain ⟨rfl, hz, rA, rB, rC, rP, hF, hC, hP⟩ := hp
          rw [hz, hF]
          clear hz
          refine gVM.eqs (st' := []) rfl rfl rfl rfl ?_
          rw [enp, hz0] at hC
          obtain ⟨Fb, eFb⟩ : ∃ Fb, Fb = F4 Fa rA rB rC rP := ⟨_, rfl⟩
          rw [← eFb]
          have hFb : fEq F Fb := by rw [eFb]; exact hFa.tr fEq.f4
          have hb17 : ∀ j, j < np → Fb 17 j = (lay0 F k np (z 0)).1 j := fun j hj => by rw [eFb]; exact hC j hj
          have hb19 : Fb 19 = Fa 19 := by rw [eFb]; rfl
          clear hC hP eFb
          refine m_iconst hCx dX7_name_63 rfl ?_
          refine m_istore (lv' := [some (.ref mo), some (vi (i)), some (vi (b2i (inB i 0 (z 3 - 1)))), some (vi (((k : Nat) : Int))), some (vi (0)), none, none]) hCx dX7_name_64 (by decide) rfl ?_
          have li : ∀ n : Nat, n ≤ np → ∀ X : Nat → Int, (∀ k' n' : Nat, k' < k → n' < np → X (14 * k' + n') = (lay0 F k' np (z 0)).1 n') → (∀ n' : Nat, n' < n → X (14 * k + n') = (lay0 F k np (z 0)).1 n') → gVM x D base 7 mo ad gh 66 [some (.ref mo), some (vi (i)), some (vi (b2i (inB i 0 (z 3 - 1)))), some (vi ((k : Int))), some (vi (((n : Nat) : Int))), none, none] [] zz (gup Fb 19 X) := by
            refine g_for _ (fun n hn ih2 => ?_) ?_
            · intro X hX1 hX2
              refine m_iload hCx dX7_name_66 rfl ?_
              refine m_ald_n hCx dX7_name_68 rfl ?_
              refine m_getI hCx 3 dX7_name_69 gf_RX7_78 ⟨by decide, rfl⟩ ?_
              refine m_icmp_ge (tgt := 100) hCx dX7_name_72 (by decide) (by omega) (by omega) (fun c_72 => False.elim (by omega)) (fun c_72 => ?_)
              refine m_ald_n hCx dX7_name_75 rfl ?_
              refine m_getA hCx 19 dX7_name_76 gf_RX7_56 ⟨by decide, rfl⟩ ?_
              refine m_bipush (v := 14) hCx dX7_name_79 rfl ?_
              refine m_iload_n hCx dX7_name_81 rfl ?_
              refine m_imul hCx dX7_name_82 ?_
              refine m_iload hCx dX7_name_83 rfl ?_
              refine m_iadd hCx dX7_name_85 ?_
              refine m_ald_n hCx dX7_name_86 rfl ?_
              refine m_getA hCx 17 dX7_name_87 gf_RX7_50 ⟨by decide, rfl⟩ ?_
              refine m_iload hCx dX7_name_90 rfl ?_
              refine m_iald hCx 17 (n) dX7_name_92 ⟨by decide, rfl, rfl⟩ rfl (by simp only [mK]; omega) ?_
              refine m_top (b := Fb 17 (n)) rfl ?_
              rw [hb17 n hn]
              refine m_iast hCx 19 (14 * k + n) dX7_name_93 ⟨by decide, rfl, rfl⟩ (by omega) (by simp only [mK]; omega) ?_
              refine gVM.eqs (F' := gup Fb 19 (gup X (14 * k + n) ((lay0 F k np (z 0)).1 n))) rfl rfl rfl (gup_gup _ _ _ _) ?_
              refine m_iinc (lv' := [some (.ref mo), some (vi (i)), some (vi (b2i (inB i 0 (z 3 - 1)))), some (vi ((k : Int))), some (vi (((n : Nat) : Int) + 1)), none, none]) hCx dX7_name_94 (by decide) rfl rfl ?_
              refine m_goto (tgt := 66) hCx dX7_name_97 (by decide) ?_
              refine gVM.eqs (lv' := [some (.ref mo), some (vi (i)), some (vi (b2i (inB i 0 (z 3 - 1)))), some (vi ((k : Int))), some (vi ((((n + 1) : Nat) : Int))), none, none]) (lcons rfl (lcons rfl (lcons rfl (lcons rfl (lcons (svi (by omega)) (lcons rfl (lcons rfl rfl))))))) rfl rfl rfl ?_
              exact ih2 _ (fun k' n' h1 h2 => by rw [gup_ne (by omega)]; exact hX1 k' n' h1 h2) (fun n' h1 => by
                by_cases e : n' = n
                · rw [e, gup_eq]
                · rw [gup_ne (by omega)]; exact hX2 n' (by omega))
            · intro X hX1 hX2
              refine m_iload hCx dX7_name_66 rfl ?_
              refine m_ald_n hCx dX7_name_68 rfl ?_
              refine m_getI hCx 3 dX7_name_69 gf_RX7_78 ⟨by decide, rfl⟩ ?_
              refine m_icmp_ge (tgt := 100) hCx dX7_name_72 (by decide) (by omega) (by omega) (fun c_72 => ?_) (fun c_72 => False.elim (by omega))
              refine m_iinc (lv' := [some (.ref mo), some (vi (i)), some (vi (b2i (inB i 0 (z 3 - 1)))), some (vi ((k : Int) + 1)), some (vi (((np : Nat) : Int))), none, none]) hCx dX7_name_100 (by decide) rfl rfl ?_
              refine m_goto (tgt := 50) hCx dX7_name_103 (by decide) ?_
              refine gVM.drop (lv' := [some (.ref mo), some (vi (i)), some (vi (b2i (inB i 0 (z 3 - 1)))), some (vi ((k : Int) + 1)), none, none, none]) trivial (by intro k v hk; match k, hk with | 0, hk => exact hk | 1, hk => exact hk | 2, hk => exact hk | 3, hk => exact hk | 4, hk => exact absurd hk (by simp) | 5, hk => exact absurd hk (by simp) | 6, hk => exact absurd hk (by simp) | k + 7, hk => exact absurd hk (by simp)) ?_
              refine gVM.eqs (lv' := [some (.ref mo), some (vi (i)), some (vi (b2i (inB i 0 (z 3 - 1)))), some (vi ((((k + 1) : Nat) : Int))), none, none, none]) (lcons rfl (lcons rfl (lcons rfl (lcons (svi (by omega)) (lcons rfl (lcons rfl (lcons rfl rfl))))))) rfl rfl rfl ?_
              exact ih _ (hFb.tr fEq.g19) (fun k' n' h1 h2 => by
                show X (14 * k' + n') = _
                by_cases e : k' = k
                · rw [e]; exact hX2 n' h2
                · exact hX1 k' n' (by omega) h2)
          refine gVM.eqs (lv' := [some (.ref mo), some (vi (i)), some (vi (b2i (inB i 0 (z 3 - 1)))), some (vi ((k : Int))), some (vi (((0 : Nat) : Int))), none, none]) (F' := gup Fb 19 (Fb 19)) rfl rfl rfl (gup_self Fb 19).symm (li 0 (Nat.zero_le _) (Fb 19) (fun k' n' h1 h2 => by rw [hb19]; exact h19 k' n' h1 h2) (fun n' h1 => absurd h1 (Nat.not_lt_zero _)))
        · intro Fa hFa h19
          refine m_iload_n hCx dX7_name_50 rfl ?_
          refine m_ald_n hCx dX7_name_51 rfl ?_
          refine m_getI hCx 11 dX7_name_52 gf_RX7_85 ⟨by decide, rfl⟩ ?_
          refine m_icmp_ge (tgt := 106) hCx dX7_name_55 (by decide) (by omega) (by omega) (fun c_55 => ?_) (fun c_55 => False.elim (by omega))
          refine m_bipush (v := 6) hCx dX7_name_106 rfl ?_
          refine m_iload_n hCx dX7_name_108 rfl ?_
          refine m_imul hCx dX7_name_109 ?_
          refine m_ald_n hCx dX7_name_110 rfl ?_
          refine m_getA hCx 7 dX7_name_111 gf_RX7_23 ⟨by decide, rfl⟩ ?_
          refine m_iload_n hCx dX7_name_114 rfl ?_
          refine m_iald hCx 7 (p) dX7_name_115 ⟨by decide, rfl, rfl⟩ ep (by simp only [mK]; omega) ?_
          rw [hFa.at7]
          refine m_iadd hCx dX7_name_116 ?_
          refine m_istore_n (lv' := [some (.ref mo), some (vi (i)), some (vi (b2i (inB i 0 (z 3 - 1)))), some (vi (((6) * (i)) + (F 7 (p)))), none, none, none]) hCx dX7_name_117 (by decide) rfl ?_
          obtain ⟨at9, eat⟩ : ∃ at9 : Nat, at9 = 6 * p + (F 7 p).toNat := ⟨_, rfl⟩
          refine gVM.eqs (lv' := [some (.ref mo), some (vi (i)), some (vi (b2i (inB i 0 (z 3 - 1)))), some (vi ((at9 : Int))), none, none, none]) (lcons rfl (lcons rfl (lcons rfl (lcons (svi (by omega)) (lcons rfl (lcons rfl (lcons rfl rfl))))))) rfl rfl rfl ?_
          have hat : at9 < 84 := by omega
          refine m_ald_n hCx dX7_name_118 rfl ?_
          refine m_getA hCx 8 dX7_name_119 gf_RX7_26 ⟨by decide, rfl⟩ ?_
          refine m_iload_n hCx dX7_name_122 rfl ?_
          refine m_ald_n hCx dX7_name_123 rfl ?_
          refine m_getI hCx 0 dX7_name_124 gf_RX7_103 ⟨by decide, rfl⟩ ?_
          refine m_iast hCx 8 (at9) dX7_name_127 ⟨by decide, rfl, rfl⟩ rfl (by simp only [mK]; omega) ?_
          refine m_ald_n hCx dX7_name_128 rfl ?_
          refine m_getA hCx 9 dX7_name_129 gf_RX7_29 ⟨by decide, rfl⟩ ?_
          refine m_iload_n hCx dX7_name_132 rfl ?_
          refine m_ald_n hCx dX7_name_133 rfl ?_
          refine m_getI hCx 1 dX7_name_134 gf_RX7_88 ⟨by decide, rfl⟩ ?_
          refine m_iast hCx 9 (at9) dX7_name_137 ⟨by decide, rfl, rfl⟩ rfl (by simp only [mK]; omega) ?_
          refine m_iconst hCx dX7_name_138 rfl ?_
          refine m_istore (lv' := [some (.ref mo), some (vi (i)), some (vi (b2i (inB i 0 (z 3 - 1)))), some (vi ((at9 : Int))), some (vi (0)), none, none]) hCx dX7_name_139 (by decide) rfl ?_
          have l3 : ∀ n : Nat, n ≤ (z 1).toNat → gVM x D base 7 mo ad gh 141 [some (.ref mo), some (vi (i)), some (vi (b2i (inB i 0 (z 3 - 1)))), some (vi ((at9 : Int))), some (vi (((n : Nat) : Int))), none, none] [] zz (gup (gup (gup Fa 8 (gup (Fa 8) (at9) (zz 0))) 9 (gup (Fa 9) (at9) (zz 1))) 10 (putN (F 10) (8 * at9) (F 2) n)) := by
            refine g_for _ (fun n hn ih3 => ?_) ?_
            · have hw := iw n (by omega)
              refine m_iload hCx dX7_name_141 rfl ?_
              refine m_ald_n hCx dX7_name_143 rfl ?_
              refine m_getI hCx 1 dX7_name_144 gf_RX7_88 ⟨by decide, rfl⟩ ?_
              refine m_icmp_ge (tgt := 175) hCx dX7_name_147 (by decide) (by omega) (by omega) (fun c_147 => False.elim (by omega)) (fun c_147 => ?_)
              refine m_ald_n hCx dX7_name_150 rfl ?_
              refine m_getA hCx 10 dX7_name_151 gf_RX7_32 ⟨by decide, rfl⟩ ?_
              refine m_bipush (v := 8) hCx dX7_name_154 rfl ?_
              refine m_iload_n hCx dX7_name_156 rfl ?_
              refine m_imul hCx dX7_name_157 ?_
              refine m_iload hCx dX7_name_158 rfl ?_
              refine m_iadd hCx dX7_name_160 ?_
              refine m_ald_n hCx dX7_name_161 rfl ?_
              refine m_getA hCx 2 dX7_name_162 gf_RX7_7 ⟨by decide, rfl⟩ ?_
              refine m_iload hCx dX7_name_165 rfl ?_
              refine m_cald hCx 2 (n) dX7_name_167 ⟨by decide, rfl, rfl⟩ rfl (by simp only [mK]; omega) ?_
              refine m_top (b := Fa 2 (n)) rfl ?_
              rw [hFa.at2]
              refine m_cast hCx 10 (8 * at9 + n) dX7_name_168 ⟨by decide, rfl, rfl⟩ (by omega) (by simp only [mK]; omega) (by omega) ?_
              refine gVM.eqs (F' := gup (gup (gup Fa 8 (gup (Fa 8) (at9) (zz 0))) 9 (gup (Fa 9) (at9) (zz 1))) 10 (putN (F 10) (8 * at9) (F 2) (n + 1))) rfl rfl rfl (gup_gup _ _ _ _) ?_
              refine m_iinc (lv' := [some (.ref mo), some (vi (i)), some (vi (b2i (inB i 0 (z 3 - 1)))), some (vi ((at9 : Int))), some (vi (((n : Nat) : Int) + 1)), none, none]) hCx dX7_name_169 (by decide) rfl rfl ?_
              refine m_goto (tgt := 141) hCx dX7_name_172 (by decide) ?_
              refine gVM.eqs (lv' := [some (.ref mo), some (vi (i)), some (vi (b2i (inB i 0 (z 3 - 1)))), some (vi ((at9 : Int))), some (vi ((((n + 1) : Nat) : Int))), none, none]) (lcons rfl (lcons rfl (lcons rfl (lcons rfl (lcons (svi (by omega)) (lcons rfl (lcons rfl rfl))))))) rfl rfl rfl ih3
            · refine m_iload hCx dX7_name_141 rfl ?_
              refine m_ald_n hCx dX7_name_143 rfl ?_
              refine m_getI hCx 1 dX7_name_144 gf_RX7_88 ⟨by decide, rfl⟩ ?_
              refine m_icmp_ge (tgt := 175) hCx dX7_name_147 (by decide) (by omega) (by omega) (fun c_147 => ?_) (fun c_147 => False.elim (by omega))
              refine m_ald_n hCx dX7_name_175 rfl ?_
              refine m_getA hCx 7 dX7_name_176 gf_RX7_23 ⟨by decide, rfl⟩ ?_
              refine m_iload_n hCx dX7_name_179 rfl ?_
              refine m_dup2 hCx dX7_name_180 rfl rfl ?_
              refine m_iald hCx 7 (p) dX7_name_181 ⟨by decide, rfl, rfl⟩ ep (by simp only [mK]; omega) ?_
              refine m_top (b := Fa 7 (p)) rfl ?_
              rw [hFa.at7]
              refine m_iconst hCx dX7_name_182 rfl ?_
              refine m_iadd hCx dX7_name_183 ?_
              refine m_iast hCx 7 (p) dX7_name_184 ⟨by decide, rfl, rfl⟩ ep (by simp only [mK]; omega) ?_
              refine m_ald_n hCx dX7_name_185 rfl ?_
              refine m_iconst hCx dX7_name_186 rfl ?_
              refine m_putI hCx 1 dX7_name_187 gp_RX7_88 ⟨by decide, rfl⟩ ?_
              refine m_iconst hCx dX7_name_190 rfl ?_
              refine m_istore (lv' := [some (.ref mo), some (vi (i)), some (vi (b2i (inB i 0 (z 3 - 1)))), some (vi ((at9 : Int))), some (vi (0)), none, none]) hCx dX7_name_191 (by decide) rfl ?_
              refine m_iconst hCx dX7_name_193 rfl ?_
              refine m_istore (lv' := [some (.ref mo), some (vi (i)), some (vi (b2i (inB i 0 (z 3 - 1)))), some (vi ((at9 : Int))), some (vi (0)), some (vi (0)), none]) hCx dX7_name_194 (by decide) rfl ?_
              have eG : namF z F p = gup (gup (gup (gup F 8 (gup (F 8) at9 (z 0))) 9 (gup (F 9) at9 (z 1))) 10 (putN (F 10) (8 * at9) (F 2) (z 1).toNat)) 7 (gup (F 7) p (F 7 p + 1)) := by rw [eat]; rfl
              obtain ⟨Fc0, eFc⟩ : ∃ Fc0, Fc0 = gup (gup (gup (gup (Fa) 8 (gup (Fa 8) (at9) (zz 0))) 9 (gup (Fa 9) (at9) (zz 1))) 10 (putN (F 10) (8 * at9) (F 2) (z 1).toNat)) 7 (gup (Fa 7) (p) ((F 7 (p)) + (1))) := ⟨_, rfl⟩
              refine gVM.eqs (F' := Fc0) rfl rfl rfl (eFc ▸ rfl) ?_
              have hFc0 : fEq (namF z F p) Fc0 := by rw [eG, eFc]; exact (((hFa.gup 8 (by rw [hFa.at8, hz0])).gup 9 (by rw [hFa.at9, hz1])).gup 10 rfl).gup 7 (by rw [hFa.at7])
              have h190 : ∀ k' n' : Nat, k' < ns → n' < np → Fc0 19 (14 * k' + n') = (lay0 F k' np (z 0)).1 n' := fun k' n' h1 h2 => by rw [eFc]; exact h19 k' n' h1 h2
              obtain ⟨z2, ez2⟩ : ∃ z2, z2 = gup zz 1 0 := ⟨_, rfl⟩
              rw [← ez2]
              have h20 : z2 0 = z 0 := by rw [ez2]; exact hz0
              have h23 : z2 3 = z 3 := by rw [ez2]; exact hz3
              have h211 : z2 11 = z 11 := by rw [ez2]; exact hz11
              have h222 : z2 22 = z 22 := by rw [ez2]; exact hz22
              have h21 : z2 1 = 0 := by rw [ez2]; exact gup_eq
              have hIG : mI z2 (namF z F p) := mI_name hI (by omega) (by omega) hgB.2 h20 h21 h23 h211 h222
              have hsc : ∀ Fz, fEq (namF z F p) Fz → mSc (gup z 1 0) (namF z F p) z2 Fz := fun Fz hz9 => ⟨fun k h1 h2 => by
                rw [ez2]
                by_cases e : k = 1
                · rw [e, gup_eq, gup_eq]
                · rw [gup_ne e, gup_ne e]; exact hzz k h1 h2, hz9⟩
              have z227 : z2 27 = goesN (inB i 0 (z 3 - 1)) (decide (0 < z 1) && decide (F 7 (if inB i 0 (z 3 - 1) = true then i.toNat else 0) < 6)) true := by rw [ez2]; exact z27
              have enp2 : (z2 3).toNat = np := by omega
              clear ez2 eFc
              have l4 : ∀ k : Nat, k ≤ ns → ∀ Fc : Nat → Nat → Int, fEq (namF z F p) Fc → (∀ k' n' : Nat, k' < ns → n' < np → Fc 19 (14 * k' + n') = (lay0 F k' np (z 0)).1 n') → gVM x D base 7 mo ad gh 196 [some (.ref mo), some (vi (i)), some (vi (b2i (inB i 0 (z 3 - 1)))), some (vi ((at9 : Int))), some (vi (pushUp F (namF z F p) p np (z 0) k)), some (vi (((k : Nat) : Int))), none] [] z2 Fc := by
                refine g_for _ (fun k hk ih4 => ?_) ?_
                · intro Fc hFc h19c
                  have hIc := mI_fc hFc.le hIG
                  have hpu := pushUp_rng (F := F) (G := namF z F p) (i := p) (np := np) (day := z 0) k
                  have hkk : (k : Int) * np ≤ 56 := by have := Int.mul_le_mul (show (k : Int) ≤ 4 by omega) (show (np : Int) ≤ 14 by omega) (by omega) (by omega); omega
                  refine m_iload hCx dX7_name_196 rfl ?_
                  refine m_ald_n hCx dX7_name_198 rfl ?_
                  refine m_getI hCx 11 dX7_name_199 gf_RX7_85 ⟨by decide, rfl⟩ ?_
                  refine m_icmp_ge (tgt := 274) hCx dX7_name_202 (by decide) (by omega) (by omega) (fun c_202 => False.elim (by omega)) (fun c_202 => ?_)
                  refine m_ald_n hCx dX7_name_205 rfl ?_
                  refine m_iload hCx dX7_name_206 rfl ?_
                  refine m_callV (rest := []) hCx (kX7_laysE hl hIc hFc.le k (by omega)) gc_RX7_99 rfl rfl ⟨by decide, by decide⟩ (Nat.le_of_ble_eq_true rfl) rfl dX7_name_208 (fun r z' F' hp => ?_)
                  obtain ⟨rfl, hz, rA, rB, rC, rP, hF, hC, hP⟩ := hp
                  rw [hz, hF]
                  clear hz
                  refine gVM.eqs (st' := []) rfl rfl rfl rfl ?_
                  rw [enp2, h20] at hC
                  obtain ⟨Fd, eFd⟩ : ∃ Fd, Fd = F4 Fc rA rB rC rP := ⟨_, rfl⟩
                  rw [← eFd]
                  have hFd : fEq (namF z F p) Fd := by rw [eFd]; exact hFc.tr fEq.f4
                  have hd17 : ∀ j, j < np → Fd 17 j = (lay0 (namF z F p) k np (z 0)).1 j := fun j hj => by rw [eFd]; exact hC j hj
                  have hd19 : ∀ k' n' : Nat, k' < ns → n' < np → Fd 19 (14 * k' + n') = (lay0 F k' np (z 0)).1 n' := fun k' n' h1 h2 => by rw [eFd]; exact h19c k' n' h1 h2
                  clear hC hP eFd
                  refine m_iconst hCx dX7_name_211 rfl ?_
                  refine m_istore (lv' := [some (.ref mo), some (vi (i)), some (vi (b2i (inB i 0 (z 3 - 1)))), some (vi ((at9 : Int))), some (vi (pushUp F (namF z F p) p np (z 0) k)), some (vi (((k : Nat) : Int))), some (vi (0))]) hCx dX7_name_212 (by decide) rfl ?_
                  have l5 : ∀ n : Nat, n ≤ np → gVM x D base 7 mo ad gh 214 [some (.ref mo), some (vi (i)), some (vi (b2i (inB i 0 (z 3 - 1)))), some (vi ((at9 : Int))), some (vi (pushUp F (namF z F p) p np (z 0) k + pushIn F (namF z F p) p k np (z 0) n)), some (vi ((k : Int))), some (vi (((n : Nat) : Int)))] [] z2 Fd := by
                    refine g_for _ (fun n hn ih5 => ?_) ?_
                    · have hpi := pushIn_rng (F := F) (G := namF z F p) (i := p) (k := k) (np := np) (day := z 0) n
                      have hs1 := layA_S (namF z F p) k np (z 0) (fun _ => -1) n hn
                      have hs2 := layA_S F k np (z 0) (fun _ => -1) n hn
                      change -1 ≤ (lay0 (namF z F p) k np (z 0)).1 n ∧ (lay0 (namF z F p) k np (z 0)).1 n ≤ 3 at hs1
                      change -1 ≤ (lay0 F k np (z 0)).1 n ∧ (lay0 F k np (z 0)).1 n ≤ 3 at hs2
                      refine m_iload hCx dX7_name_214 rfl ?_
                      refine m_ald_n hCx dX7_name_216 rfl ?_
                      refine m_getI hCx 3 dX7_name_217 gf_RX7_78 ⟨by decide, rfl⟩ ?_
                      refine m_icmp_ge (tgt := 268) hCx dX7_name_220 (by decide) (by omega) (by omega) (fun c_220 => False.elim (by omega)) (fun c_220 => ?_)
                      refine m_iload hCx dX7_name_223 rfl ?_
                      refine m_iload hCx dX7_name_225 rfl ?_
                      refine m_iload_n hCx dX7_name_227 rfl ?_
                      refine m_icmp_eq (tgt := 258) hCx dX7_name_228 (by decide) (by omega) (by omega) (fun he => ?_) (fun he => ?_)
                      · refine m_iconst hCx dX7_name_258 rfl ?_
                        refine m_iadd hCx dX7_name_259 ?_
                        refine m_istore (lv' := [some (.ref mo), some (vi (i)), some (vi (b2i (inB i 0 (z 3 - 1)))), some (vi ((at9 : Int))), some (vi ((pushUp F (namF z F p) p np (z 0) k + pushIn F (namF z F p) p k np (z 0) n) + (0))), some (vi ((k : Int))), some (vi (((n : Nat) : Int)))]) hCx dX7_name_260 (by decide) rfl ?_
                        refine m_iinc (lv' := [some (.ref mo), some (vi (i)), some (vi (b2i (inB i 0 (z 3 - 1)))), some (vi ((at9 : Int))), some (vi ((pushUp F (namF z F p) p np (z 0) k + pushIn F (namF z F p) p k np (z 0) n) + (0))), some (vi ((k : Int))), some (vi (((n : Nat) : Int) + 1))]) hCx dX7_name_262 (by decide) rfl rfl ?_
                        refine m_goto (tgt := 214) hCx dX7_name_265 (by decide) ?_
                        refine gVM.eqs (lv' := [some (.ref mo), some (vi (i)), some (vi (b2i (inB i 0 (z 3 - 1)))), some (vi ((at9 : Int))), some (vi (pushUp F (namF z F p) p np (z 0) k + pushIn F (namF z F p) p k np (z 0) (n + 1))), some (vi ((k : Int))), some (vi ((((n + 1) : Nat) : Int)))]) (lcons rfl (lcons rfl (lcons rfl (lcons rfl (lcons (svi (by rw [pushIn_s, if_neg (fun h => h.1 (by omega))]; omega)) (lcons rfl (lcons (svi (by omega)) rfl))))))) rfl rfl rfl ih5
                      · refine m_ald_n hCx dX7_name_231 rfl ?_
                        refine m_getA hCx 17 dX7_name_232 gf_RX7_50 ⟨by decide, rfl⟩ ?_
                        refine m_iload hCx dX7_name_235 rfl ?_
                        refine m_iald hCx 17 (n) dX7_name_237 ⟨by decide, rfl, rfl⟩ rfl (by simp only [mK]; omega) ?_
                        rw [hd17 n hn]
                        refine m_ald_n hCx dX7_name_238 rfl ?_
                        refine m_getA hCx 19 dX7_name_239 gf_RX7_56 ⟨by decide, rfl⟩ ?_
                        refine m_bipush (v := 14) hCx dX7_name_242 rfl ?_
                        refine m_iload hCx dX7_name_244 rfl ?_
                        refine m_imul hCx dX7_name_246 ?_
                        refine m_iload hCx dX7_name_247 rfl ?_
                        refine m_iadd hCx dX7_name_249 ?_
                        refine m_iald hCx 19 (14 * k + n) dX7_name_250 ⟨by decide, rfl, rfl⟩ (by omega) (by simp only [mK]; omega) ?_
                        rw [hd19 k n hk hn]
                        refine m_icmp_eq (tgt := 258) hCx dX7_name_251 (by decide) (by omega) (by omega) (fun hf => ?_) (fun hf => ?_)
                        · refine m_iconst hCx dX7_name_258 rfl ?_
                          refine m_iadd hCx dX7_name_259 ?_
                          refine m_istore (lv' := [some (.ref mo), some (vi (i)), some (vi (b2i (inB i 0 (z 3 - 1)))), some (vi ((at9 : Int))), some (vi ((pushUp F (namF z F p) p np (z 0) k + pushIn F (namF z F p) p k np (z 0) n) + (0))), some (vi ((k : Int))), some (vi (((n : Nat) : Int)))]) hCx dX7_name_260 (by decide) rfl ?_
                          refine m_iinc (lv' := [some (.ref mo), some (vi (i)), some (vi (b2i (inB i 0 (z 3 - 1)))), some (vi ((at9 : Int))), some (vi ((pushUp F (namF z F p) p np (z 0) k + pushIn F (namF z F p) p k np (z 0) n) + (0))), some (vi ((k : Int))), some (vi (((n : Nat) : Int) + 1))]) hCx dX7_name_262 (by decide) rfl rfl ?_
                          refine m_goto (tgt := 214) hCx dX7_name_265 (by decide) ?_
                          refine gVM.eqs (lv' := [some (.ref mo), some (vi (i)), some (vi (b2i (inB i 0 (z 3 - 1)))), some (vi ((at9 : Int))), some (vi (pushUp F (namF z F p) p np (z 0) k + pushIn F (namF z F p) p k np (z 0) (n + 1))), some (vi ((k : Int))), some (vi ((((n + 1) : Nat) : Int)))]) (lcons rfl (lcons rfl (lcons rfl (lcons rfl (lcons (svi (by rw [pushIn_s, if_neg (fun h => h.2 hf)]; omega)) (lcons rfl (lcons (svi (by omega)) rfl))))))) rfl rfl rfl ih5
                        · refine m_iconst hCx dX7_name_254 rfl ?_
                          refine m_goto (tgt := 259) hCx dX7_name_255 (by decide) ?_
                          refine m_iadd hCx dX7_name_259 ?_
                          refine m_istore (lv' := [some (.ref mo), some (vi (i)), some (vi (b2i (inB i 0 (z 3 - 1)))), some (vi ((at9 : Int))), some (vi ((pushUp F (namF z F p) p np (z 0) k + pushIn F (namF z F p) p k np (z 0) n) + (1))), some (vi ((k : Int))), some (vi (((n : Nat) : Int)))]) hCx dX7_name_260 (by decide) rfl ?_
                          refine m_iinc (lv' := [some (.ref mo), some (vi (i)), some (vi (b2i (inB i 0 (z 3 - 1)))), some (vi ((at9 : Int))), some (vi ((pushUp F (namF z F p) p np (z 0) k + pushIn F (namF z F p) p k np (z 0) n) + (1))), some (vi ((k : Int))), some (vi (((n : Nat) : Int) + 1))]) hCx dX7_name_262 (by decide) rfl rfl ?_
                          refine m_goto (tgt := 214) hCx dX7_name_265 (by decide) ?_
                          refine gVM.eqs (lv' := [some (.ref mo), some (vi (i)), some (vi (b2i (inB i 0 (z 3 - 1)))), some (vi ((at9 : Int))), some (vi (pushUp F (namF z F p) p np (z 0) k + pushIn F (namF z F p) p k np (z 0) (n + 1))), some (vi ((k : Int))), some (vi ((((n + 1) : Nat) : Int)))]) (lcons rfl (lcons rfl (lcons rfl (lcons rfl (lcons (svi (by rw [pushIn_s, if_pos ⟨by omega, hf⟩]; omega)) (lcons rfl (lcons (svi (by omega)) rfl))))))) rfl rfl rfl ih5
                    · refine m_iload hCx dX7_name_214 rfl ?_
                      refine m_ald_n hCx dX7_name_216 rfl ?_
                      refine m_getI hCx 3 dX7_name_217 gf_RX7_78 ⟨by decide, rfl⟩ ?_
                      refine m_icmp_ge (tgt := 268) hCx dX7_name_220 (by decide) (by omega) (by omega) (fun c_220 => ?_) (fun c_220 => False.elim (by omega))
                      refine m_iinc (lv' := [some (.ref mo), some (vi (i)), some (vi (b2i (inB i 0 (z 3 - 1)))), some (vi ((at9 : Int))), some (vi (pushUp F (namF z F p) p np (z 0) k + pushIn F (namF z F p) p k np (z 0) np)), some (vi ((k : Int) + 1)), some (vi (((np : Nat) : Int)))]) hCx dX7_name_268 (by decide) rfl rfl ?_
                      refine m_goto (tgt := 196) hCx dX7_name_271 (by decide) ?_
                      refine gVM.drop (lv' := [some (.ref mo), some (vi (i)), some (vi (b2i (inB i 0 (z 3 - 1)))), some (vi ((at9 : Int))), some (vi (pushUp F (namF z F p) p np (z 0) k + pushIn F (namF z F p) p k np (z 0) np)), some (vi ((k : Int) + 1)), none]) trivial (by intro k v hk; match k, hk with | 0, hk => exact hk | 1, hk => exact hk | 2, hk => exact hk | 3, hk => exact hk | 4, hk => exact hk | 5, hk => exact hk | 6, hk => exact absurd hk (by simp) | k + 7, hk => exact absurd hk (by simp)) ?_
                      refine gVM.eqs (lv' := [some (.ref mo), some (vi (i)), some (vi (b2i (inB i 0 (z 3 - 1)))), some (vi ((at9 : Int))), some (vi (pushUp F (namF z F p) p np (z 0) (k + 1))), some (vi ((((k + 1) : Nat) : Int))), none]) (lcons rfl (lcons rfl (lcons rfl (lcons rfl (lcons (svi (by rw [pushUp_s])) (lcons (svi (by omega)) (lcons rfl rfl))))))) rfl rfl rfl ?_
                      exact ih4 Fd hFd hd19
                  refine gVM.eqs (lv' := [some (.ref mo), some (vi (i)), some (vi (b2i (inB i 0 (z 3 - 1)))), some (vi ((at9 : Int))), some (vi (pushUp F (namF z F p) p np (z 0) k + pushIn F (namF z F p) p k np (z 0) 0)), some (vi ((k : Int))), some (vi (((0 : Nat) : Int)))]) (lcons rfl (lcons rfl (lcons rfl (lcons rfl (lcons (svi (by show _ = _ + (0 : Int); omega)) (lcons (svi (by omega)) (lcons (svi (by omega)) rfl))))))) rfl rfl rfl (l5 0 (Nat.zero_le _))
                · intro Fc hFc h19c
                  refine m_iload hCx dX7_name_196 rfl ?_
                  refine m_ald_n hCx dX7_name_198 rfl ?_
                  refine m_getI hCx 11 dX7_name_199 gf_RX7_85 ⟨by decide, rfl⟩ ?_
                  refine m_icmp_ge (tgt := 274) hCx dX7_name_202 (by decide) (by omega) (by omega) (fun c_202 => ?_) (fun c_202 => False.elim (by omega))
                  refine m_iload hCx dX7_name_274 rfl ?_
                  exact m_iret hCx hq dX7_name_276 ⟨by rw [if_pos hg, ep2, hnp, hns]; rfl, z227, by rw [if_pos hg, ep2]; exact hsc Fc hFc⟩
              refine gVM.drop (lv' := [some (.ref mo), some (vi (i)), some (vi (b2i (inB i 0 (z 3 - 1)))), some (vi ((at9 : Int))), some (vi (0)), some (vi (0)), none]) trivial (by intro k v hk; match k, hk with | 0, hk => exact hk | 1, hk => exact hk | 2, hk => exact hk | 3, hk => exact hk | 4, hk => exact hk | 5, hk => exact hk | 6, hk => exact absurd hk (by simp) | k + 7, hk => exact absurd hk (by simp)) ?_
              refine gVM.eqs (lv' := [some (.ref mo), some (vi (i)), some (vi (b2i (inB i 0 (z 3 - 1)))), some (vi ((at9 : Int))), some (vi (pushUp F (namF z F p) p np (z 0) 0)), some (vi (((0 : Nat) : Int))), none]) rfl rfl rfl rfl (l4 0 (Nat.zero_le _) Fc0 hFc0 h190)
          refine gVM.eqs (lv' := [some (.ref mo), some (vi (i)), some (vi (b2i (inB i 0 (z 3 - 1)))), some (vi ((at9 : Int))), some (vi (((0 : Nat) : Int))), none, none]) (F' := gup (gup (gup Fa 8 (gup (Fa 8) (at9) (zz 0))) 9 (gup (Fa 9) (at9) (zz 1))) 10 (putN (F 10) (8 * at9) (F 2) 0)) rfl rfl rfl (by show _ = gup _ 10 (F 10); rw [← hFa.at10]; exact (gup_self (gup (gup Fa 8 (gup (Fa 8) (at9) (zz 0))) 9 (gup (Fa 9) (at9) (zz 1))) 10).symm) (l3 0 (Nat.zero_le _))
      refine gVM.eqs (lv' := [some (.ref mo), some (vi (i)), some (vi (b2i (inB i 0 (z 3 - 1)))), some (vi (((0 : Nat) : Int))), none, none, none]) rfl rfl rfl rfl (lp 0 (Nat.zero_le _) F fEq.rf (fun k' n' h1 _ => absurd h1 (Nat.not_lt_zero _)))
    · refine m_iconst hCx dX7_name_46 rfl ?_
      exact m_iret hCx hq dX7_name_47 ⟨by rw [if_neg (by rw [hg]; decide)], gup_eq, by rw [if_neg (by rw [hg]; decide)]; exact mSc.rf⟩
  · refine m_ald_n hCx dX7_name_8 rfl ?_
    refine m_getI hCx 1 dX7_name_9 gf_RX7_88 ⟨by decide, rfl⟩ ?_
    refine m_if_le (tgt := 38) hCx dX7_name_12 (by decide) (by omega) (fun c_12 => ?_) (fun c_12 => ?_)
    · refine m_iconst hCx dX7_name_38 rfl ?_
      refine m_top (b := b2i (decide (0 < z 1) && decide (F 7 (if inB i 0 (z 3 - 1) = true then i.toNat else 0) < 6))) (b2i_f (by rw [decide_eq_false (by omega)]; rfl)) ?_
      exact j_39
    · refine m_ald_n hCx dX7_name_15 rfl ?_
      refine m_getA hCx 7 dX7_name_16 gf_RX7_23 ⟨by decide, rfl⟩ ?_
      refine m_iload_n hCx dX7_name_19 rfl ?_
      refine m_ifeq_b (tgt := 27) hCx dX7_name_20 (by decide)  (fun c_20 => ?_) (fun c_20 => ?_)
      · refine m_iconst hCx dX7_name_27 rfl ?_
        have hi7 := inn 0 (by decide)
        refine m_iald hCx 7 (0) dX7_name_28 ⟨by decide, rfl, rfl⟩ rfl (by decide) ?_
        refine m_bipush (v := 6) hCx dX7_name_29 rfl ?_
        refine m_icmp_ge (tgt := 38) hCx dX7_name_31 (by decide) (by omega) (by omega) (fun c_31 => ?_) (fun c_31 => ?_)
        · refine m_iconst hCx dX7_name_38 rfl ?_
          refine m_top (b := b2i (decide (0 < z 1) && decide (F 7 (if inB i 0 (z 3 - 1) = true then i.toNat else 0) < 6))) (b2i_f (by rw [if_neg (by rw [c_20]; decide)]; simp [c_12, c_31])) ?_
          exact j_39
        · refine m_iconst hCx dX7_name_34 rfl ?_
          refine m_goto (tgt := 39) hCx dX7_name_35 (by decide) ?_
          refine m_top (b := b2i (decide (0 < z 1) && decide (F 7 (if inB i 0 (z 3 - 1) = true then i.toNat else 0) < 6))) (b2i_t (by rw [if_neg (by rw [c_20]; decide)]; simp [c_12, c_31])) ?_
          exact j_39
      · refine m_iload_n hCx dX7_name_23 rfl ?_
        refine m_goto (tgt := 28) hCx dX7_name_24 (by decide) ?_
        have h20 := inB_iff.mp c_20
        have hi7 := inn i.toNat (by omega)
        refine m_iald hCx 7 (i.toNat) dX7_name_28 ⟨by decide, rfl, rfl⟩ (by omega) (by simp only [mK]; omega) ?_
        refine m_bipush (v := 6) hCx dX7_name_29 rfl ?_
        refine m_icmp_ge (tgt := 38) hCx dX7_name_31 (by decide) (by omega) (by omega) (fun c_31 => ?_) (fun c_31 => ?_)
        · refine m_iconst hCx dX7_name_38 rfl ?_
          refine m_top (b := b2i (decide (0 < z 1) && decide (F 7 (if inB i 0 (z 3 - 1) = true then i.toNat else 0) < 6))) (b2i_f (by rw [if_pos c_20]; simp [c_12, c_31])) ?_
          exact j_39
        · refine m_iconst hCx dX7_name_34 rfl ?_
          refine m_goto (tgt := 39) hCx dX7_name_35 (by decide) ?_
          refine m_top (b := b2i (decide (0 < z 1) && decide (F 7 (if inB i 0 (z 3 - 1) = true then i.toNat else 0) < 6))) (b2i_t (by rw [if_pos c_20]; simp [c_12, c_31])) ?_
          exact j_39

end M8
