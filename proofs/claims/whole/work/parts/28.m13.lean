/-! the reference: best -/
section M13
theorem maxW_rng {F : Nat → Nat → Int} {s : Nat} {day : Int} {P : Nat → Int} {L : List Nat} (hr : ∀ i ∈ L, 1 ≤ F 6 i ∧ F 6 i ≤ 5) : ∀ n : Nat, 0 ≤ maxW F s day P L n ∧ maxW F s day P L n ≤ 5 * (L.length : Int)
  | 0 => by unfold maxW; omega
  | n + 1 => by
    have ih := maxW_rng (s := s) (day := day) (P := P) hr n
    rw [maxW_s]
    split
    · next h =>
      unfold wvI at h ⊢
      cases e : wv F s day P L n with
      | none => rw [e] at h; have h2 : maxW F s day P L n < -1 := h; omega
      | some v => have := wv_rng L P n hr v e; exact this
    · exact ih
theorem wvI_rng {F : Nat → Nat → Int} {s : Nat} {day : Int} {P : Nat → Int} {L : List Nat} (hr : ∀ i ∈ L, 1 ≤ F 6 i ∧ F 6 i ≤ 5) (n : Nat) : -1 ≤ wvI F s day P L n ∧ wvI F s day P L n ≤ 5 * (L.length : Int) := by
  unfold wvI
  cases e : wv F s day P L n with
  | none => show -1 ≤ (-1 : Int) ∧ (-1 : Int) ≤ _; omega
  | some v => have := wv_rng L P n hr v e; show -1 ≤ v ∧ v ≤ _; omega
theorem pow5 : ∀ n : Nat, n ≤ 4 → 1 ≤ 5 ^ n ∧ 5 ^ n ≤ 625 := by
  intro n h
  have : n = 0 ∨ n = 1 ∨ n = 2 ∨ n = 3 ∨ n = 4 := by omega
  rcases this with rfl | rfl | rfl | rfl | rfl <;> decide
set_option maxHeartbeats 4000000 in
set_option maxRecDepth 100000 in
theorem kX7_best {l : Launch} (hl : l.stackTraces = false) {D : gD} {base mo : Nat} {ad : Nat → Nat} {z : Nat → Int} {F : Nat → Nat → Int} (hI : mI z F) (s : Int) (rs : -2147483648 ≤ s ∧ s < 2147483648) : mM l D base yX7_best cX7_best 6 (some Jvm.ClassFile.FieldType.int) 4 90 mo ad [vi (s)] z F (fun r z' F' => r = some (if ((inB s 0 (z 11 - 1)) && (inB s 0 (z 11 - 1) && decide ((nmL F s.toNat (z 0) (z 3).toNat).length ≤ 4)) && true) = true then vi (maxW F s.toNat (z 0) (dotP F s.toNat (z 3).toNat) (nmL F s.toNat (z 0) (z 3).toNat) (5 ^ (nmL F s.toNat (z 0) (z 3).toNat).length)) else vi 0) ∧ z' 27 = goesN (inB s 0 (z 11 - 1)) (inB s 0 (z 11 - 1) && decide ((nmL F s.toNat (z 0) (z 3).toNat).length ≤ 4)) true ∧ mSc z F z' F') := by
  obtain ⟨i0, i1, i3, i11, i22, iw, ip, inn, inm, ish⟩ := id hI
  refine mM.of hl (by decide) (by simp [Value.category]) (Nat.le_of_ble_eq_true rfl) [some (.ref mo), some (vi (s)), none, none, none, none] rfl (fun gh x hC hq => ?_)
  refine m_ald_n hC dX7_best_0 rfl ?_
  refine m_ald_n hC dX7_best_1 rfl ?_
  refine m_iload_n hC dX7_best_2 rfl ?_
  refine m_callV (rest := [.ref mo]) hC (kX7_isSheet hl hI s (by omega)) gc_RX7_145 rfl rfl ⟨by decide, by decide⟩ (Nat.le_of_ble_eq_true rfl) rfl dX7_best_3 (fun r z' F' hp => ?_)
  obtain ⟨rfl, hz, hF⟩ := hp
  rw [hz, hF]
  clear hz hF
  refine gVM.eqs (st' := [vi (b2i (inB s 0 (z 11 - 1))), .ref mo]) rfl rfl rfl rfl ?_
  refine m_ald_n hC dX7_best_6 rfl ?_
  refine m_iload_n hC dX7_best_7 rfl ?_
  refine m_callV (rest := [vi (b2i (inB s 0 (z 11 - 1))), .ref mo]) hC (kX7_isSheet hl hI s (by omega)) gc_RX7_145 rfl rfl ⟨by decide, by decide⟩ (Nat.le_of_ble_eq_true rfl) rfl dX7_best_8 (fun r z' F' hp => ?_)
  obtain ⟨rfl, hz, hF⟩ := hp
  rw [hz, hF]
  clear hz hF
  refine gVM.eqs (st' := [vi (b2i (inB s 0 (z 11 - 1))), vi (b2i (inB s 0 (z 11 - 1))), .ref mo]) rfl rfl rfl rfl ?_
  refine m_ifeq_b (tgt := 26) hC dX7_best_11 (by decide)  (fun hA => ?_) (fun hA => ?_)
  · refine m_iconst hC dX7_best_26 rfl ?_
    refine m_iconst hC dX7_best_27 rfl ?_
    refine gVM.eqs (st' := [vi (b2i true), vi (b2i false), vi (b2i false), .ref mo]) rfl (by rw [hA]; rfl) rfl rfl ?_
    refine m_callV (rest := []) hC (kX7_goes hl false false true) gc_RX7_91 rfl rfl ⟨by decide, by decide⟩ (Nat.le_of_ble_eq_true rfl) rfl dX7_best_28 (fun r z' F' hp => ?_)
    obtain ⟨rfl, hz, hF⟩ := hp
    rw [hz, hF]
    clear hz hF
    refine gVM.eqs (st' := [vi (b2i (false))]) rfl rfl rfl rfl ?_
    refine m_ifne_b (tgt := 36) hC dX7_best_31 (by decide) (fun h => by cases h) (fun _ => ?_)
    refine m_iconst hC dX7_best_34 rfl ?_
    exact m_iret hC hq dX7_best_35 ⟨by rw [hA]; rfl, by rw [gup_eq, hA]; rfl, mSc.rf⟩
  · have hs2 := inB_iff.mp hA
    obtain ⟨sn, esn⟩ : ∃ sn : Nat, s = (sn : Int) := ⟨s.toNat, by omega⟩
    have esn2 : s.toNat = sn := by omega
    subst esn
    obtain ⟨np, hnp⟩ : ∃ np : Nat, z 3 = (np : Int) := ⟨(z 3).toNat, by omega⟩
    have hn14 : np ≤ 14 := by omega
    have enp : (z 3).toNat = np := by omega
    refine m_ald_n hC dX7_best_14 rfl ?_
    refine m_iload_n hC dX7_best_15 rfl ?_
    obtain ⟨L, eL⟩ : ∃ L, L = nmL F sn (z 0) np := ⟨_, rfl⟩
    refine m_callV (rest := [vi (b2i (inB (sn : Int) 0 (z 11 - 1))), .ref mo]) hC (kX7_canTry hl hI sn (by omega)) gc_RX7_157 rfl rfl ⟨by decide, by decide⟩ (Nat.le_of_ble_eq_true rfl) rfl dX7_best_16 (fun r z' F' hp => ?_)
    obtain ⟨rfl, hz, X, hF, hX⟩ := hp
    rw [enp, ← eL] at hX hz
    rw [enp] at hF
    rw [hz, hF, enp, ← eL]
    clear hz hF
    refine gVM.eqs (st' := [vi (b2i (decide (L.length ≤ 4))), vi (b2i (inB (sn : Int) 0 (z 11 - 1))), .ref mo]) rfl rfl rfl rfl ?_
    have hmem : ∀ i ∈ L, i < 14 ∧ (i : Int) < z 3 ∧ qOn F sn i = true ∧ nmOf F (z 0) i ≠ -1 := fun i hi => by rw [eL] at hi; have h := nmL_mem.mp hi; exact ⟨by omega, by omega, h.2⟩
    have hnd : L.Nodup := by rw [eL]; exact nmL_nodup np
    obtain ⟨Fb, eFb⟩ : ∃ Fb, Fb = gup (F4 F (upto (cN F sn) (F 15) np) (upto (rN F sn) (F 16) np) (upto (fun _ => -1) (F 17) np) (dotP F sn np)) 21 X := ⟨_, rfl⟩
    rw [← eFb]
    have hFb : fEq F Fb := by rw [eFb]; exact fEq.f4.tr fEq.g21
    have hb21 : Fb 21 = X := by rw [eFb]; exact gup_eq
    have hb18 : Fb 18 = dotP F sn np := by rw [eFb]; rfl
    have hb15 : ∀ i ∈ L, Fb 15 i = qCol F sn i := fun i hi => by
      have h := hmem i hi
      rw [eFb]
      show upto (cN F sn) (F 15) np i = _
      rw [upto_lt (by omega)]
      unfold cN
      rw [if_pos h.2.2.1]
    have hb16 : ∀ i ∈ L, Fb 16 i = qRow F sn i := fun i hi => by
      have h := hmem i hi
      rw [eFb]
      show upto (rN F sn) (F 16) np i = _
      rw [upto_lt (by omega)]
      unfold rN
      rw [if_pos h.2.2.1]
    have hr6 : ∀ i ∈ L, 1 ≤ F 6 i ∧ F 6 i ≤ 5 := fun i hi => by have h := ip i (hmem i hi).2.1; omega
    clear eFb
    refine m_ifeq_b (tgt := 26) hC dX7_best_19 (by decide)  (fun hB => ?_) (fun hB => ?_)
    · refine m_iconst hC dX7_best_26 rfl ?_
      refine m_iconst hC dX7_best_27 rfl ?_
      refine gVM.eqs (st' := [vi (b2i true), vi (b2i false), vi (b2i true), .ref mo]) rfl (by rw [hA]; rfl) rfl rfl ?_
      refine m_callV (rest := []) hC (kX7_goes hl true false true) gc_RX7_91 rfl rfl ⟨by decide, by decide⟩ (Nat.le_of_ble_eq_true rfl) rfl dX7_best_28 (fun r z' F' hp => ?_)
      obtain ⟨rfl, hz, hF⟩ := hp
      rw [hz, hF]
      clear hz hF
      refine gVM.eqs (st' := [vi (b2i (false))]) rfl rfl rfl rfl ?_
      refine m_ifne_b (tgt := 36) hC dX7_best_31 (by decide) (fun h => by cases h) (fun _ => ?_)
      refine m_iconst hC dX7_best_34 rfl ?_
      exact m_iret hC hq dX7_best_35 ⟨by rw [hA, esn2, enp, ← eL, hB]; rfl, by rw [gup_eq, hA, esn2, enp, ← eL, hB]; rfl, ⟨fun k h1 h2 => by rw [gup_ne h1, gup_ne h2], hFb⟩⟩
    · have hL4 : L.length ≤ 4 := of_decide_eq_true hB
      have em4 : mn4 L.length = L.length := by unfold mn4; split <;> omega
      rw [em4]
      refine m_iconst hC dX7_best_22 rfl ?_
      refine m_goto (tgt := 27) hC dX7_best_23 (by decide) ?_
      refine m_iconst hC dX7_best_27 rfl ?_
      refine gVM.eqs (st' := [vi (b2i true), vi (b2i true), vi (b2i true), .ref mo]) rfl (by rw [hA]; rfl) rfl rfl ?_
      refine m_callV (rest := []) hC (kX7_goes hl true true true) gc_RX7_91 rfl rfl ⟨by decide, by decide⟩ (Nat.le_of_ble_eq_true rfl) rfl dX7_best_28 (fun r z' F' hp => ?_)
      obtain ⟨rfl, hz, hF⟩ := hp
      rw [hz, hF]
      clear hz hF
      refine gVM.eqs (st' := [vi (b2i (true))]) rfl rfl rfl rfl ?_
      refine m_ifne_b (tgt := 36) hC dX7_best_31 (by decide) (fun _ => ?_) (fun h => by cases h)
      obtain ⟨zz, ezz⟩ : ∃ zz, zz = gup (gup (z) 20 (((L.length : Nat) : Int))) 27 (goesN true true true) := ⟨_, rfl⟩
      rw [← ezz]
      have z27 : zz 27 = goesN true true true := by rw [ezz]; exact gup_eq
      have z20 : zz 20 = (L.length : Int) := by rw [ezz]; rfl
      have hz0 : zz 0 = z 0 := by rw [ezz]; rfl
      have hz3 : zz 3 = z 3 := by rw [ezz]; rfl
      have hzz : ∀ k, k ≠ 27 → k ≠ 20 → zz k = z k := fun k h h2 => by rw [ezz, gup_ne h, gup_ne h2]
      clear ezz
      have hIz : ∀ C : Nat → Int, mI zz (gup Fb 17 C) := fun C => mI_c (hFb.le.gup (by decide)) hzz hI
      have h5 := pow5 L.length hL4
      refine m_iconst hC dX7_best_36 rfl ?_
      refine m_istore_n (lv' := [some (.ref mo), some (vi ((sn : Int))), some (vi (1)), none, none, none]) hC dX7_best_37 (by decide) rfl ?_
      refine m_iconst hC dX7_best_38 rfl ?_
      refine m_istore_n (lv' := [some (.ref mo), some (vi ((sn : Int))), some (vi (1)), some (vi (0)), none, none]) hC dX7_best_39 (by decide) rfl ?_
      have lp : ∀ n : Nat, n ≤ L.length → gVM x D base 6 mo ad gh 40 [some (.ref mo), some (vi ((sn : Int))), some (vi (((5 ^ n : Nat) : Int))), some (vi (((n : Nat) : Int))), none, none] [] zz Fb := by
        refine g_for _ (fun n hn ih => ?_) ?_
        · have hp := pow5 n (by omega)
          refine m_iload_n hC dX7_best_40 rfl ?_
          refine m_ald_n hC dX7_best_41 rfl ?_
          refine m_getI hC 20 dX7_best_42 gf_RX7_151 ⟨by decide, rfl⟩ ?_
          rw [z20]
          refine m_icmp_ge (tgt := 58) hC dX7_best_45 (by decide) (by omega) (by omega) (fun c_45 => False.elim (by omega)) (fun c_45 => ?_)
          refine m_iload_n hC dX7_best_48 rfl ?_
          refine m_iconst hC dX7_best_49 rfl ?_
          refine m_imul hC dX7_best_50 ?_
          refine m_istore_n (lv' := [some (.ref mo), some (vi ((sn : Int))), some (vi ((((5 ^ n : Nat) : Int)) * (5))), some (vi (((n : Nat) : Int))), none, none]) hC dX7_best_51 (by decide) rfl ?_
          refine m_iinc (lv' := [some (.ref mo), some (vi ((sn : Int))), some (vi ((((5 ^ n : Nat) : Int)) * (5))), some (vi (((n : Nat) : Int) + 1)), none, none]) hC dX7_best_52 (by decide) rfl rfl ?_
          refine m_goto (tgt := 40) hC dX7_best_55 (by decide) ?_
          refine gVM.eqs (lv' := [some (.ref mo), some (vi ((sn : Int))), some (vi (((5 ^ (n + 1) : Nat) : Int))), some (vi ((((n + 1) : Nat) : Int))), none, none]) (lcons rfl (lcons rfl (lcons (svi (by rw [Nat.pow_succ]; omega)) (lcons (svi (by omega)) (lcons rfl (lcons rfl rfl)))))) rfl rfl rfl ih
        · refine m_iload_n hC dX7_best_40 rfl ?_
          refine m_ald_n hC dX7_best_41 rfl ?_
          refine m_getI hC 20 dX7_best_42 gf_RX7_151 ⟨by decide, rfl⟩ ?_
          rw [z20]
          refine m_icmp_ge (tgt := 58) hC dX7_best_45 (by decide) (by omega) (by omega) (fun c_45 => ?_) (fun c_45 => False.elim (by omega))
          refine m_iconst hC dX7_best_58 rfl ?_
          refine m_istore_n (lv' := [some (.ref mo), some (vi ((sn : Int))), some (vi (((5 ^ L.length : Nat) : Int))), some (vi (0)), none, none]) hC dX7_best_59 (by decide) rfl ?_
          refine m_iconst hC dX7_best_60 rfl ?_
          refine m_istore (lv' := [some (.ref mo), some (vi ((sn : Int))), some (vi (((5 ^ L.length : Nat) : Int))), some (vi (0)), some (vi (0)), none]) hC dX7_best_61 (by decide) rfl ?_
          have l2 : ∀ n : Nat, n ≤ 5 ^ L.length → ∀ C : Nat → Int, gVM x D base 6 mo ad gh 63 [some (.ref mo), some (vi ((sn : Int))), some (vi (((5 ^ L.length : Nat) : Int))), some (vi (maxW F sn (z 0) (dotP F sn np) L n)), some (vi (((n : Nat) : Int))), none] [] zz (gup Fb 17 C) := by
            refine g_for _ (fun n hn ih2 => ?_) ?_
            · intro C
              have hmx := maxW_rng (s := sn) (day := z 0) (P := dotP F sn np) hr6 n
              have hwr := wvI_rng (s := sn) (day := z 0) (P := dotP F sn np) hr6 n
              refine m_iload hC dX7_best_63 rfl ?_
              refine m_iload_n hC dX7_best_65 rfl ?_
              refine m_icmp_ge (tgt := 96) hC dX7_best_66 (by decide) (by omega) (by omega) (fun c_66 => False.elim (by omega)) (fun c_66 => ?_)
              refine m_ald_n hC dX7_best_69 rfl ?_
              refine m_iload hC dX7_best_70 rfl ?_
              refine m_callV (rest := []) hC (kX7_worthOf hl (hIz C) sn (G := F) (hFb.le.gup (by decide)) L hL4 hnd (by rw [hz0, hz3]; exact hmem) hr6 z20 (by show triedOk (Fb 21) L; rw [hb21]; exact hX) hb15 hb16 hb18 (dotP_ok np) n (by omega)) gc_RX7_160 rfl rfl ⟨by decide, by decide⟩ (Nat.le_of_ble_eq_true rfl) rfl dX7_best_72 (fun r z' F' hp => ?_)
              obtain ⟨rfl, hz, C2, hF⟩ := hp
              rw [gup_gup] at hF
              rw [hz, hF, hz0]
              clear hz hF
              refine gVM.eqs (st' := [vi (wvI F sn (z 0) (dotP F sn np) L n)]) rfl rfl rfl rfl ?_
              refine m_istore (lv' := [some (.ref mo), some (vi ((sn : Int))), some (vi (((5 ^ L.length : Nat) : Int))), some (vi (maxW F sn (z 0) (dotP F sn np) L n)), some (vi (((n : Nat) : Int))), some (vi (wvI F sn (z 0) (dotP F sn np) L n))]) hC dX7_best_75 (by decide) rfl ?_
              refine m_iload hC dX7_best_77 rfl ?_
              refine m_iload_n hC dX7_best_79 rfl ?_
              refine m_icmp_le (tgt := 88) hC dX7_best_80 (by decide) (by omega) (by omega) (fun hm => ?_) (fun hm => ?_)
              · refine m_iload_n hC dX7_best_88 rfl ?_
                refine m_istore_n (lv' := [some (.ref mo), some (vi ((sn : Int))), some (vi (((5 ^ L.length : Nat) : Int))), some (vi (maxW F sn (z 0) (dotP F sn np) L n)), some (vi (((n : Nat) : Int))), some (vi (wvI F sn (z 0) (dotP F sn np) L n))]) hC dX7_best_89 (by decide) rfl ?_
                refine m_iinc (lv' := [some (.ref mo), some (vi ((sn : Int))), some (vi (((5 ^ L.length : Nat) : Int))), some (vi (maxW F sn (z 0) (dotP F sn np) L n)), some (vi (((n : Nat) : Int) + 1)), some (vi (wvI F sn (z 0) (dotP F sn np) L n))]) hC dX7_best_90 (by decide) rfl rfl ?_
                refine m_goto (tgt := 63) hC dX7_best_93 (by decide) ?_
                refine gVM.drop (lv' := [some (.ref mo), some (vi ((sn : Int))), some (vi (((5 ^ L.length : Nat) : Int))), some (vi (maxW F sn (z 0) (dotP F sn np) L n)), some (vi (((n : Nat) : Int) + 1)), none]) trivial (by intro k v hk; match k, hk with | 0, hk => exact hk | 1, hk => exact hk | 2, hk => exact hk | 3, hk => exact hk | 4, hk => exact hk | 5, hk => exact absurd hk (by simp) | k + 6, hk => exact absurd hk (by simp)) ?_
                refine gVM.eqs (lv' := [some (.ref mo), some (vi ((sn : Int))), some (vi (((5 ^ L.length : Nat) : Int))), some (vi (maxW F sn (z 0) (dotP F sn np) L (n + 1))), some (vi ((((n + 1) : Nat) : Int))), none]) (lcons rfl (lcons rfl (lcons rfl (lcons (svi (by rw [maxW_s, if_neg (by omega)])) (lcons (svi (by omega)) (lcons rfl rfl)))))) rfl rfl rfl (ih2 C2)
              · refine m_iload hC dX7_best_83 rfl ?_
                refine m_goto (tgt := 89) hC dX7_best_85 (by decide) ?_
                refine m_istore_n (lv' := [some (.ref mo), some (vi ((sn : Int))), some (vi (((5 ^ L.length : Nat) : Int))), some (vi (wvI F sn (z 0) (dotP F sn np) L n)), some (vi (((n : Nat) : Int))), some (vi (wvI F sn (z 0) (dotP F sn np) L n))]) hC dX7_best_89 (by decide) rfl ?_
                refine m_iinc (lv' := [some (.ref mo), some (vi ((sn : Int))), some (vi (((5 ^ L.length : Nat) : Int))), some (vi (wvI F sn (z 0) (dotP F sn np) L n)), some (vi (((n : Nat) : Int) + 1)), some (vi (wvI F sn (z 0) (dotP F sn np) L n))]) hC dX7_best_90 (by decide) rfl rfl ?_
                refine m_goto (tgt := 63) hC dX7_best_93 (by decide) ?_
                refine gVM.drop (lv' := [some (.ref mo), some (vi ((sn : Int))), some (vi (((5 ^ L.length : Nat) : Int))), some (vi (wvI F sn (z 0) (dotP F sn np) L n)), some (vi (((n : Nat) : Int) + 1)), none]) trivial (by intro k v hk; match k, hk with | 0, hk => exact hk | 1, hk => exact hk | 2, hk => exact hk | 3, hk => exact hk | 4, hk => exact hk | 5, hk => exact absurd hk (by simp) | k + 6, hk => exact absurd hk (by simp)) ?_
                refine gVM.eqs (lv' := [some (.ref mo), some (vi ((sn : Int))), some (vi (((5 ^ L.length : Nat) : Int))), some (vi (maxW F sn (z 0) (dotP F sn np) L (n + 1))), some (vi ((((n + 1) : Nat) : Int))), none]) (lcons rfl (lcons rfl (lcons rfl (lcons (svi (by rw [maxW_s, if_pos hm])) (lcons (svi (by omega)) (lcons rfl rfl)))))) rfl rfl rfl (ih2 C2)
            · intro C
              refine m_iload hC dX7_best_63 rfl ?_
              refine m_iload_n hC dX7_best_65 rfl ?_
              refine m_icmp_ge (tgt := 96) hC dX7_best_66 (by decide) (by omega) (by omega) (fun c_66 => ?_) (fun c_66 => False.elim (by omega))
              refine m_iload_n hC dX7_best_96 rfl ?_
              exact m_iret hC hq dX7_best_97 ⟨by rw [hA, esn2, enp, ← eL, hB]; rfl, by rw [z27, hA, esn2, enp, ← eL, hB]; rfl, ⟨hzz, hFb.tr fEq.g17⟩⟩
          refine gVM.eqs (lv' := [some (.ref mo), some (vi ((sn : Int))), some (vi (((5 ^ L.length : Nat) : Int))), some (vi (maxW F sn (z 0) (dotP F sn np) L 0)), some (vi (((0 : Nat) : Int))), none]) (F' := gup Fb 17 (Fb 17)) rfl rfl rfl (gup_self Fb 17).symm (l2 0 (Nat.zero_le _) (Fb 17))
      refine gVM.eqs (lv' := [some (.ref mo), some (vi ((sn : Int))), some (vi (((5 ^ 0 : Nat) : Int))), some (vi (((0 : Nat) : Int))), none, none]) rfl rfl rfl rfl (lp 0 (Nat.zero_le _))

end M13
