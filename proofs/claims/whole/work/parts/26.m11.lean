/-! the reference: canTry, worthOf -/
section M11
def mn4 (n : Nat) : Nat := if n < 4 then n else 4
/-- the rows that canTry leaves: the places to try in 21 -/
def triedOk (X : Nat → Int) (L : List Nat) : Prop := ∀ j, j < 4 → j < L.length → X j = ((L.getD j 0 : Nat) : Int)
theorem F4_17only (F : Nat → Nat → Int) (C : Nat → Int) : F4 F (F 15) (F 16) C (F 18) = gup F 17 C := by
  rw [← F4_17 F (F 15) (F 16) (F 17) (F 18) C, F4_self]
set_option maxHeartbeats 4000000 in
set_option maxRecDepth 100000 in
theorem kX7_canTry {l : Launch} (hl : l.stackTraces = false) {D : gD} {base mo : Nat} {ad : Nat → Nat} {z : Nat → Int} {F : Nat → Nat → Int} (hI : mI z F) (s : Nat) (hs : (s : Int) < z 11) : mM l D base yX7_canTry cX7_canTry 4 (some Jvm.ClassFile.FieldType.boolean) 3 67 mo ad [vi ((s : Int))] z F (fun r z' F' => r = some (vi (b2i (decide ((nmL F s (z 0) (z 3).toNat).length ≤ 4)))) ∧ z' = gup z 20 ((mn4 (nmL F s (z 0) (z 3).toNat).length : Nat) : Int) ∧ ∃ X : Nat → Int, F' = gup (F4 F (upto (cN F s) (F 15) (z 3).toNat) (upto (rN F s) (F 16) (z 3).toNat) (upto (fun _ => -1) (F 17) (z 3).toNat) (dotP F s (z 3).toNat)) 21 X ∧ triedOk X (nmL F s (z 0) (z 3).toNat)) := by
  obtain ⟨i0, i1, i3, i11, i22, iw, ip, inn, inm, ish⟩ := id hI
  refine mM.of hl (by decide) (by simp [Value.category]) (Nat.le_of_ble_eq_true rfl) [some (.ref mo), some (vi ((s : Int))), none, none] rfl (fun gh x hC hq => ?_)
  obtain ⟨np, hnp⟩ : ∃ np : Nat, z 3 = (np : Int) := ⟨(z 3).toNat, by omega⟩
  have hn14 : np ≤ 14 := by omega
  refine m_ald_n hC dX7_canTry_0 rfl ?_
  refine m_iload_n hC dX7_canTry_1 rfl ?_
  refine m_ald_n hC dX7_canTry_2 rfl ?_
  refine m_getI hC 3 dX7_canTry_3 gf_RX7_78 ⟨by decide, rfl⟩ ?_
  rw [hnp]
  refine m_callV (rest := []) hC (kX7_dots hl hI s np hs (by omega)) gc_RX7_131 rfl rfl ⟨by decide, by decide⟩ (Nat.le_of_ble_eq_true rfl) rfl dX7_canTry_6 (fun r z' F' hp => ?_)
  obtain ⟨rfl, hz, hF⟩ := hp
  rw [hz, hF]
  clear hz hF
  refine gVM.eqs (st' := []) rfl rfl rfl rfl ?_
  obtain ⟨Fb, eFb⟩ : ∃ Fb, Fb = F4 F (upto (cN F s) (F 15) np) (upto (rN F s) (F 16) np) (upto (fun _ => -1) (F 17) np) (dotP F s np) := ⟨_, rfl⟩
  rw [← eFb]
  have hFb : fEq F Fb := by rw [eFb]; exact fEq.f4
  have hb15 : ∀ j, j < np → Fb 15 j = cN F s j := fun j hj => by rw [eFb]; exact upto_lt hj
  refine m_ald_n hC dX7_canTry_9 rfl ?_
  refine m_iconst hC dX7_canTry_10 rfl ?_
  refine m_putI hC 20 dX7_canTry_11 gp_RX7_151 ⟨by decide, rfl⟩ ?_
  refine m_iconst hC dX7_canTry_14 rfl ?_
  refine m_istore_n (lv' := [some (.ref mo), some (vi ((s : Int))), some (vi (0)), none]) hC dX7_canTry_15 (by decide) rfl ?_
  refine m_iconst hC dX7_canTry_16 rfl ?_
  refine m_istore_n (lv' := [some (.ref mo), some (vi ((s : Int))), some (vi (0)), some (vi (0))]) hC dX7_canTry_17 (by decide) rfl ?_
  have lp : ∀ n : Nat, n ≤ np → ∀ X : Nat → Int, triedOk X (nmL F s (z 0) n) → gVM x D base 4 mo ad gh 18 [some (.ref mo), some (vi ((s : Int))), some (vi ((((nmL F s (z 0) n).length : Nat) : Int))), some (vi (((n : Nat) : Int)))] [] (gup z 20 ((mn4 (nmL F s (z 0) n).length : Nat) : Int)) (gup Fb 21 X) := by
    refine g_for _ (fun n hn ih => ?_) ?_
    · intro X hX
      have hlen := nmL_len (F := F) (s := s) (day := z 0) n
      have hcn := cN_rng (F := F) (s := s) (i := n)
      have hIx : mI (gup z 20 ((mn4 (nmL F s (z 0) n).length : Nat) : Int)) (gup Fb 21 X) := mI_c (hFb.le.gup (by decide)) (fun k _ h => gup_ne h) hI
      have hnm := nmOf_c (F := F) (F' := gup Fb 21 X) (hFb.le.gup (by decide)) (on := z 0) (i := n)
      refine m_iload_n hC dX7_canTry_18 rfl ?_
      refine m_ald_n hC dX7_canTry_19 rfl ?_
      refine m_getI hC 3 dX7_canTry_20 gf_RX7_78 ⟨by decide, rfl⟩ ?_
      refine m_top (b := z 3) rfl ?_
      rw [hnp]
      refine m_icmp_ge (tgt := 65) hC dX7_canTry_23 (by decide) (by omega) (by omega) (fun c_23 => False.elim (by omega)) (fun c_23 => ?_)
      refine m_ald_n hC dX7_canTry_26 rfl ?_
      refine m_iload_n hC dX7_canTry_27 rfl ?_
      refine m_callV (rest := []) hC (kX7_hasName hl hIx n (by omega) (by show -1 ≤ Fb 15 n ∧ Fb 15 n ≤ 39; rw [hb15 n hn]; exact hcn)) gc_RX7_135 rfl rfl ⟨by decide, by decide⟩ (Nat.le_of_ble_eq_true rfl) rfl dX7_canTry_28 (fun r z' F' hp => ?_)
      obtain ⟨rfl, hz, hF⟩ := hp
      rw [hz, hF]
      clear hz hF
      refine gVM.eqs (st' := [vi (b2i (qOn F s n && decide (nmOf F (z 0) n ≠ -1)))]) rfl (by rw [← cN_on, ← hb15 n hn, ← hnm]; rfl) rfl rfl ?_
      refine m_ifeq_b (tgt := 59) hC dX7_canTry_31 (by decide)  (fun hh => ?_) (fun hh => ?_)
      · refine m_iinc (lv' := [some (.ref mo), some (vi ((s : Int))), some (vi ((((nmL F s (z 0) n).length : Nat) : Int))), some (vi (((n : Nat) : Int) + 1))]) hC dX7_canTry_59 (by decide) rfl rfl ?_
        refine m_goto (tgt := 18) hC dX7_canTry_62 (by decide) ?_
        rw [nmL_s, if_neg (by rw [hh]; decide)] at ih
        refine gVM.eqs (lv' := [some (.ref mo), some (vi ((s : Int))), some (vi ((((nmL F s (z 0) n).length : Nat) : Int))), some (vi (((n + 1 : Nat) : Int)))]) (lcons rfl (lcons rfl (lcons rfl (lcons (svi (by omega)) rfl)))) rfl rfl rfl (ih X hX)
      · rw [nmL_s, if_pos hh] at ih
        obtain ⟨L, eL⟩ : ∃ L, L = nmL F s (z 0) n := ⟨_, rfl⟩
        rw [← eL] at ih hX hlen ⊢
        have hl1 : (L ++ [n]).length = L.length + 1 := by rw [List.length_append, List.length_singleton]
        rw [hl1] at ih
        have hga : ∀ j, j < L.length → (L ++ [n]).getD j 0 = L.getD j 0 := fun j hj => by rw [List.getD_eq_getElem?_getD, List.getD_eq_getElem?_getD, List.getElem?_append_left hj]
        refine m_iload_n hC dX7_canTry_34 rfl ?_
        refine m_iconst hC dX7_canTry_35 rfl ?_
        refine m_icmp_ge (tgt := 56) hC dX7_canTry_36 (by decide) (by omega) (by omega) (fun h4 => ?_) (fun h4 => ?_)
        · refine m_iinc (lv' := [some (.ref mo), some (vi ((s : Int))), some (vi (((L.length : Nat) : Int) + 1)), some (vi (((n : Nat) : Int)))]) hC dX7_canTry_56 (by decide) rfl rfl ?_
          refine m_iinc (lv' := [some (.ref mo), some (vi ((s : Int))), some (vi (((L.length : Nat) : Int) + 1)), some (vi (((n : Nat) : Int) + 1))]) hC dX7_canTry_59 (by decide) rfl rfl ?_
          refine m_goto (tgt := 18) hC dX7_canTry_62 (by decide) ?_
          have e4 : mn4 (L.length + 1) = mn4 L.length := by unfold mn4; rw [if_neg (by omega), if_neg (by omega)]
          rw [e4] at ih
          refine gVM.eqs (lv' := [some (.ref mo), some (vi ((s : Int))), some (vi (((L.length + 1 : Nat) : Int))), some (vi (((n + 1 : Nat) : Int)))]) (lcons rfl (lcons rfl (lcons (svi (by omega)) (lcons (svi (by omega)) rfl)))) rfl rfl rfl (ih X (fun j h1 h2 => by rw [hga j (by omega)]; exact hX j h1 (by omega)))
        · refine m_ald_n hC dX7_canTry_39 rfl ?_
          refine m_getA hC 21 dX7_canTry_40 gf_RX7_59 ⟨by decide, rfl⟩ ?_
          refine m_iload_n hC dX7_canTry_43 rfl ?_
          refine m_iload_n hC dX7_canTry_44 rfl ?_
          refine m_iast hC 21 (L.length) dX7_canTry_45 ⟨by decide, rfl, rfl⟩ rfl (by simp only [mK]; omega) ?_
          refine gVM.eqs (F' := gup Fb 21 (gup X L.length (n : Int))) rfl rfl rfl (gup_gup _ _ _ _) ?_
          refine m_ald_n hC dX7_canTry_46 rfl ?_
          refine m_dup hC dX7_canTry_47 rfl ?_
          refine m_getI hC 20 dX7_canTry_48 gf_RX7_151 ⟨by decide, rfl⟩ ?_
          refine m_top (b := ((mn4 L.length : Nat) : Int)) rfl ?_
          refine m_iconst hC dX7_canTry_51 rfl ?_
          refine m_iadd hC dX7_canTry_52 ?_
          refine m_putI hC 20 dX7_canTry_53 gp_RX7_151 ⟨by decide, rfl⟩ ?_
          refine m_iinc (lv' := [some (.ref mo), some (vi ((s : Int))), some (vi (((L.length : Nat) : Int) + 1)), some (vi (((n : Nat) : Int)))]) hC dX7_canTry_56 (by decide) rfl rfl ?_
          refine m_iinc (lv' := [some (.ref mo), some (vi ((s : Int))), some (vi (((L.length : Nat) : Int) + 1)), some (vi (((n : Nat) : Int) + 1))]) hC dX7_canTry_59 (by decide) rfl rfl ?_
          refine m_goto (tgt := 18) hC dX7_canTry_62 (by decide) ?_
          have e4 : ((mn4 (L.length + 1) : Nat) : Int) = ((mn4 L.length : Nat) : Int) + 1 := by unfold mn4; rw [if_pos (show L.length < 4 by omega)]; split <;> omega
          rw [e4] at ih
          refine gVM.eqs (lv' := [some (.ref mo), some (vi ((s : Int))), some (vi (((L.length + 1 : Nat) : Int))), some (vi (((n + 1 : Nat) : Int)))]) (lcons rfl (lcons rfl (lcons (svi (by omega)) (lcons (svi (by omega)) rfl)))) rfl (gup_gup _ _ _ _) rfl ?_
          exact ih _ (fun j h1 h2 => by
            by_cases e : j = L.length
            · rw [e, gup_eq, List.getD_eq_getElem?_getD, List.getElem?_append_right (Nat.le_refl _), Nat.sub_self]; rfl
            · rw [gup_ne e, hga j (by omega)]; exact hX j h1 (by omega))
    · intro X hX
      have hlen := nmL_len (F := F) (s := s) (day := z 0) np
      refine m_iload_n hC dX7_canTry_18 rfl ?_
      refine m_ald_n hC dX7_canTry_19 rfl ?_
      refine m_getI hC 3 dX7_canTry_20 gf_RX7_78 ⟨by decide, rfl⟩ ?_
      refine m_top (b := z 3) rfl ?_
      rw [hnp]
      refine m_icmp_ge (tgt := 65) hC dX7_canTry_23 (by decide) (by omega) (by omega) (fun c_23 => ?_) (fun c_23 => False.elim (by omega))
      refine m_iload_n hC dX7_canTry_65 rfl ?_
      refine m_iconst hC dX7_canTry_66 rfl ?_
      refine m_icmp_gt (tgt := 74) hC dX7_canTry_67 (by decide) (by omega) (by omega) (fun c_67 => ?_) (fun c_67 => ?_)
      · refine m_iconst hC dX7_canTry_74 rfl ?_
        refine m_top (b := b2i (decide ((nmL F s (z 0) np).length ≤ 4))) (b2i_f (decide_eq_false (by omega))) ?_
        exact m_bret hC hq dX7_canTry_75 ⟨by rw [hnp]; rfl, by rw [hnp]; rfl, X, by rw [eFb, hnp]; rfl, by rw [hnp]; exact hX⟩
      · refine m_iconst hC dX7_canTry_70 rfl ?_
        refine m_goto (tgt := 75) hC dX7_canTry_71 (by decide) ?_
        refine m_top (b := b2i (decide ((nmL F s (z 0) np).length ≤ 4))) (b2i_t (decide_eq_true (by omega))) ?_
        exact m_bret hC hq dX7_canTry_75 ⟨by rw [hnp]; rfl, by rw [hnp]; rfl, X, by rw [eFb, hnp]; rfl, by rw [hnp]; exact hX⟩
  refine gVM.eqs (lv' := [some (.ref mo), some (vi ((s : Int))), some (vi ((((nmL F s (z 0) 0).length : Nat) : Int))), some (vi (((0 : Nat) : Int)))]) (F' := gup Fb 21 (Fb 21)) rfl rfl rfl (gup_self Fb 21).symm (lp 0 (Nat.zero_le _) (Fb 21) (fun j _ h => absurd h (Nat.not_lt_zero _)))

end M11
