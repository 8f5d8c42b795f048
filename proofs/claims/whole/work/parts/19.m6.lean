/-! the reference: lays -/
section M6
theorem nmR_F4 {F : Nat → Nat → Int} {A B C P : Nat → Int} {on : Int} {i : Nat} : ∀ n : Nat, nmR (F4 F A B C P) on i n = nmR F on i n
  | 0 => rfl
  | n + 1 => by
    rw [nmR_s, nmR_s, nmR_F4 n]
    rfl
theorem nmOf_F4 {F : Nat → Nat → Int} {A B C P : Nat → Int} {on : Int} {i : Nat} : nmOf (F4 F A B C P) on i = nmOf F on i := nmR_F4 _
theorem gVM.drop {x : gX} {D : gD} {base nL pc mo : Nat} {ad : Nat → Nat} {gh0 : gH} {lv lv' : List (Option Value)} {st : List Value} {z : Nat → Int} {F : Nat → Nat → Int} (hn : True) (h : ∀ (k : Nat) (v : Value), lv'[k]? = some (some v) → lv[k]? = some (some v)) (k : gVM x D base nL mo ad gh0 pc lv' st z F) : gVM x D base nL mo ad gh0 pc lv st z F := fun gh h1 h2 => by
  obtain ⟨p, l', e, R, s, m, args, below, meth, c, Q⟩ := x
  intro H locs ls hG hS hl
  exact k gh h1 h2 H locs ls hG hS ⟨hl.1, hl.2.1, fun i v hv => hl.2.2 i v (h i v hv)⟩
set_option maxHeartbeats 4000000 in
set_option maxRecDepth 100000 in
theorem kX7_lays {l : Launch} (hl : l.stackTraces = false) {D : gD} {base mo : Nat} {ad : Nat → Nat} {z : Nat → Int} {F : Nat → Nat → Int} (hI : mI z F) (s : Nat) (hs : (s : Int) < z 11) : mM l D base yX7_lays cX7_lays 6 none 3 67 mo ad [vi ((s : Int))] z F (fun r z' F' => r = none ∧ z' = z ∧ F' = F4 F (upto (cN F s) (F 15) (z 3).toNat) (upto (rN F s) (F 16) (z 3).toNat) (layA F s (z 3).toNat (z 0) (F 17)).1 (layA F s (z 3).toNat (z 0) (F 17)).2) := by
  obtain ⟨i0, i1, i3, i11, i22, iw, ip, inn, inm, ish⟩ := id hI
  refine mM.of hl (by decide) (by simp [Value.category]) (Nat.le_of_ble_eq_true rfl) [some (.ref mo), some (vi ((s : Int))), none, none, none, none] rfl (fun gh x hC hq => ?_)
  obtain ⟨np, hnp⟩ : ∃ np : Nat, z 3 = (np : Int) := ⟨(z 3).toNat, by omega⟩
  have hnp14 : np ≤ 14 := by omega
  refine m_ald_n hC dX7_lays_0 rfl ?_
  refine m_iload_n hC dX7_lays_1 rfl ?_
  refine m_ald_n hC dX7_lays_2 rfl ?_
  refine m_getI hC 3 dX7_lays_3 gf_RX7_78 ⟨by decide, rfl⟩ ?_
  rw [hnp]
  refine m_callV (rest := []) hC (kX7_dots hl hI s np hs (by omega)) gc_RX7_131 rfl rfl ⟨by decide, by decide⟩ (Nat.le_of_ble_eq_true rfl) rfl dX7_lays_6 (fun r z' F' hp => ?_)
  obtain ⟨rfl, hz, hF⟩ := hp
  rw [hz, hF]
  clear hz hF
  refine gVM.eqs (st' := []) rfl rfl rfl rfl ?_
  refine m_iconst hC dX7_lays_9 rfl ?_
  refine m_istore_n (lv' := [some (.ref mo), some (vi ((s : Int))), some (vi (5)), none, none, none]) hC dX7_lays_10 (by decide) rfl ?_
  have lp : ∀ m : Nat, m ≤ 5 → gVM x D base 6 mo ad gh 11 [some (.ref mo), some (vi (s : Int)), some (vi (5 - ((m : Nat) : Int))), none, none, none] [] z (F4 F (upto (cN F s) (F 15) np) (upto (rN F s) (F 16) np) ((layUp F s np (z 0) (upto (fun _ => -1) (F 17) np, dotP F s np) m).1) ((layUp F s np (z 0) (upto (fun _ => -1) (F 17) np, dotP F s np) m).2)) := by
    refine g_for _ (fun m hm ih => ?_) ?_
    · obtain ⟨st, est⟩ : ∃ st, st = layUp F s np (z 0) (upto (fun _ => -1) (F 17) np, dotP F s np) m := ⟨_, rfl⟩
      rw [← est]
      have hst2 : Pok st.2 := by rw [est]; exact layUp_ok hI (dotP_ok np) hnp14 m
      have hst1 : ∀ j : Nat, j < np → F 6 j ≤ 5 - (m : Int) → st.1 j = -1 := fun j hj h6 => by rw [est, layUp_side m h6]; exact (upto_lt hj : upto (fun _ => (-1 : Int)) (F 17) np j = -1)
      refine m_iload_n hC dX7_lays_11 rfl ?_
      refine m_if_le (tgt := 120) hC dX7_lays_12 (by decide) (by omega) (fun c_12 => False.elim (by omega)) (fun c_12 => ?_)
      refine m_iconst hC dX7_lays_15 rfl ?_
      refine m_istore_n (lv' := [some (.ref mo), some (vi ((s : Int))), some (vi (5 - ((m : Nat) : Int))), some (vi (0)), none, none]) hC dX7_lays_16 (by decide) rfl ?_
      have li : ∀ n : Nat, n ≤ np → gVM x D base 6 mo ad gh 17 [some (.ref mo), some (vi (s : Int)), some (vi (5 - ((m : Nat) : Int))), some (vi ((n : Nat) : Int)), none, none] [] z (F4 F (upto (cN F s) (F 15) np) (upto (rN F s) (F 16) np) ((layIn F s (z 0) (5 - (m : Int)) st n).1) ((layIn F s (z 0) (5 - (m : Int)) st n).2)) := by
        refine g_for _ (fun n hn ih2 => ?_) ?_
        · obtain ⟨su, esu⟩ : ∃ su, su = layIn F s (z 0) (5 - (m : Int)) st n := ⟨_, rfl⟩
          rw [← esu]
          have hsu2 : Pok su.2 := by rw [esu]; exact layIn_ok hI hst2 n (by omega)
          have hsu1 : F 6 n = 5 - (m : Int) → su.1 n = -1 := fun h6 => by rw [esu, layIn_side n (Or.inl (Nat.le_refl n))]; exact hst1 n hn (by omega)
          rw [layIn_s, ← esu] at ih2
          have hp := ip n (by omega)
          have hcn := cN_rng (F := F) (s := s) (i := n)
          have hIs : mI z (F4 F (upto (cN F s) (F 15) np) (upto (rN F s) (F 16) np) ((su).1) ((su).2)) := hI
          have eA : (upto (cN F s) (F 15) np) n = cN F s n := upto_lt hn
          have eB : (upto (rN F s) (F 16) np) n = rN F s n := upto_lt hn
          refine m_iload_n hC dX7_lays_17 rfl ?_
          refine m_ald_n hC dX7_lays_18 rfl ?_
          refine m_getI hC 3 dX7_lays_19 gf_RX7_78 ⟨by decide, rfl⟩ ?_
          rw [hnp]
          refine m_icmp_ge (tgt := 114) hC dX7_lays_22 (by decide) (by omega) (by omega) (fun c_22 => False.elim (by omega)) (fun c_22 => ?_)
          refine m_ald_n hC dX7_lays_25 rfl ?_
          refine m_getA hC 6 dX7_lays_26 gf_RX7_20 ⟨by decide, rfl⟩ ?_
          refine m_iload_n hC dX7_lays_29 rfl ?_
          refine m_iald hC 6 (n) dX7_lays_30 ⟨by decide, rfl, rfl⟩ rfl (by simp only [mK]; omega) ?_
          refine m_top (b := F 6 (n)) rfl ?_
          refine m_iload_n hC dX7_lays_31 rfl ?_
          refine m_icmp_ne (tgt := 108) hC dX7_lays_32 (by decide) (by omega) (by omega) (fun h6 => ?_) (fun h6 => ?_)
          · refine m_iinc (lv' := [some (.ref mo), some (vi ((s : Int))), some (vi (5 - (m : Int))), some (vi ((n : Int) + 1)), none, none]) hC dX7_lays_108 (by decide) rfl rfl ?_
            refine m_goto (tgt := 17) hC dX7_lays_111 (by decide) ?_
            rw [if_neg (fun hc => h6 (layC_iff.mp hc).1)] at ih2
            refine gVM.eqs (lv' := [some (.ref mo), some (vi ((s : Int))), some (vi (5 - (m : Int))), some (vi (((n + 1 : Nat) : Int))), none, none]) (lcons rfl (lcons rfl (lcons rfl (lcons (svi (by omega)) (lcons rfl (lcons rfl rfl)))))) rfl rfl rfl ih2
          · refine m_ald_n hC dX7_lays_35 rfl ?_
            refine m_iload_n hC dX7_lays_36 rfl ?_
            refine m_callV (rest := []) hC (kX7_hasName hl hIs n (by omega) (by show -1 ≤ (upto (cN F s) (F 15) np) n ∧ (upto (cN F s) (F 15) np) n ≤ (39 : Int); rw [eA]; exact hcn)) gc_RX7_135 rfl rfl ⟨by decide, by decide⟩ (Nat.le_of_ble_eq_true rfl) rfl dX7_lays_37 (fun r z' F' hp => ?_)
            obtain ⟨rfl, hz, hF⟩ := hp
            rw [hz, hF]
            clear hz hF
            refine gVM.eqs (st' := [vi (b2i (decide ((upto (cN F s) (F 15) np) n ≠ -1) && decide (nmOf F (z 0) n ≠ -1)))]) rfl (by rw [nmOf_F4] <;> rfl) rfl rfl ?_
            rw [eA, cN_on]
            refine m_ifeq_b (tgt := 108) hC dX7_lays_40 (by decide)  (fun hh => ?_) (fun hh => ?_)
            · refine m_iinc (lv' := [some (.ref mo), some (vi ((s : Int))), some (vi (5 - (m : Int))), some (vi ((n : Int) + 1)), none, none]) hC dX7_lays_108 (by decide) rfl rfl ?_
              refine m_goto (tgt := 17) hC dX7_lays_111 (by decide) ?_
              rw [if_neg (fun hc => by rw [(layC_iff.mp hc).2.1, decide_eq_true (layC_iff.mp hc).2.2] at hh; cases hh)] at ih2
              refine gVM.eqs (lv' := [some (.ref mo), some (vi ((s : Int))), some (vi (5 - (m : Int))), some (vi (((n + 1 : Nat) : Int))), none, none]) (lcons rfl (lcons rfl (lcons rfl (lcons (svi (by omega)) (lcons rfl (lcons rfl rfl)))))) rfl rfl rfl ih2
            · rw [Bool.and_eq_true, decide_eq_true_iff] at hh
              obtain ⟨ho, hnn⟩ := hh
              rw [if_pos (layC_iff.mpr ⟨h6, ho, hnn⟩)] at ih2
              have hnk := nm_ok hI (on := z 0) (i := n) (by omega) hnn
              have er : (upto (rN F s) (F 16) np) n = qRow F s n := by rw [eB]; unfold rN; rw [if_pos ho]
              have ec : (upto (cN F s) (F 15) np) n = qCol F s n := by rw [eA]; unfold cN; rw [if_pos ho]
              have hcr := qCol_rng ho
              have hrr := qRow_rng ho
              have hs0 := hsu1 h6
              refine m_ald_n hC dX7_lays_43 rfl ?_
              refine m_iload_n hC dX7_lays_44 rfl ?_
              refine m_ald_n hC dX7_lays_45 rfl ?_
              refine m_getI hC 0 dX7_lays_46 gf_RX7_103 ⟨by decide, rfl⟩ ?_
              refine m_callV (rest := []) hC (kX7_nameOn hl hIs n (by omega) (z 0) (by omega)) gc_RX7_106 rfl rfl ⟨by decide, by decide⟩ (Nat.le_of_ble_eq_true rfl) rfl dX7_lays_49 (fun r z' F' hp => ?_)
              obtain ⟨rfl, hz, hF⟩ := hp
              rw [hz, hF]
              clear hz hF
              refine gVM.eqs (st' := [vi (nmOf F (z 0) n)]) rfl (by rw [nmOf_F4] <;> rfl) rfl rfl ?_
              obtain ⟨q, eq⟩ : ∃ q : Nat, nmOf F (z 0) n = (q : Int) := ⟨(nmOf F (z 0) n).toNat, hnk.2.1.symm⟩
              have hih2 := ih2
              unfold lay1 at hih2
              rw [eq] at hnk hih2 ⊢
              rw [Int.toNat_natCast] at hnk hih2
              obtain ⟨hq84, -, hm1, hm8, hlt⟩ := hnk
              have hgo : ∀ sd, sd = sideF su.2 (qRow F s n) (qCol F s n) (F 9 q) → sd ≠ -1 → gVM x D base 6 mo ad gh 17 [some (.ref mo), some (vi (s : Int)), some (vi (5 - ((m : Nat) : Int))), some (vi (((n + 1) : Nat) : Int)), none, none] [] z (F4 F (upto (cN F s) (F 15) np) (upto (rN F s) (F 16) np) (gup su.1 n sd) (putN su.2 (40 * rowAtN (qRow F s n) sd + colAtN (qCol F s n) sd (F 9 q)).toNat (fun t => F 10 (8 * q + t)) (F 9 q).toNat)) := by
                intro sd e1 e2
                rw [← e1, if_neg e2] at hih2
                exact hih2
              refine m_istore (lv' := [some (.ref mo), some (vi ((s : Int))), some (vi (5 - (m : Int))), some (vi ((n : Int))), some (vi ((q : Int))), none]) hC dX7_lays_52 (by decide) rfl ?_
              refine m_iconst hC dX7_lays_54 rfl ?_
              refine m_istore (lv' := [some (.ref mo), some (vi ((s : Int))), some (vi (5 - (m : Int))), some (vi ((n : Int))), some (vi ((q : Int))), some (vi (0))]) hC dX7_lays_55 (by decide) rfl ?_
              refine m_iload hC dX7_lays_57 rfl ?_
              refine m_iconst hC dX7_lays_59 rfl ?_
              refine m_icmp_ge (tgt := 108) hC dX7_lays_60 (by decide) (by omega) (by omega) (fun c_60 => False.elim (by omega)) (fun c_60 => ?_)
              refine m_ald_n hC dX7_lays_63 rfl ?_
              refine m_getA hC 17 dX7_lays_64 gf_RX7_50 ⟨by decide, rfl⟩ ?_
              refine m_iload_n hC dX7_lays_67 rfl ?_
              refine m_iald hC 17 (n) dX7_lays_68 ⟨by decide, rfl, rfl⟩ rfl (by simp only [mK]; omega) ?_
              refine m_top (b := (su).1 (n)) rfl ?_
              rw [hs0]
              refine m_iconst hC dX7_lays_69 rfl ?_
              refine m_icmp_ne (tgt := 108) hC dX7_lays_70 (by decide) (by omega) (by omega) (fun c_70 => False.elim (by omega)) (fun c_70 => ?_)
              refine m_ald_n hC dX7_lays_73 rfl ?_
              refine m_iload_n hC dX7_lays_74 rfl ?_
              refine m_iload hC dX7_lays_75 rfl ?_
              refine m_iload hC dX7_lays_77 rfl ?_
              refine m_callV (rest := []) hC (kX7_mayStand' hl hIs n q (by omega) hq84 0 (by decide) er ec rfl rfl (by omega) (by omega) ⟨hm1, hm8⟩ hsu2) gc_RX7_138 rfl rfl ⟨by decide, by decide⟩ (Nat.le_of_ble_eq_true rfl) rfl dX7_lays_79 (fun r z' F' hp => ?_)
              obtain ⟨rfl, hz, hF⟩ := hp
              rw [hz, hF]
              clear hz hF
              refine gVM.eqs (st' := [vi (b2i (mayB su.2 (rowAtN (qRow F s n) 0) (colAtN (qCol F s n) 0 (F 9 q)) (F 9 q)))]) rfl rfl rfl rfl ?_
              refine m_ifeq_b (tgt := 102) hC dX7_lays_82 (by decide)  (fun hy0 => ?_) (fun hy0 => ?_)
              · refine m_iinc (lv' := [some (.ref mo), some (vi ((s : Int))), some (vi (5 - (m : Int))), some (vi ((n : Int))), some (vi ((q : Int))), some (vi (0 + 1))]) hC dX7_lays_102 (by decide) rfl rfl ?_
                refine m_goto (tgt := 57) hC dX7_lays_105 (by decide) ?_
                refine gVM.eqs (lv' := [some (.ref mo), some (vi ((s : Int))), some (vi (5 - (m : Int))), some (vi ((n : Int))), some (vi ((q : Int))), some (vi (1))]) rfl rfl rfl rfl ?_
                refine m_iload hC dX7_lays_57 rfl ?_
                refine m_iconst hC dX7_lays_59 rfl ?_
                refine m_icmp_ge (tgt := 108) hC dX7_lays_60 (by decide) (by omega) (by omega) (fun c_60 => False.elim (by omega)) (fun c_60 => ?_)
                refine m_ald_n hC dX7_lays_63 rfl ?_
                refine m_getA hC 17 dX7_lays_64 gf_RX7_50 ⟨by decide, rfl⟩ ?_
                refine m_iload_n hC dX7_lays_67 rfl ?_
                refine m_iald hC 17 (n) dX7_lays_68 ⟨by decide, rfl, rfl⟩ rfl (by simp only [mK]; omega) ?_
                refine m_top (b := (su).1 (n)) rfl ?_
                rw [hs0]
                refine m_iconst hC dX7_lays_69 rfl ?_
                refine m_icmp_ne (tgt := 108) hC dX7_lays_70 (by decide) (by omega) (by omega) (fun c_70 => False.elim (by omega)) (fun c_70 => ?_)
                refine m_ald_n hC dX7_lays_73 rfl ?_
                refine m_iload_n hC dX7_lays_74 rfl ?_
                refine m_iload hC dX7_lays_75 rfl ?_
                refine m_iload hC dX7_lays_77 rfl ?_
                refine m_callV (rest := []) hC (kX7_mayStand' hl hIs n q (by omega) hq84 1 (by decide) er ec rfl rfl (by omega) (by omega) ⟨hm1, hm8⟩ hsu2) gc_RX7_138 rfl rfl ⟨by decide, by decide⟩ (Nat.le_of_ble_eq_true rfl) rfl dX7_lays_79 (fun r z' F' hp => ?_)
                obtain ⟨rfl, hz, hF⟩ := hp
                rw [hz, hF]
                clear hz hF
                refine gVM.eqs (st' := [vi (b2i (mayB su.2 (rowAtN (qRow F s n) 1) (colAtN (qCol F s n) 1 (F 9 q)) (F 9 q)))]) rfl rfl rfl rfl ?_
                refine m_ifeq_b (tgt := 102) hC dX7_lays_82 (by decide)  (fun hy1 => ?_) (fun hy1 => ?_)
                · refine m_iinc (lv' := [some (.ref mo), some (vi ((s : Int))), some (vi (5 - (m : Int))), some (vi ((n : Int))), some (vi ((q : Int))), some (vi (1 + 1))]) hC dX7_lays_102 (by decide) rfl rfl ?_
                  refine m_goto (tgt := 57) hC dX7_lays_105 (by decide) ?_
                  refine gVM.eqs (lv' := [some (.ref mo), some (vi ((s : Int))), some (vi (5 - (m : Int))), some (vi ((n : Int))), some (vi ((q : Int))), some (vi (2))]) rfl rfl rfl rfl ?_
                  refine m_iload hC dX7_lays_57 rfl ?_
                  refine m_iconst hC dX7_lays_59 rfl ?_
                  refine m_icmp_ge (tgt := 108) hC dX7_lays_60 (by decide) (by omega) (by omega) (fun c_60 => False.elim (by omega)) (fun c_60 => ?_)
                  refine m_ald_n hC dX7_lays_63 rfl ?_
                  refine m_getA hC 17 dX7_lays_64 gf_RX7_50 ⟨by decide, rfl⟩ ?_
                  refine m_iload_n hC dX7_lays_67 rfl ?_
                  refine m_iald hC 17 (n) dX7_lays_68 ⟨by decide, rfl, rfl⟩ rfl (by simp only [mK]; omega) ?_
                  refine m_top (b := (su).1 (n)) rfl ?_
                  rw [hs0]
                  refine m_iconst hC dX7_lays_69 rfl ?_
                  refine m_icmp_ne (tgt := 108) hC dX7_lays_70 (by decide) (by omega) (by omega) (fun c_70 => False.elim (by omega)) (fun c_70 => ?_)
                  refine m_ald_n hC dX7_lays_73 rfl ?_
                  refine m_iload_n hC dX7_lays_74 rfl ?_
                  refine m_iload hC dX7_lays_75 rfl ?_
                  refine m_iload hC dX7_lays_77 rfl ?_
                  refine m_callV (rest := []) hC (kX7_mayStand' hl hIs n q (by omega) hq84 2 (by decide) er ec rfl rfl (by omega) (by omega) ⟨hm1, hm8⟩ hsu2) gc_RX7_138 rfl rfl ⟨by decide, by decide⟩ (Nat.le_of_ble_eq_true rfl) rfl dX7_lays_79 (fun r z' F' hp => ?_)
                  obtain ⟨rfl, hz, hF⟩ := hp
                  rw [hz, hF]
                  clear hz hF
                  refine gVM.eqs (st' := [vi (b2i (mayB su.2 (rowAtN (qRow F s n) 2) (colAtN (qCol F s n) 2 (F 9 q)) (F 9 q)))]) rfl rfl rfl rfl ?_
                  refine m_ifeq_b (tgt := 102) hC dX7_lays_82 (by decide)  (fun hy2 => ?_) (fun hy2 => ?_)
                  · refine m_iinc (lv' := [some (.ref mo), some (vi ((s : Int))), some (vi (5 - (m : Int))), some (vi ((n : Int))), some (vi ((q : Int))), some (vi (2 + 1))]) hC dX7_lays_102 (by decide) rfl rfl ?_
                    refine m_goto (tgt := 57) hC dX7_lays_105 (by decide) ?_
                    refine gVM.eqs (lv' := [some (.ref mo), some (vi ((s : Int))), some (vi (5 - (m : Int))), some (vi ((n : Int))), some (vi ((q : Int))), some (vi (3))]) rfl rfl rfl rfl ?_
                    refine m_iload hC dX7_lays_57 rfl ?_
                    refine m_iconst hC dX7_lays_59 rfl ?_
                    refine m_icmp_ge (tgt := 108) hC dX7_lays_60 (by decide) (by omega) (by omega) (fun c_60 => False.elim (by omega)) (fun c_60 => ?_)
                    refine m_ald_n hC dX7_lays_63 rfl ?_
                    refine m_getA hC 17 dX7_lays_64 gf_RX7_50 ⟨by decide, rfl⟩ ?_
                    refine m_iload_n hC dX7_lays_67 rfl ?_
                    refine m_iald hC 17 (n) dX7_lays_68 ⟨by decide, rfl, rfl⟩ rfl (by simp only [mK]; omega) ?_
                    refine m_top (b := (su).1 (n)) rfl ?_
                    rw [hs0]
                    refine m_iconst hC dX7_lays_69 rfl ?_
                    refine m_icmp_ne (tgt := 108) hC dX7_lays_70 (by decide) (by omega) (by omega) (fun c_70 => False.elim (by omega)) (fun c_70 => ?_)
                    refine m_ald_n hC dX7_lays_73 rfl ?_
                    refine m_iload_n hC dX7_lays_74 rfl ?_
                    refine m_iload hC dX7_lays_75 rfl ?_
                    refine m_iload hC dX7_lays_77 rfl ?_
                    refine m_callV (rest := []) hC (kX7_mayStand' hl hIs n q (by omega) hq84 3 (by decide) er ec rfl rfl (by omega) (by omega) ⟨hm1, hm8⟩ hsu2) gc_RX7_138 rfl rfl ⟨by decide, by decide⟩ (Nat.le_of_ble_eq_true rfl) rfl dX7_lays_79 (fun r z' F' hp => ?_)
                    obtain ⟨rfl, hz, hF⟩ := hp
                    rw [hz, hF]
                    clear hz hF
                    refine gVM.eqs (st' := [vi (b2i (mayB su.2 (rowAtN (qRow F s n) 3) (colAtN (qCol F s n) 3 (F 9 q)) (F 9 q)))]) rfl rfl rfl rfl ?_
                    refine m_ifeq_b (tgt := 102) hC dX7_lays_82 (by decide)  (fun hy3 => ?_) (fun hy3 => ?_)
                    · refine m_iinc (lv' := [some (.ref mo), some (vi ((s : Int))), some (vi (5 - (m : Int))), some (vi ((n : Int))), some (vi ((q : Int))), some (vi (3 + 1))]) hC dX7_lays_102 (by decide) rfl rfl ?_
                      refine m_goto (tgt := 57) hC dX7_lays_105 (by decide) ?_
                      refine gVM.eqs (lv' := [some (.ref mo), some (vi ((s : Int))), some (vi (5 - (m : Int))), some (vi ((n : Int))), some (vi ((q : Int))), some (vi (4))]) rfl rfl rfl rfl ?_
                      refine m_iload hC dX7_lays_57 rfl ?_
                      refine m_iconst hC dX7_lays_59 rfl ?_
                      refine m_icmp_ge (tgt := 108) hC dX7_lays_60 (by decide) (by omega) (by omega) (fun c_60 => ?_) (fun c_60 => False.elim (by omega))
                      refine m_iinc (lv' := [some (.ref mo), some (vi ((s : Int))), some (vi (5 - (m : Int))), some (vi ((n : Int) + 1)), some (vi ((q : Int))), some (vi (4))]) hC dX7_lays_108 (by decide) rfl rfl ?_
                      refine m_goto (tgt := 17) hC dX7_lays_111 (by decide) ?_
                      have e9 : sideF su.2 (qRow F s n) (qCol F s n) (F 9 q) = -1 := by unfold sideF; rw [if_neg (by rw [hy0]; decide), if_neg (by rw [hy1]; decide), if_neg (by rw [hy2]; decide), if_neg (by rw [hy3]; decide)]
                      rw [if_pos e9] at hih2
                      refine gVM.eqs (lv' := [some (.ref mo), some (vi ((s : Int))), some (vi (5 - (m : Int))), some (vi (((n + 1 : Nat) : Int))), some (vi ((q : Int))), some (vi (4))]) (lcons rfl (lcons rfl (lcons rfl (lcons (svi (by omega)) (lcons rfl (lcons rfl rfl)))))) rfl rfl rfl ?_
                      exact gVM.drop (lv' := [some (.ref mo), some (vi (s : Int)), some (vi (5 - ((m : Nat) : Int))), some (vi (((n + 1) : Nat) : Int)), none, none]) trivial (by intro k v hk; match k, hk with | 0, hk => exact hk | 1, hk => exact hk | 2, hk => exact hk | 3, hk => exact hk | 4, hk => exact absurd hk (by simp) | 5, hk => exact absurd hk (by simp) | k + 6, hk => exact absurd hk (by simp)) hih2
                    · have hfit := mayB_fit hy3
                      refine m_ald_n hC dX7_lays_85 rfl ?_
                      refine m_iload_n hC dX7_lays_86 rfl ?_
                      refine m_iload hC dX7_lays_87 rfl ?_
                      refine m_iload hC dX7_lays_89 rfl ?_
                      refine m_callV (rest := []) hC (kX7_puts' hl hIs n q (by omega) hq84 3 (by decide) er ec rfl rfl (by omega) (by omega) ⟨hm1, hm8⟩ hfit hlt) gc_RX7_141 rfl rfl ⟨by decide, by decide⟩ (Nat.le_of_ble_eq_true rfl) rfl dX7_lays_91 (fun r z' F' hp => ?_)
                      obtain ⟨rfl, hz, hF⟩ := hp
                      rw [hz, hF, F4_18]
                      clear hz hF
                      refine gVM.eqs (st' := []) rfl rfl rfl rfl ?_
                      refine m_ald_n hC dX7_lays_94 rfl ?_
                      refine m_getA hC 17 dX7_lays_95 gf_RX7_50 ⟨by decide, rfl⟩ ?_
                      refine m_iload_n hC dX7_lays_98 rfl ?_
                      refine m_iload hC dX7_lays_99 rfl ?_
                      refine m_iast hC 17 (n) dX7_lays_101 ⟨by decide, rfl, rfl⟩ rfl (by simp only [mK]; omega) ?_
                      refine gVM.eqs (F' := F4 F (upto (cN F s) (F 15) np) (upto (rN F s) (F 16) np) (gup (su.1) (n) (3)) (putN su.2 (40 * rowAtN (qRow F s n) 3 + colAtN (qCol F s n) 3 (F 9 q)).toNat (fun t => F 10 (8 * q + t)) (F 9 q).toNat)) rfl rfl rfl (F4_17 _ _ _ _ _ _) ?_
                      refine m_iinc (lv' := [some (.ref mo), some (vi ((s : Int))), some (vi (5 - (m : Int))), some (vi ((n : Int))), some (vi ((q : Int))), some (vi (3 + 1))]) hC dX7_lays_102 (by decide) rfl rfl ?_
                      refine m_goto (tgt := 57) hC dX7_lays_105 (by decide) ?_
                      refine m_iload hC dX7_lays_57 rfl ?_
                      refine m_iconst hC dX7_lays_59 rfl ?_
                      refine m_icmp_ge (tgt := 108) hC dX7_lays_60 (by decide) (by omega) (by omega) (fun c_60 => ?_) (fun c_60 => False.elim (by omega))
                      refine m_iinc (lv' := [some (.ref mo), some (vi ((s : Int))), some (vi (5 - (m : Int))), some (vi ((n : Int) + 1)), some (vi ((q : Int))), some (vi (3 + 1))]) hC dX7_lays_108 (by decide) rfl rfl ?_
                      refine m_goto (tgt := 17) hC dX7_lays_111 (by decide) ?_
                      have hg9 := hgo 3 (by unfold sideF; rw [if_neg (by rw [hy0]; decide), if_neg (by rw [hy1]; decide), if_neg (by rw [hy2]; decide), if_pos hy3]) (by decide)
                      refine gVM.eqs (lv' := [some (.ref mo), some (vi ((s : Int))), some (vi (5 - (m : Int))), some (vi (((n + 1 : Nat) : Int))), some (vi ((q : Int))), some (vi (3 + 1))]) (lcons rfl (lcons rfl (lcons rfl (lcons (svi (by omega)) (lcons rfl (lcons rfl rfl)))))) rfl rfl rfl ?_
                      exact gVM.drop (lv' := [some (.ref mo), some (vi (s : Int)), some (vi (5 - ((m : Nat) : Int))), some (vi (((n + 1) : Nat) : Int)), none, none]) trivial (by intro k v hk; match k, hk with | 0, hk => exact hk | 1, hk => exact hk | 2, hk => exact hk | 3, hk => exact hk | 4, hk => exact absurd hk (by simp) | 5, hk => exact absurd hk (by simp) | k + 6, hk => exact absurd hk (by simp)) hg9
                  · have hfit := mayB_fit hy2
                    refine m_ald_n hC dX7_lays_85 rfl ?_
                    refine m_iload_n hC dX7_lays_86 rfl ?_
                    refine m_iload hC dX7_lays_87 rfl ?_
                    refine m_iload hC dX7_lays_89 rfl ?_
                    refine m_callV (rest := []) hC (kX7_puts' hl hIs n q (by omega) hq84 2 (by decide) er ec rfl rfl (by omega) (by omega) ⟨hm1, hm8⟩ hfit hlt) gc_RX7_141 rfl rfl ⟨by decide, by decide⟩ (Nat.le_of_ble_eq_true rfl) rfl dX7_lays_91 (fun r z' F' hp => ?_)
                    obtain ⟨rfl, hz, hF⟩ := hp
                    rw [hz, hF, F4_18]
                    clear hz hF
                    refine gVM.eqs (st' := []) rfl rfl rfl rfl ?_
                    refine m_ald_n hC dX7_lays_94 rfl ?_
                    refine m_getA hC 17 dX7_lays_95 gf_RX7_50 ⟨by decide, rfl⟩ ?_
                    refine m_iload_n hC dX7_lays_98 rfl ?_
                    refine m_iload hC dX7_lays_99 rfl ?_
                    refine m_iast hC 17 (n) dX7_lays_101 ⟨by decide, rfl, rfl⟩ rfl (by simp only [mK]; omega) ?_
                    refine gVM.eqs (F' := F4 F (upto (cN F s) (F 15) np) (upto (rN F s) (F 16) np) (gup (su.1) (n) (2)) (putN su.2 (40 * rowAtN (qRow F s n) 2 + colAtN (qCol F s n) 2 (F 9 q)).toNat (fun t => F 10 (8 * q + t)) (F 9 q).toNat)) rfl rfl rfl (F4_17 _ _ _ _ _ _) ?_
                    refine m_iinc (lv' := [some (.ref mo), some (vi ((s : Int))), some (vi (5 - (m : Int))), some (vi ((n : Int))), some (vi ((q : Int))), some (vi (2 + 1))]) hC dX7_lays_102 (by decide) rfl rfl ?_
                    refine m_goto (tgt := 57) hC dX7_lays_105 (by decide) ?_
                    refine m_iload hC dX7_lays_57 rfl ?_
                    refine m_iconst hC dX7_lays_59 rfl ?_
                    refine m_icmp_ge (tgt := 108) hC dX7_lays_60 (by decide) (by omega) (by omega) (fun c_60 => False.elim (by omega)) (fun c_60 => ?_)
                    refine m_ald_n hC dX7_lays_63 rfl ?_
                    refine m_getA hC 17 dX7_lays_64 gf_RX7_50 ⟨by decide, rfl⟩ ?_
                    refine m_iload_n hC dX7_lays_67 rfl ?_
                    refine m_iald hC 17 (n) dX7_lays_68 ⟨by decide, rfl, rfl⟩ rfl (by simp only [mK]; omega) ?_
                    refine m_top (b := (gup (su.1) (n) (2)) (n)) rfl ?_
                    rw [gup_eq]
                    refine m_iconst hC dX7_lays_69 rfl ?_
                    refine m_icmp_ne (tgt := 108) hC dX7_lays_70 (by decide) (by omega) (by omega) (fun c_70 => ?_) (fun c_70 => False.elim (by omega))
                    refine m_iinc (lv' := [some (.ref mo), some (vi ((s : Int))), some (vi (5 - (m : Int))), some (vi ((n : Int) + 1)), some (vi ((q : Int))), some (vi (2 + 1))]) hC dX7_lays_108 (by decide) rfl rfl ?_
                    refine m_goto (tgt := 17) hC dX7_lays_111 (by decide) ?_
                    have hg9 := hgo 2 (by unfold sideF; rw [if_neg (by rw [hy0]; decide), if_neg (by rw [hy1]; decide), if_pos hy2]) (by decide)
                    refine gVM.eqs (lv' := [some (.ref mo), some (vi ((s : Int))), some (vi (5 - (m : Int))), some (vi (((n + 1 : Nat) : Int))), some (vi ((q : Int))), some (vi (2 + 1))]) (lcons rfl (lcons rfl (lcons rfl (lcons (svi (by omega)) (lcons rfl (lcons rfl rfl)))))) rfl rfl rfl ?_
                    exact gVM.drop (lv' := [some (.ref mo), some (vi (s : Int)), some (vi (5 - ((m : Nat) : Int))), some (vi (((n + 1) : Nat) : Int)), none, none]) trivial (by intro k v hk; match k, hk with | 0, hk => exact hk | 1, hk => exact hk | 2, hk => exact hk | 3, hk => exact hk | 4, hk => exact absurd hk (by simp) | 5, hk => exact absurd hk (by simp) | k + 6, hk => exact absurd hk (by simp)) hg9
                · have hfit := mayB_fit hy1
                  refine m_ald_n hC dX7_lays_85 rfl ?_
                  refine m_iload_n hC dX7_lays_86 rfl ?_
                  refine m_iload hC dX7_lays_87 rfl ?_
                  refine m_iload hC dX7_lays_89 rfl ?_
                  refine m_callV (rest := []) hC (kX7_puts' hl hIs n q (by omega) hq84 1 (by decide) er ec rfl rfl (by omega) (by omega) ⟨hm1, hm8⟩ hfit hlt) gc_RX7_141 rfl rfl ⟨by decide, by decide⟩ (Nat.le_of_ble_eq_true rfl) rfl dX7_lays_91 (fun r z' F' hp => ?_)
                  obtain ⟨rfl, hz, hF⟩ := hp
                  rw [hz, hF, F4_18]
                  clear hz hF
                  refine gVM.eqs (st' := []) rfl rfl rfl rfl ?_
                  refine m_ald_n hC dX7_lays_94 rfl ?_
                  refine m_getA hC 17 dX7_lays_95 gf_RX7_50 ⟨by decide, rfl⟩ ?_
                  refine m_iload_n hC dX7_lays_98 rfl ?_
                  refine m_iload hC dX7_lays_99 rfl ?_
                  refine m_iast hC 17 (n) dX7_lays_101 ⟨by decide, rfl, rfl⟩ rfl (by simp only [mK]; omega) ?_
                  refine gVM.eqs (F' := F4 F (upto (cN F s) (F 15) np) (upto (rN F s) (F 16) np) (gup (su.1) (n) (1)) (putN su.2 (40 * rowAtN (qRow F s n) 1 + colAtN (qCol F s n) 1 (F 9 q)).toNat (fun t => F 10 (8 * q + t)) (F 9 q).toNat)) rfl rfl rfl (F4_17 _ _ _ _ _ _) ?_
                  refine m_iinc (lv' := [some (.ref mo), some (vi ((s : Int))), some (vi (5 - (m : Int))), some (vi ((n : Int))), some (vi ((q : Int))), some (vi (1 + 1))]) hC dX7_lays_102 (by decide) rfl rfl ?_
                  refine m_goto (tgt := 57) hC dX7_lays_105 (by decide) ?_
                  refine m_iload hC dX7_lays_57 rfl ?_
                  refine m_iconst hC dX7_lays_59 rfl ?_
                  refine m_icmp_ge (tgt := 108) hC dX7_lays_60 (by decide) (by omega) (by omega) (fun c_60 => False.elim (by omega)) (fun c_60 => ?_)
                  refine m_ald_n hC dX7_lays_63 rfl ?_
                  refine m_getA hC 17 dX7_lays_64 gf_RX7_50 ⟨by decide, rfl⟩ ?_
                  refine m_iload_n hC dX7_lays_67 rfl ?_
                  refine m_iald hC 17 (n) dX7_lays_68 ⟨by decide, rfl, rfl⟩ rfl (by simp only [mK]; omega) ?_
                  refine m_top (b := (gup (su.1) (n) (1)) (n)) rfl ?_
                  rw [gup_eq]
                  refine m_iconst hC dX7_lays_69 rfl ?_
                  refine m_icmp_ne (tgt := 108) hC dX7_lays_70 (by decide) (by omega) (by omega) (fun c_70 => ?_) (fun c_70 => False.elim (by omega))
                  refine m_iinc (lv' := [some (.ref mo), some (vi ((s : Int))), some (vi (5 - (m : Int))), some (vi ((n : Int) + 1)), some (vi ((q : Int))), some (vi (1 + 1))]) hC dX7_lays_108 (by decide) rfl rfl ?_
                  refine m_goto (tgt := 17) hC dX7_lays_111 (by decide) ?_
                  have hg9 := hgo 1 (by unfold sideF; rw [if_neg (by rw [hy0]; decide), if_pos hy1]) (by decide)
                  refine gVM.eqs (lv' := [some (.ref mo), some (vi ((s : Int))), some (vi (5 - (m : Int))), some (vi (((n + 1 : Nat) : Int))), some (vi ((q : Int))), some (vi (1 + 1))]) (lcons rfl (lcons rfl (lcons rfl (lcons (svi (by omega)) (lcons rfl (lcons rfl rfl)))))) rfl rfl rfl ?_
                  exact gVM.drop (lv' := [some (.ref mo), some (vi (s : Int)), some (vi (5 - ((m : Nat) : Int))), some (vi (((n + 1) : Nat) : Int)), none, none]) trivial (by intro k v hk; match k, hk with | 0, hk => exact hk | 1, hk => exact hk | 2, hk => exact hk | 3, hk => exact hk | 4, hk => exact absurd hk (by simp) | 5, hk => exact absurd hk (by simp) | k + 6, hk => exact absurd hk (by simp)) hg9
              · have hfit := mayB_fit hy0
                refine m_ald_n hC dX7_lays_85 rfl ?_
                refine m_iload_n hC dX7_lays_86 rfl ?_
                refine m_iload hC dX7_lays_87 rfl ?_
                refine m_iload hC dX7_lays_89 rfl ?_
                refine m_callV (rest := []) hC (kX7_puts' hl hIs n q (by omega) hq84 0 (by decide) er ec rfl rfl (by omega) (by omega) ⟨hm1, hm8⟩ hfit hlt) gc_RX7_141 rfl rfl ⟨by decide, by decide⟩ (Nat.le_of_ble_eq_true rfl) rfl dX7_lays_91 (fun r z' F' hp => ?_)
                obtain ⟨rfl, hz, hF⟩ := hp
                rw [hz, hF, F4_18]
                clear hz hF
                refine gVM.eqs (st' := []) rfl rfl rfl rfl ?_
                refine m_ald_n hC dX7_lays_94 rfl ?_
                refine m_getA hC 17 dX7_lays_95 gf_RX7_50 ⟨by decide, rfl⟩ ?_
                refine m_iload_n hC dX7_lays_98 rfl ?_
                refine m_iload hC dX7_lays_99 rfl ?_
                refine m_iast hC 17 (n) dX7_lays_101 ⟨by decide, rfl, rfl⟩ rfl (by simp only [mK]; omega) ?_
                refine gVM.eqs (F' := F4 F (upto (cN F s) (F 15) np) (upto (rN F s) (F 16) np) (gup (su.1) (n) (0)) (putN su.2 (40 * rowAtN (qRow F s n) 0 + colAtN (qCol F s n) 0 (F 9 q)).toNat (fun t => F 10 (8 * q + t)) (F 9 q).toNat)) rfl rfl rfl (F4_17 _ _ _ _ _ _) ?_
                refine m_iinc (lv' := [some (.ref mo), some (vi ((s : Int))), some (vi (5 - (m : Int))), some (vi ((n : Int))), some (vi ((q : Int))), some (vi (0 + 1))]) hC dX7_lays_102 (by decide) rfl rfl ?_
                refine m_goto (tgt := 57) hC dX7_lays_105 (by decide) ?_
                refine m_iload hC dX7_lays_57 rfl ?_
                refine m_iconst hC dX7_lays_59 rfl ?_
                refine m_icmp_ge (tgt := 108) hC dX7_lays_60 (by decide) (by omega) (by omega) (fun c_60 => False.elim (by omega)) (fun c_60 => ?_)
                refine m_ald_n hC dX7_lays_63 rfl ?_
                refine m_getA hC 17 dX7_lays_64 gf_RX7_50 ⟨by decide, rfl⟩ ?_
                refine m_iload_n hC dX7_lays_67 rfl ?_
                refine m_iald hC 17 (n) dX7_lays_68 ⟨by decide, rfl, rfl⟩ rfl (by simp only [mK]; omega) ?_
                refine m_top (b := (gup (su.1) (n) (0)) (n)) rfl ?_
                rw [gup_eq]
                refine m_iconst hC dX7_lays_69 rfl ?_
                refine m_icmp_ne (tgt := 108) hC dX7_lays_70 (by decide) (by omega) (by omega) (fun c_70 => ?_) (fun c_70 => False.elim (by omega))
                refine m_iinc (lv' := [some (.ref mo), some (vi ((s : Int))), some (vi (5 - (m : Int))), some (vi ((n : Int) + 1)), some (vi ((q : Int))), some (vi (0 + 1))]) hC dX7_lays_108 (by decide) rfl rfl ?_
                refine m_goto (tgt := 17) hC dX7_lays_111 (by decide) ?_
                have hg9 := hgo 0 (by unfold sideF; rw [if_pos hy0]) (by decide)
                refine gVM.eqs (lv' := [some (.ref mo), some (vi ((s : Int))), some (vi (5 - (m : Int))), some (vi (((n + 1 : Nat) : Int))), some (vi ((q : Int))), some (vi (0 + 1))]) (lcons rfl (lcons rfl (lcons rfl (lcons (svi (by omega)) (lcons rfl (lcons rfl rfl)))))) rfl rfl rfl ?_
                exact gVM.drop (lv' := [some (.ref mo), some (vi (s : Int)), some (vi (5 - ((m : Nat) : Int))), some (vi (((n + 1) : Nat) : Int)), none, none]) trivial (by intro k v hk; match k, hk with | 0, hk => exact hk | 1, hk => exact hk | 2, hk => exact hk | 3, hk => exact hk | 4, hk => exact absurd hk (by simp) | 5, hk => exact absurd hk (by simp) | k + 6, hk => exact absurd hk (by simp)) hg9
        · refine m_iload_n hC dX7_lays_17 rfl ?_
          refine m_ald_n hC dX7_lays_18 rfl ?_
          refine m_getI hC 3 dX7_lays_19 gf_RX7_78 ⟨by decide, rfl⟩ ?_
          rw [hnp]
          refine m_icmp_ge (tgt := 114) hC dX7_lays_22 (by decide) (by omega) (by omega) (fun c_22 => ?_) (fun c_22 => False.elim (by omega))
          refine m_iinc (lv' := [some (.ref mo), some (vi ((s : Int))), some (vi (5 - (m : Int) + (-1))), some (vi ((np : Int))), none, none]) hC dX7_lays_114 (by decide) rfl rfl ?_
          refine m_goto (tgt := 11) hC dX7_lays_117 (by decide) ?_
          rw [est, ← layUp_s]
          refine gVM.eqs (lv' := [some (.ref mo), some (vi ((s : Int))), some (vi (5 - ((m + 1 : Nat) : Int))), some (vi ((np : Int))), none, none]) (lcons rfl (lcons rfl (lcons (svi (by omega)) (lcons rfl (lcons rfl (lcons rfl rfl)))))) rfl rfl rfl ?_
          exact gVM.drop (lv' := [some (.ref mo), some (vi (s : Int)), some (vi (5 - (((m + 1) : Nat) : Int))), none, none, none]) trivial (by intro k v hk; match k, hk with | 0, hk => exact hk | 1, hk => exact hk | 2, hk => exact hk | 3, hk => exact absurd hk (by simp) | 4, hk => exact absurd hk (by simp) | 5, hk => exact absurd hk (by simp) | k + 6, hk => exact absurd hk (by simp)) ih
      exact gVM.eqs (lv' := [some (.ref mo), some (vi (s : Int)), some (vi (5 - ((m : Nat) : Int))), some (vi ((0 : Nat) : Int)), none, none]) rfl rfl rfl rfl (li 0 (Nat.zero_le _))
    · refine m_iload_n hC dX7_lays_11 rfl ?_
      refine m_if_le (tgt := 120) hC dX7_lays_12 (by decide) (by omega) (fun c_12 => ?_) (fun c_12 => False.elim (by omega))
      exact m_vret hC hq dX7_lays_120 ⟨rfl, rfl, by rw [hnp]; rfl⟩
  exact gVM.eqs (lv' := [some (.ref mo), some (vi (s : Int)), some (vi (5 - ((0 : Nat) : Int))), none, none, none]) rfl rfl rfl rfl (lp 0 (Nat.zero_le _))

end M6
