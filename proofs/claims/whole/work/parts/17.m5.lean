/-! the reference: mayStand, puts, takes -/
section M5
theorem rowAtN_rng {r w : Int} : r - 1 ≤ rowAtN r w ∧ rowAtN r w ≤ r + 1 := by unfold rowAtN; split <;> (try split) <;> omega
theorem colAtN_rng {c w n : Int} (h : 0 ≤ n) : c - n ≤ colAtN c w n ∧ colAtN c w n ≤ c + 1 := by unfold colAtN; split <;> (try split) <;> omega
theorem freeN_s (P : Nat → Int) (b n : Nat) : freeN P b (n + 1) = (freeN P b n && decide (P (b + n) = 46)) := rfl
theorem mayB_f {P : Nat → Int} {r c n : Int} {t : Nat} (h : (t : Int) ≤ n) (e : (fitB r c n && freeN P (40 * r + c).toNat t) = false) : mayB P r c n = false := by
  unfold mayB
  cases hf : fitB r c n with
  | false => rfl
  | true =>
    rw [hf, Bool.true_and] at e
    rw [freeN_mono (by omega) e]; rfl
set_option maxHeartbeats 4000000 in
set_option maxRecDepth 100000 in
theorem kX7_mayStand {l : Launch} (hl : l.stackTraces = false) {D : gD} {base mo : Nat} {ad : Nat → Nat} {z : Nat → Int} {F : Nat → Nat → Int} (hI : mI z F) (i q : Nat) (hi : i < 14) (hq9 : q < 84) (w : Int) (hw : 0 ≤ w ∧ w ≤ 3) (hr : -1 ≤ F 16 i ∧ F 16 i ≤ 23) (hc : -1 ≤ F 15 i ∧ F 15 i ≤ 39) (hn : 1 ≤ F 9 q ∧ F 9 q ≤ 8) (hP : ∀ j, 0 ≤ F 18 j ∧ F 18 j ≤ 122) : mM l D base yX7_mayStand cX7_mayStand 8 (some Jvm.ClassFile.FieldType.boolean) 1 22 mo ad [vi ((i : Int)), vi ((q : Int)), vi (w)] z F (fun r z' F' => r = some (vi (b2i (mayB (F 18) (rowAtN (F 16 i) w) (colAtN (F 15 i) w (F 9 q)) (F 9 q)))) ∧ z' = z ∧ F' = F) := by
  obtain ⟨i0, i1, i3, i11, i22, iw, ip, inn, inm, ish⟩ := id hI
  refine mM.of hl (by decide) (by simp [Value.category]) (Nat.le_of_ble_eq_true rfl) [some (.ref mo), some (vi ((i : Int))), some (vi ((q : Int))), some (vi (w)), none, none, none, none] rfl (fun gh x hC hq => ?_)
  have hra := rowAtN_rng (r := F 16 i) (w := w)
  have hca := colAtN_rng (c := F 15 i) (w := w) (n := F 9 q) (by omega)
  refine m_ald_n hC dX7_mayStand_0 rfl ?_
  refine m_getA hC 16 dX7_mayStand_1 gf_RX7_47 ⟨by decide, rfl⟩ ?_
  refine m_iload_n hC dX7_mayStand_4 rfl ?_
  refine m_iald hC 16 (i) dX7_mayStand_5 ⟨by decide, rfl, rfl⟩ rfl (by simp only [mK]; omega) ?_
  refine m_iload_n hC dX7_mayStand_6 rfl ?_
  refine m_callS (rest := []) hC (fun gh => kX7_rowAt hl (F 16 i) w (by omega) (by omega) gh) gc_RX7_124 rfl ⟨by decide, by decide⟩ (Nat.le_of_ble_eq_true rfl) rfl dX7_mayStand_7 (fun r hp => ?_)
  subst hp
  refine m_istore (lv' := [some (.ref mo), some (vi ((i : Int))), some (vi ((q : Int))), some (vi (w)), some (vi (rowAtN (F 16 i) w)), none, none, none]) hC dX7_mayStand_10 (by decide) rfl ?_
  refine m_ald_n hC dX7_mayStand_12 rfl ?_
  refine m_getA hC 15 dX7_mayStand_13 gf_RX7_44 ⟨by decide, rfl⟩ ?_
  refine m_iload_n hC dX7_mayStand_16 rfl ?_
  refine m_iald hC 15 (i) dX7_mayStand_17 ⟨by decide, rfl, rfl⟩ rfl (by simp only [mK]; omega) ?_
  refine m_iload_n hC dX7_mayStand_18 rfl ?_
  refine m_ald_n hC dX7_mayStand_19 rfl ?_
  refine m_getA hC 9 dX7_mayStand_20 gf_RX7_29 ⟨by decide, rfl⟩ ?_
  refine m_iload_n hC dX7_mayStand_23 rfl ?_
  refine m_iald hC 9 (q) dX7_mayStand_24 ⟨by decide, rfl, rfl⟩ rfl (by simp only [mK]; omega) ?_
  refine m_callS (rest := []) hC (fun gh => kX7_columnAt hl (F 15 i) w (F 9 q) (by omega) (by omega) (by omega) gh) gc_RX7_127 rfl ⟨by decide, by decide⟩ (Nat.le_of_ble_eq_true rfl) rfl dX7_mayStand_25 (fun r hp => ?_)
  subst hp
  refine m_istore (lv' := [some (.ref mo), some (vi ((i : Int))), some (vi ((q : Int))), some (vi (w)), some (vi (rowAtN (F 16 i) w)), some (vi (colAtN (F 15 i) w (F 9 q))), none, none]) hC dX7_mayStand_28 (by decide) rfl ?_
  obtain ⟨r, er⟩ : ∃ r : Int, r = rowAtN (F 16 i) w := ⟨_, rfl⟩
  obtain ⟨c, ec⟩ : ∃ c : Int, c = colAtN (F 15 i) w (F 9 q) := ⟨_, rfl⟩
  rw [← er] at hra ⊢
  rw [← ec] at hca ⊢
  refine g_cut (A := gVM x D base 8 mo ad gh 65 [some (.ref mo), some (vi ((i : Int))), some (vi ((q : Int))), some (vi (w)), some (vi (r)), some (vi (c)), none, none] [vi (b2i (fitB r c (F 9 q)))] (z) (F)) ?_ (fun j_65 => ?_)
  · refine m_istore (lv' := [some (.ref mo), some (vi ((i : Int))), some (vi ((q : Int))), some (vi (w)), some (vi (r)), some (vi (c)), some (vi (b2i (fitB r c (F 9 q)))), none]) hC dX7_mayStand_65 (by decide) rfl ?_
    refine m_iconst hC dX7_mayStand_67 rfl ?_
    refine m_istore (lv' := [some (.ref mo), some (vi ((i : Int))), some (vi ((q : Int))), some (vi (w)), some (vi (r)), some (vi (c)), some (vi (b2i (fitB r c (F 9 q)))), some (vi (0))]) hC dX7_mayStand_68 (by decide) rfl ?_
    have lp : ∀ t : Nat, t ≤ (F 9 q).toNat → gVM x D base 8 mo ad gh 70 [some (.ref mo), some (vi ((i : Int))), some (vi ((q : Int))), some (vi (w)), some (vi (r)), some (vi (c)), some (vi (b2i (fitB r c (F 9 q) && freeN (F 18) (40 * r + c).toNat t))), some (vi (((t : Nat) : Int)))] [] (z) (F) := by
      refine g_for _ (fun t ht ih => ?_) ?_
      · refine m_iload hC dX7_mayStand_70 rfl ?_
        refine m_ald_n hC dX7_mayStand_72 rfl ?_
        refine m_getA hC 9 dX7_mayStand_73 gf_RX7_29 ⟨by decide, rfl⟩ ?_
        refine m_iload_n hC dX7_mayStand_76 rfl ?_
        refine m_iald hC 9 (q) dX7_mayStand_77 ⟨by decide, rfl, rfl⟩ rfl (by simp only [mK]; omega) ?_
        refine m_icmp_ge (tgt := 120) hC dX7_mayStand_78 (by decide) (by omega) (by omega) (fun c_78 => False.elim (by omega)) (fun c_78 => ?_)
        refine m_iload hC dX7_mayStand_81 rfl ?_
        refine m_ifeq_b (tgt := 120) hC dX7_mayStand_83 (by decide)  (fun hm => ?_) (fun hm => ?_)
        · refine m_iload hC dX7_mayStand_120 rfl ?_
          refine gVM.eqs (st' := [vi (b2i (mayB (F 18) r c (F 9 q)))]) rfl (by rw [hm, mayB_f (t := t) (by omega) hm]) rfl rfl ?_
          exact m_bret hC hq dX7_mayStand_122 ⟨by rw [er, ec], rfl, rfl⟩
        · have hm2 := hm
          rw [Bool.and_eq_true, fitB_iff] at hm2
          obtain ⟨hm3, hm4⟩ := hm2
          have hsg := hP ((40 * r + c).toNat + t)
          refine g_cut (A := gVM x D base 8 mo ad gh 112 [some (.ref mo), some (vi ((i : Int))), some (vi ((q : Int))), some (vi (w)), some (vi (r)), some (vi (c)), some (vi (b2i (fitB r c (F 9 q) && freeN (F 18) (40 * r + c).toNat t))), some (vi (((t : Nat) : Int)))] [vi (b2i (decide (F 18 ((40 * r + c).toNat + t) = 46)))] (z) (F)) ?_ (fun j_112 => ?_)
          · refine m_istore (lv' := [some (.ref mo), some (vi ((i : Int))), some (vi ((q : Int))), some (vi (w)), some (vi (r)), some (vi (c)), some (vi (b2i (decide (F 18 ((40 * r + c).toNat + t) = 46)))), some (vi (((t : Nat) : Int)))]) hC dX7_mayStand_112 (by decide) rfl ?_
            refine m_iinc (lv' := [some (.ref mo), some (vi ((i : Int))), some (vi ((q : Int))), some (vi (w)), some (vi (r)), some (vi (c)), some (vi (b2i (decide (F 18 ((40 * r + c).toNat + t) = 46)))), some (vi (((t : Nat) : Int) + 1))]) hC dX7_mayStand_114 (by decide) rfl rfl ?_
            refine m_goto (tgt := 70) hC dX7_mayStand_117 (by decide) ?_
            refine gVM.eqs (lv' := [some (.ref mo), some (vi ((i : Int))), some (vi ((q : Int))), some (vi (w)), some (vi (r)), some (vi (c)), some (vi (b2i (fitB r c (F 9 q) && freeN (F 18) (40 * r + c).toNat (t + 1)))), some (vi ((((t + 1) : Nat) : Int)))]) (lcons rfl (lcons rfl (lcons rfl (lcons rfl (lcons rfl (lcons rfl (lcons (svi (by rw [freeN_s, ← Bool.and_assoc, hm, Bool.true_and])) (lcons (svi (by omega)) rfl)))))))) rfl rfl rfl ih
          · refine m_ald_n hC dX7_mayStand_86 rfl ?_
            refine m_getA hC 18 dX7_mayStand_87 gf_RX7_53 ⟨by decide, rfl⟩ ?_
            refine m_bipush (v := 40) hC dX7_mayStand_90 rfl ?_
            refine m_iload hC dX7_mayStand_92 rfl ?_
            refine m_imul hC dX7_mayStand_94 ?_
            refine m_iload hC dX7_mayStand_95 rfl ?_
            refine m_iadd hC dX7_mayStand_97 ?_
            refine m_iload hC dX7_mayStand_98 rfl ?_
            refine m_iadd hC dX7_mayStand_100 ?_
            refine m_cald hC 18 ((40 * r + c).toNat + t) dX7_mayStand_101 ⟨by decide, rfl, rfl⟩ (by omega) (by simp only [mK]; omega) ?_
            refine m_bipush (v := 46) hC dX7_mayStand_102 rfl ?_
            refine m_icmp_ne (tgt := 111) hC dX7_mayStand_104 (by decide) (by omega) (by omega) (fun c_104 => ?_) (fun c_104 => ?_)
            · refine m_iconst hC dX7_mayStand_111 rfl ?_
              refine m_top (b := b2i (decide (F 18 ((40 * r + c).toNat + t) = 46))) (b2i_f (by first | rfl | (simp [c_104]; done) | (simp only [c_104]; rfl))) ?_
              exact j_112
            · refine m_iconst hC dX7_mayStand_107 rfl ?_
              refine m_goto (tgt := 112) hC dX7_mayStand_108 (by decide) ?_
              refine m_top (b := b2i (decide (F 18 ((40 * r + c).toNat + t) = 46))) (b2i_t (by first | rfl | (simp [c_104]; done) | (simp only [c_104]; rfl))) ?_
              exact j_112
      · refine m_iload hC dX7_mayStand_70 rfl ?_
        refine m_ald_n hC dX7_mayStand_72 rfl ?_
        refine m_getA hC 9 dX7_mayStand_73 gf_RX7_29 ⟨by decide, rfl⟩ ?_
        refine m_iload_n hC dX7_mayStand_76 rfl ?_
        refine m_iald hC 9 (q) dX7_mayStand_77 ⟨by decide, rfl, rfl⟩ rfl (by simp only [mK]; omega) ?_
        refine m_icmp_ge (tgt := 120) hC dX7_mayStand_78 (by decide) (by omega) (by omega) (fun c_78 => ?_) (fun c_78 => False.elim (by omega))
        refine m_iload hC dX7_mayStand_120 rfl ?_
        exact m_bret hC hq dX7_mayStand_122 ⟨by rw [er, ec]; rfl, rfl, rfl⟩
    refine gVM.eqs (lv' := [some (.ref mo), some (vi ((i : Int))), some (vi ((q : Int))), some (vi (w)), some (vi (r)), some (vi (c)), some (vi (b2i (fitB r c (F 9 q) && freeN (F 18) (40 * r + c).toNat 0))), some (vi (((0 : Nat) : Int)))]) (lcons rfl (lcons rfl (lcons rfl (lcons rfl (lcons rfl (lcons rfl (lcons (svi (by unfold freeN; rw [Bool.and_true])) (lcons (svi (by omega)) rfl)))))))) rfl rfl rfl (lp 0 (Nat.zero_le _))
  · refine m_iload hC dX7_mayStand_30 rfl ?_
    refine m_iconst hC dX7_mayStand_32 rfl ?_
    refine m_bipush (v := 23) hC dX7_mayStand_33 rfl ?_
    refine m_callS (rest := []) hC (fun gh => kX7_in hl r 0 23 (by omega) (by omega) (by omega) gh) gc_RX7_81 rfl ⟨by decide, by decide⟩ (Nat.le_of_ble_eq_true rfl) rfl dX7_mayStand_35 (fun r hp => ?_)
    subst hp
    refine m_ifeq_b (tgt := 64) hC dX7_mayStand_38 (by decide)  (fun c_38 => ?_) (fun c_38 => ?_)
    · refine m_iconst hC dX7_mayStand_64 rfl ?_
      refine m_top (b := b2i (fitB r c (F 9 q))) (b2i_f (by unfold fitB; rw [c_38]; rfl)) ?_
      exact j_65
    · refine m_iload hC dX7_mayStand_41 rfl ?_
      refine m_if_lt (tgt := 64) hC dX7_mayStand_43 (by decide) (by omega) (fun c_43 => ?_) (fun c_43 => ?_)
      · refine m_iconst hC dX7_mayStand_64 rfl ?_
        refine m_top (b := b2i (fitB r c (F 9 q))) (b2i_f (Bool.eq_false_iff.mpr (fun h => by have := fitB_iff.mp h; omega))) ?_
        exact j_65
      · refine m_iload hC dX7_mayStand_46 rfl ?_
        refine m_ald_n hC dX7_mayStand_48 rfl ?_
        refine m_getA hC 9 dX7_mayStand_49 gf_RX7_29 ⟨by decide, rfl⟩ ?_
        refine m_iload_n hC dX7_mayStand_52 rfl ?_
        refine m_iald hC 9 (q) dX7_mayStand_53 ⟨by decide, rfl, rfl⟩ (by omega) (by simp only [mK]; omega) ?_
        refine m_iadd hC dX7_mayStand_54 ?_
        refine m_bipush (v := 40) hC dX7_mayStand_55 rfl ?_
        refine m_icmp_gt (tgt := 64) hC dX7_mayStand_57 (by decide) (by omega) (by omega) (fun c_57 => ?_) (fun c_57 => ?_)
        · refine m_iconst hC dX7_mayStand_64 rfl ?_
          refine m_top (b := b2i (fitB r c (F 9 q))) (b2i_f (Bool.eq_false_iff.mpr (fun h => by have := fitB_iff.mp h; omega))) ?_
          exact j_65
        · refine m_iconst hC dX7_mayStand_60 rfl ?_
          refine m_goto (tgt := 65) hC dX7_mayStand_61 (by decide) ?_
          refine m_top (b := b2i (fitB r c (F 9 q))) (b2i_t (fitB_iff.mpr ⟨inB_iff.mp c_38, by omega, by omega⟩)) ?_
          exact j_65

set_option maxHeartbeats 4000000 in
set_option maxRecDepth 100000 in
theorem kX7_puts {l : Launch} (hl : l.stackTraces = false) {D : gD} {base mo : Nat} {ad : Nat → Nat} {z : Nat → Int} {F : Nat → Nat → Int} (hI : mI z F) (i q : Nat) (hi : i < 14) (hq9 : q < 84) (w : Int) (hw : 0 ≤ w ∧ w ≤ 3) (hr : -1 ≤ F 16 i ∧ F 16 i ≤ 23) (hc : -1 ≤ F 15 i ∧ F 15 i ≤ 39) (hn : 1 ≤ F 9 q ∧ F 9 q ≤ 8) (hfit : fitB (rowAtN (F 16 i) w) (colAtN (F 15 i) w (F 9 q)) (F 9 q) = true) (hlet : ∀ t : Nat, (t : Int) < F 9 q → 97 ≤ F 10 (8 * q + t) ∧ F 10 (8 * q + t) ≤ 122) : mM l D base yX7_puts cX7_puts 7 none 1 22 mo ad [vi ((i : Int)), vi ((q : Int)), vi (w)] z F (fun r z' F' => r = none ∧ z' = z ∧ F' = gup F 18 (putN (F 18) (40 * rowAtN (F 16 i) w + colAtN (F 15 i) w (F 9 q)).toNat (fun t => F 10 (8 * q + t)) (F 9 q).toNat)) := by
  obtain ⟨i0, i1, i3, i11, i22, iw, ip, inn, inm, ish⟩ := id hI
  refine mM.of hl (by decide) (by simp [Value.category]) (Nat.le_of_ble_eq_true rfl) [some (.ref mo), some (vi ((i : Int))), some (vi ((q : Int))), some (vi (w)), none, none, none] rfl (fun gh x hC hq => ?_)
  have hra := rowAtN_rng (r := F 16 i) (w := w)
  have hca := colAtN_rng (c := F 15 i) (w := w) (n := F 9 q) (by omega)
  refine m_ald_n hC dX7_puts_0 rfl ?_
  refine m_getA hC 16 dX7_puts_1 gf_RX7_47 ⟨by decide, rfl⟩ ?_
  refine m_iload_n hC dX7_puts_4 rfl ?_
  refine m_iald hC 16 (i) dX7_puts_5 ⟨by decide, rfl, rfl⟩ rfl (by simp only [mK]; omega) ?_
  refine m_iload_n hC dX7_puts_6 rfl ?_
  refine m_callS (rest := []) hC (fun gh => kX7_rowAt hl (F 16 i) w (by omega) (by omega) gh) gc_RX7_124 rfl ⟨by decide, by decide⟩ (Nat.le_of_ble_eq_true rfl) rfl dX7_puts_7 (fun r hp => ?_)
  subst hp
  refine m_istore (lv' := [some (.ref mo), some (vi ((i : Int))), some (vi ((q : Int))), some (vi (w)), some (vi (rowAtN (F 16 i) w)), none, none]) hC dX7_puts_10 (by decide) rfl ?_
  refine m_ald_n hC dX7_puts_12 rfl ?_
  refine m_getA hC 15 dX7_puts_13 gf_RX7_44 ⟨by decide, rfl⟩ ?_
  refine m_iload_n hC dX7_puts_16 rfl ?_
  refine m_iald hC 15 (i) dX7_puts_17 ⟨by decide, rfl, rfl⟩ rfl (by simp only [mK]; omega) ?_
  refine m_iload_n hC dX7_puts_18 rfl ?_
  refine m_ald_n hC dX7_puts_19 rfl ?_
  refine m_getA hC 9 dX7_puts_20 gf_RX7_29 ⟨by decide, rfl⟩ ?_
  refine m_iload_n hC dX7_puts_23 rfl ?_
  refine m_iald hC 9 (q) dX7_puts_24 ⟨by decide, rfl, rfl⟩ rfl (by simp only [mK]; omega) ?_
  refine m_callS (rest := []) hC (fun gh => kX7_columnAt hl (F 15 i) w (F 9 q) (by omega) (by omega) (by omega) gh) gc_RX7_127 rfl ⟨by decide, by decide⟩ (Nat.le_of_ble_eq_true rfl) rfl dX7_puts_25 (fun r hp => ?_)
  subst hp
  refine m_istore (lv' := [some (.ref mo), some (vi ((i : Int))), some (vi ((q : Int))), some (vi (w)), some (vi (rowAtN (F 16 i) w)), some (vi (colAtN (F 15 i) w (F 9 q))), none]) hC dX7_puts_28 (by decide) rfl ?_
  obtain ⟨r, er⟩ : ∃ r : Int, r = rowAtN (F 16 i) w := ⟨_, rfl⟩
  obtain ⟨c, ec⟩ : ∃ c : Int, c = colAtN (F 15 i) w (F 9 q) := ⟨_, rfl⟩
  rw [← er] at hra ⊢
  rw [← ec] at hca ⊢
  have hf := fitB_iff.mp hfit
  rw [← er, ← ec] at hf
  refine m_iconst hC dX7_puts_30 rfl ?_
  refine m_istore (lv' := [some (.ref mo), some (vi ((i : Int))), some (vi ((q : Int))), some (vi (w)), some (vi (r)), some (vi (c)), some (vi (0))]) hC dX7_puts_31 (by decide) rfl ?_
  have lp : ∀ t : Nat, t ≤ (F 9 q).toNat → gVM x D base 7 mo ad gh 33 [some (.ref mo), some (vi ((i : Int))), some (vi ((q : Int))), some (vi (w)), some (vi (r)), some (vi (c)), some (vi (((t : Nat) : Int)))] [] (z) (gup (F) 18 (putN (F 18) (40 * r + c).toNat (fun t => F 10 (8 * q + t)) t)) := by
    refine g_for _ (fun t ht ih => ?_) ?_
    · refine m_iload hC dX7_puts_33 rfl ?_
      refine m_ald_n hC dX7_puts_35 rfl ?_
      refine m_getA hC 9 dX7_puts_36 gf_RX7_29 ⟨by decide, rfl⟩ ?_
      refine m_iload_n hC dX7_puts_39 rfl ?_
      refine m_iald hC 9 (q) dX7_puts_40 ⟨by decide, rfl, rfl⟩ rfl (by simp only [mK]; omega) ?_
      refine m_top (b := F 9 (q)) rfl ?_
      refine m_icmp_ge (tgt := 78) hC dX7_puts_41 (by decide) (by omega) (by omega) (fun c_41 => False.elim (by omega)) (fun c_41 => ?_)
      refine m_ald_n hC dX7_puts_44 rfl ?_
      refine m_getA hC 18 dX7_puts_45 gf_RX7_53 ⟨by decide, rfl⟩ ?_
      refine m_bipush (v := 40) hC dX7_puts_48 rfl ?_
      refine m_iload hC dX7_puts_50 rfl ?_
      refine m_imul hC dX7_puts_52 ?_
      refine m_iload hC dX7_puts_53 rfl ?_
      refine m_iadd hC dX7_puts_55 ?_
      refine m_iload hC dX7_puts_56 rfl ?_
      refine m_iadd hC dX7_puts_58 ?_
      refine m_ald_n hC dX7_puts_59 rfl ?_
      refine m_getA hC 10 dX7_puts_60 gf_RX7_32 ⟨by decide, rfl⟩ ?_
      refine m_bipush (v := 8) hC dX7_puts_63 rfl ?_
      refine m_iload_n hC dX7_puts_65 rfl ?_
      refine m_imul hC dX7_puts_66 ?_
      refine m_iload hC dX7_puts_67 rfl ?_
      refine m_iadd hC dX7_puts_69 ?_
      refine m_cald hC 10 (8 * q + t) dX7_puts_70 ⟨by decide, rfl, rfl⟩ (by omega) (by simp only [mK]; omega) ?_
      refine m_top (b := F 10 (8 * q + t)) rfl ?_
      refine m_cast hC 18 ((40 * r + c).toNat + t) dX7_puts_71 ⟨by decide, rfl, rfl⟩ (by omega) (by simp only [mK]; omega) (by have := hlet t (by omega); omega) ?_
      refine gVM.eqs (F' := gup F 18 (putN (F 18) (40 * r + c).toNat (fun t => F 10 (8 * q + t)) (t + 1))) rfl rfl rfl (gup_gup _ _ _ _) ?_
      refine m_iinc (lv' := [some (.ref mo), some (vi ((i : Int))), some (vi ((q : Int))), some (vi (w)), some (vi (r)), some (vi (c)), some (vi (((t : Nat) : Int) + 1))]) hC dX7_puts_72 (by decide) rfl rfl ?_
      refine m_goto (tgt := 33) hC dX7_puts_75 (by decide) ?_
      refine gVM.eqs (lv' := [some (.ref mo), some (vi ((i : Int))), some (vi ((q : Int))), some (vi (w)), some (vi (r)), some (vi (c)), some (vi (((t + 1 : Nat) : Int)))]) (lcons rfl (lcons rfl (lcons rfl (lcons rfl (lcons rfl (lcons rfl (lcons (svi (by omega)) rfl))))))) rfl rfl rfl ih
    · refine m_iload hC dX7_puts_33 rfl ?_
      refine m_ald_n hC dX7_puts_35 rfl ?_
      refine m_getA hC 9 dX7_puts_36 gf_RX7_29 ⟨by decide, rfl⟩ ?_
      refine m_iload_n hC dX7_puts_39 rfl ?_
      refine m_iald hC 9 (q) dX7_puts_40 ⟨by decide, rfl, rfl⟩ rfl (by simp only [mK]; omega) ?_
      refine m_top (b := F 9 (q)) rfl ?_
      refine m_icmp_ge (tgt := 78) hC dX7_puts_41 (by decide) (by omega) (by omega) (fun c_41 => ?_) (fun c_41 => False.elim (by omega))
      exact m_vret hC hq dX7_puts_78 ⟨rfl, rfl, by rw [er, ec]⟩
  refine gVM.eqs (lv' := [some (.ref mo), some (vi ((i : Int))), some (vi ((q : Int))), some (vi (w)), some (vi (r)), some (vi (c)), some (vi (((0 : Nat) : Int)))]) (F' := gup F 18 (putN (F 18) (40 * r + c).toNat (fun t => F 10 (8 * q + t)) 0)) rfl rfl rfl (gup_self F 18).symm (lp 0 (Nat.zero_le _))

set_option maxHeartbeats 4000000 in
set_option maxRecDepth 100000 in
theorem kX7_takes {l : Launch} (hl : l.stackTraces = false) {D : gD} {base mo : Nat} {ad : Nat → Nat} {z : Nat → Int} {F : Nat → Nat → Int} (hI : mI z F) (i q : Nat) (hi : i < 14) (hq9 : q < 84) (w : Int) (hw : 0 ≤ w ∧ w ≤ 3) (hr : -1 ≤ F 16 i ∧ F 16 i ≤ 23) (hc : -1 ≤ F 15 i ∧ F 15 i ≤ 39) (hn : 1 ≤ F 9 q ∧ F 9 q ≤ 8) (hfit : fitB (rowAtN (F 16 i) w) (colAtN (F 15 i) w (F 9 q)) (F 9 q) = true) : mM l D base yX7_takes cX7_takes 7 none 1 22 mo ad [vi ((i : Int)), vi ((q : Int)), vi (w)] z F (fun r z' F' => r = none ∧ z' = z ∧ F' = gup F 18 (putN (F 18) (40 * rowAtN (F 16 i) w + colAtN (F 15 i) w (F 9 q)).toNat (fun _ => 46) (F 9 q).toNat)) := by
  obtain ⟨i0, i1, i3, i11, i22, iw, ip, inn, inm, ish⟩ := id hI
  refine mM.of hl (by decide) (by simp [Value.category]) (Nat.le_of_ble_eq_true rfl) [some (.ref mo), some (vi ((i : Int))), some (vi ((q : Int))), some (vi (w)), none, none, none] rfl (fun gh x hC hq => ?_)
  have hra := rowAtN_rng (r := F 16 i) (w := w)
  have hca := colAtN_rng (c := F 15 i) (w := w) (n := F 9 q) (by omega)
  refine m_ald_n hC dX7_takes_0 rfl ?_
  refine m_getA hC 16 dX7_takes_1 gf_RX7_47 ⟨by decide, rfl⟩ ?_
  refine m_iload_n hC dX7_takes_4 rfl ?_
  refine m_iald hC 16 (i) dX7_takes_5 ⟨by decide, rfl, rfl⟩ rfl (by simp only [mK]; omega) ?_
  refine m_iload_n hC dX7_takes_6 rfl ?_
  refine m_callS (rest := []) hC (fun gh => kX7_rowAt hl (F 16 i) w (by omega) (by omega) gh) gc_RX7_124 rfl ⟨by decide, by decide⟩ (Nat.le_of_ble_eq_true rfl) rfl dX7_takes_7 (fun r hp => ?_)
  subst hp
  refine m_istore (lv' := [some (.ref mo), some (vi ((i : Int))), some (vi ((q : Int))), some (vi (w)), some (vi (rowAtN (F 16 i) w)), none, none]) hC dX7_takes_10 (by decide) rfl ?_
  refine m_ald_n hC dX7_takes_12 rfl ?_
  refine m_getA hC 15 dX7_takes_13 gf_RX7_44 ⟨by decide, rfl⟩ ?_
  refine m_iload_n hC dX7_takes_16 rfl ?_
  refine m_iald hC 15 (i) dX7_takes_17 ⟨by decide, rfl, rfl⟩ rfl (by simp only [mK]; omega) ?_
  refine m_iload_n hC dX7_takes_18 rfl ?_
  refine m_ald_n hC dX7_takes_19 rfl ?_
  refine m_getA hC 9 dX7_takes_20 gf_RX7_29 ⟨by decide, rfl⟩ ?_
  refine m_iload_n hC dX7_takes_23 rfl ?_
  refine m_iald hC 9 (q) dX7_takes_24 ⟨by decide, rfl, rfl⟩ rfl (by simp only [mK]; omega) ?_
  refine m_callS (rest := []) hC (fun gh => kX7_columnAt hl (F 15 i) w (F 9 q) (by omega) (by omega) (by omega) gh) gc_RX7_127 rfl ⟨by decide, by decide⟩ (Nat.le_of_ble_eq_true rfl) rfl dX7_takes_25 (fun r hp => ?_)
  subst hp
  refine m_istore (lv' := [some (.ref mo), some (vi ((i : Int))), some (vi ((q : Int))), some (vi (w)), some (vi (rowAtN (F 16 i) w)), some (vi (colAtN (F 15 i) w (F 9 q))), none]) hC dX7_takes_28 (by decide) rfl ?_
  obtain ⟨r, er⟩ : ∃ r : Int, r = rowAtN (F 16 i) w := ⟨_, rfl⟩
  obtain ⟨c, ec⟩ : ∃ c : Int, c = colAtN (F 15 i) w (F 9 q) := ⟨_, rfl⟩
  rw [← er] at hra ⊢
  rw [← ec] at hca ⊢
  have hf := fitB_iff.mp hfit
  rw [← er, ← ec] at hf
  refine m_iconst hC dX7_takes_30 rfl ?_
  refine m_istore (lv' := [some (.ref mo), some (vi ((i : Int))), some (vi ((q : Int))), some (vi (w)), some (vi (r)), some (vi (c)), some (vi (0))]) hC dX7_takes_31 (by decide) rfl ?_
  have lp : ∀ t : Nat, t ≤ (F 9 q).toNat → gVM x D base 7 mo ad gh 33 [some (.ref mo), some (vi ((i : Int))), some (vi ((q : Int))), some (vi (w)), some (vi (r)), some (vi (c)), some (vi (((t : Nat) : Int)))] [] (z) (gup (F) 18 (putN (F 18) (40 * r + c).toNat (fun _ => 46) t)) := by
    refine g_for _ (fun t ht ih => ?_) ?_
    · refine m_iload hC dX7_takes_33 rfl ?_
      refine m_ald_n hC dX7_takes_35 rfl ?_
      refine m_getA hC 9 dX7_takes_36 gf_RX7_29 ⟨by decide, rfl⟩ ?_
      refine m_iload_n hC dX7_takes_39 rfl ?_
      refine m_iald hC 9 (q) dX7_takes_40 ⟨by decide, rfl, rfl⟩ rfl (by simp only [mK]; omega) ?_
      refine m_top (b := F 9 (q)) rfl ?_
      refine m_icmp_ge (tgt := 68) hC dX7_takes_41 (by decide) (by omega) (by omega) (fun c_41 => False.elim (by omega)) (fun c_41 => ?_)
      refine m_ald_n hC dX7_takes_44 rfl ?_
      refine m_getA hC 18 dX7_takes_45 gf_RX7_53 ⟨by decide, rfl⟩ ?_
      refine m_bipush (v := 40) hC dX7_takes_48 rfl ?_
      refine m_iload hC dX7_takes_50 rfl ?_
      refine m_imul hC dX7_takes_52 ?_
      refine m_iload hC dX7_takes_53 rfl ?_
      refine m_iadd hC dX7_takes_55 ?_
      refine m_iload hC dX7_takes_56 rfl ?_
      refine m_iadd hC dX7_takes_58 ?_
      refine m_bipush (v := 46) hC dX7_takes_59 rfl ?_
      refine m_cast hC 18 ((40 * r + c).toNat + t) dX7_takes_61 ⟨by decide, rfl, rfl⟩ (by omega) (by simp only [mK]; omega) (by decide) ?_
      refine gVM.eqs (F' := gup F 18 (putN (F 18) (40 * r + c).toNat (fun _ => 46) (t + 1))) rfl rfl rfl (gup_gup _ _ _ _) ?_
      refine m_iinc (lv' := [some (.ref mo), some (vi ((i : Int))), some (vi ((q : Int))), some (vi (w)), some (vi (r)), some (vi (c)), some (vi (((t : Nat) : Int) + 1))]) hC dX7_takes_62 (by decide) rfl rfl ?_
      refine m_goto (tgt := 33) hC dX7_takes_65 (by decide) ?_
      refine gVM.eqs (lv' := [some (.ref mo), some (vi ((i : Int))), some (vi ((q : Int))), some (vi (w)), some (vi (r)), some (vi (c)), some (vi (((t + 1 : Nat) : Int)))]) (lcons rfl (lcons rfl (lcons rfl (lcons rfl (lcons rfl (lcons rfl (lcons (svi (by omega)) rfl))))))) rfl rfl rfl ih
    · refine m_iload hC dX7_takes_33 rfl ?_
      refine m_ald_n hC dX7_takes_35 rfl ?_
      refine m_getA hC 9 dX7_takes_36 gf_RX7_29 ⟨by decide, rfl⟩ ?_
      refine m_iload_n hC dX7_takes_39 rfl ?_
      refine m_iald hC 9 (q) dX7_takes_40 ⟨by decide, rfl, rfl⟩ rfl (by simp only [mK]; omega) ?_
      refine m_top (b := F 9 (q)) rfl ?_
      refine m_icmp_ge (tgt := 68) hC dX7_takes_41 (by decide) (by omega) (by omega) (fun c_41 => ?_) (fun c_41 => False.elim (by omega))
      exact m_vret hC hq dX7_takes_68 ⟨rfl, rfl, by rw [er, ec]⟩
  refine gVM.eqs (lv' := [some (.ref mo), some (vi ((i : Int))), some (vi ((q : Int))), some (vi (w)), some (vi (r)), some (vi (c)), some (vi (((0 : Nat) : Int)))]) (F' := gup F 18 (putN (F 18) (40 * r + c).toNat (fun _ => 46) 0)) rfl rfl rfl (gup_self F 18).symm (lp 0 (Nat.zero_le _))

end M5
