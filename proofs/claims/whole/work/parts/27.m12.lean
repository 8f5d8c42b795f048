/-! the reference: worthOf, best -/
section M12
theorem kX7_takes' {l : Launch} (hl : l.stackTraces = false) {D : gD} {base mo : Nat} {ad : Nat → Nat} {z : Nat → Int} {F : Nat → Nat → Int} (hI : mI z F) (i q : Nat) (hi : i < 14) (hq9 : q < 84) (w : Int) (hw : 0 ≤ w ∧ w ≤ 3) {r c n : Int} {P : Nat → Int} (er : F 16 i = r) (ec : F 15 i = c) (en : F 9 q = n) (eP : F 18 = P) (hr : -1 ≤ r ∧ r ≤ 23) (hc : -1 ≤ c ∧ c ≤ 39) (hn : 1 ≤ n ∧ n ≤ 8) (hfit : fitB (rowAtN r w) (colAtN c w n) n = true) :
    mM l D base yX7_takes cX7_takes 7 none 1 22 mo ad [vi (i : Int), vi (q : Int), vi w] z F (fun r' z' F' => r' = none ∧ z' = z ∧ F' = gup F 18 (putN P (40 * rowAtN r w + colAtN c w n).toNat (fun _ => 46) n.toNat)) := by
  subst er; subst ec; subst en; subst eP
  exact kX7_takes hl hI i q hi hq9 w hw hr hc hn hfit
def fitOk (G : Nat → Nat → Int) (s : Nat) (day : Int) (C : Nat → Int) (L : List Nat) : Prop := ∀ i ∈ L, C i ≠ -1 → (0 ≤ C i ∧ C i ≤ 3) ∧ fitB (rowAtN (qRow G s i) (C i)) (colAtN (qCol G s i) (C i) (nmn G day i)) (nmn G day i) = true
theorem fitOk_app {G : Nat → Nat → Int} {s : Nat} {day : Int} {C : Nat → Int} {L : List Nat} {i : Nat} {v : Int} (h : fitOk G s day C L) (hi : i ∉ L) (hv : v ≠ -1 → (0 ≤ v ∧ v ≤ 3) ∧ fitB (rowAtN (qRow G s i) v) (colAtN (qCol G s i) v (nmn G day i)) (nmn G day i) = true) : fitOk G s day (gup C i v) (L ++ [i]) := by
  intro k hk hc
  rcases List.mem_append.mp hk with h1 | h1
  · have e : gup C i v k = C k := gup_ne (fun e => hi (by rw [← e]; exact h1))
    rw [e] at hc ⊢
    exact h k h1 hc
  · rw [List.mem_singleton] at h1
    subst h1
    rw [gup_eq] at hc ⊢
    exact hv hc
theorem lE.sy {F G : Nat → Nat → Int} (h : lE F G) : lE G F := fun k hk => (h k hk).symm
set_option maxHeartbeats 4000000 in
set_option maxRecDepth 100000 in
theorem kX7_worthOf {l : Launch} (hl : l.stackTraces = false) {D : gD} {base mo : Nat} {ad : Nat → Nat} {z : Nat → Int} {F : Nat → Nat → Int} (hI : mI z F) (s : Nat) {G : Nat → Nat → Int} (hG : lE G F) (L : List Nat) (hL4 : L.length ≤ 4) (hnd : L.Nodup) (hmem : ∀ i ∈ L, i < 14 ∧ (i : Int) < z 3 ∧ qOn G s i = true ∧ nmOf G (z 0) i ≠ -1) (hr6 : ∀ i ∈ L, 1 ≤ G 6 i ∧ G 6 i ≤ 5) (hz20 : z 20 = (L.length : Int)) (hT : triedOk (F 21) L) (h15 : ∀ i ∈ L, F 15 i = qCol G s i) (h16 : ∀ i ∈ L, F 16 i = qRow G s i) {P0 : Nat → Int} (hP0 : F 18 = P0) (hok : Pok P0) (way : Nat) (hw : way < 625) : mM l D base yX7_worthOf cX7_worthOf 8 (some Jvm.ClassFile.FieldType.int) 2 49 mo ad [vi ((way : Int))] z F (fun r z' F' => r = some (vi (wvI G s (z 0) P0 L way)) ∧ z' = z ∧ ∃ C : Nat → Int, F' = gup F 17 C) := by
  obtain ⟨i0, i1, i3, i11, i22, iw, ip, inn, inm, ish⟩ := id hI
  refine mM.of hl (by decide) (by simp [Value.category]) (Nat.le_of_ble_eq_true rfl) [some (.ref mo), some (vi ((way : Int))), none, none, none, none, none, none] rfl (fun gh x hC hq => ?_)
  have hmL : ∀ n, n < L.length → L.getD n 0 ∈ L := fun n hn => getT_mem hn
  refine gVM.eqs (F' := F4 F (F 15) (F 16) (F 17) P0) rfl rfl rfl (by rw [← hP0, F4_self]) ?_
  refine m_iload_n hC dX7_worthOf_0 rfl ?_
  refine m_istore_n (lv' := [some (.ref mo), some (vi ((way : Int))), some (vi ((way : Int))), none, none, none, none, none]) hC dX7_worthOf_1 (by decide) rfl ?_
  refine m_iconst hC dX7_worthOf_2 rfl ?_
  refine m_istore_n (lv' := [some (.ref mo), some (vi ((way : Int))), some (vi ((way : Int))), some (vi (0)), none, none, none, none]) hC dX7_worthOf_3 (by decide) rfl ?_
  refine m_iconst hC dX7_worthOf_4 rfl ?_
  refine m_istore (lv' := [some (.ref mo), some (vi ((way : Int))), some (vi ((way : Int))), some (vi (0)), some (vi (1)), none, none, none]) hC dX7_worthOf_5 (by decide) rfl ?_
  refine m_iconst hC dX7_worthOf_7 rfl ?_
  refine m_istore (lv' := [some (.ref mo), some (vi ((way : Int))), some (vi ((way : Int))), some (vi (0)), some (vi (1)), some (vi (0)), none, none]) hC dX7_worthOf_8 (by decide) rfl ?_
  have lp : ∀ n : Nat, n ≤ L.length → ∀ (C P : Nat → Int) (can : Bool) (sm : Int) (left : Nat), left < 625 → (0 ≤ sm ∧ sm ≤ 5 * (n : Int)) → Pok P → covI G s (z 0) P0 P C (L.take n) → fitOk G s (z 0) C (L.take n) → (wv G s (z 0) P0 L way = if can = true then (wv G s (z 0) P (L.drop n) left).map (fun q => sm + q) else none) → gVM x D base 8 mo ad gh 10 [some (.ref mo), some (vi ((way : Int))), some (vi (((left : Nat) : Int))), some (vi (sm)), some (vi (b2i (can))), some (vi (((n : Nat) : Int))), none, none] [] z (F4 F (F 15) (F 16) C P) := by
    refine g_for _ (fun n hn ih => ?_) ?_
    · intro C P can sm left hleft hsm hPok hcov hfo hrel
      obtain ⟨i, ei⟩ : ∃ i, i = L.getD n 0 := ⟨_, rfl⟩
      have hiL : i ∈ L := by rw [ei]; exact hmL n hn
      obtain ⟨hi14, hi3, hon, hnn⟩ := hmem i hiL
      have eX : F 21 n = (i : Int) := by rw [ei]; exact hT n (by omega) hn
      have hnk := nm_ok (mI_fc hG.sy hI) (on := z 0) hi14 hnn
      obtain ⟨q, eq⟩ : ∃ q : Nat, nmOf G (z 0) i = (q : Int) := ⟨(nmOf G (z 0) i).toNat, hnk.2.1.symm⟩
      have eq2 : (nmOf G (z 0) i).toNat = q := by omega
      rw [eq2] at hnk
      obtain ⟨hq84, -, hm1, hm8, hlt⟩ := hnk
      have enm : nmn G (z 0) i = G 9 q := by unfold nmn; rw [eq2]
      rw [← enm] at hm1 hm8 hlt
      have en9 : F 9 q = nmn G (z 0) i := by rw [enm, hG.at9]
      have e15 := h15 i hiL
      have e16 := h16 i hiL
      have hcr := qCol_rng hon
      have hrr := qRow_rng hon
      have hrk := hr6 i hiL
      have hnt : i ∉ L.take n := by rw [ei]; exact nodup_take hnd hn
      rw [dropT hn, ← ei] at hrel
      rw [takeT hn, ← ei] at ih
      refine m_iload hC dX7_worthOf_10 rfl ?_
      refine m_ald_n hC dX7_worthOf_12 rfl ?_
      refine m_getI hC 20 dX7_worthOf_13 gf_RX7_151 ⟨by decide, rfl⟩ ?_
      rw [hz20]
      refine m_icmp_ge (tgt := 141) hC dX7_worthOf_16 (by decide) (by omega) (by omega) (fun c_16 => False.elim (by omega)) (fun c_16 => ?_)
      refine m_iload_n hC dX7_worthOf_19 rfl ?_
      refine m_iconst hC dX7_worthOf_20 rfl ?_
      refine m_irem hC dX7_worthOf_21 (by omega) (by omega) ?_
      refine m_top (b := ((left % 5 : Nat) : Int)) (by omega) ?_
      refine m_istore (lv' := [some (.ref mo), some (vi ((way : Int))), some (vi (((left : Nat) : Int))), some (vi (sm)), some (vi (b2i (can))), some (vi (((n : Nat) : Int))), some (vi (((left % 5 : Nat) : Int))), none]) hC dX7_worthOf_22 (by decide) rfl ?_
      refine m_ald_n hC dX7_worthOf_24 rfl ?_
      refine m_ald_n hC dX7_worthOf_25 rfl ?_
      refine m_getA hC 21 dX7_worthOf_26 gf_RX7_59 ⟨by decide, rfl⟩ ?_
      refine m_iload hC dX7_worthOf_29 rfl ?_
      refine m_iald hC 21 (n) dX7_worthOf_31 ⟨by decide, rfl, rfl⟩ rfl (by simp only [mK]; omega) ?_
      refine m_top (b := F 21 (n)) rfl ?_
      rw [eX]
      refine m_ald_n hC dX7_worthOf_32 rfl ?_
      refine m_getI hC 0 dX7_worthOf_33 gf_RX7_103 ⟨by decide, rfl⟩ ?_
      have hIs : mI z (F4 F (F 15) (F 16) (C) (P)) := hI
      refine m_callV (rest := []) hC (kX7_nameOn hl hIs i hi14 (z 0) (by omega)) gc_RX7_106 rfl rfl ⟨by decide, by decide⟩ (Nat.le_of_ble_eq_true rfl) rfl dX7_worthOf_36 (fun r z' F' hp => ?_)
      obtain ⟨rfl, hz, hF⟩ := hp
      rw [hz, hF]
      clear hz hF
      refine gVM.eqs (st' := [vi (nmOf G (z 0) i)]) rfl (by rw [nmOf_F4, nmOf_c hG] <;> rfl) rfl rfl ?_
      rw [eq]
      refine m_istore (lv' := [some (.ref mo), some (vi ((way : Int))), some (vi (((left : Nat) : Int))), some (vi (sm)), some (vi (b2i (can))), some (vi (((n : Nat) : Int))), some (vi (((left % 5 : Nat) : Int))), some (vi ((q : Int)))]) hC dX7_worthOf_39 (by decide) rfl ?_
      refine m_ald_n hC dX7_worthOf_41 rfl ?_
      refine m_getA hC 17 dX7_worthOf_42 gf_RX7_50 ⟨by decide, rfl⟩ ?_
      refine m_ald_n hC dX7_worthOf_45 rfl ?_
      refine m_getA hC 21 dX7_worthOf_46 gf_RX7_59 ⟨by decide, rfl⟩ ?_
      refine m_iload hC dX7_worthOf_49 rfl ?_
      refine m_iald hC 21 (n) dX7_worthOf_51 ⟨by decide, rfl, rfl⟩ rfl (by simp only [mK]; omega) ?_
      refine m_top (b := F 21 (n)) rfl ?_
      rw [eX]
      refine m_iconst hC dX7_worthOf_52 rfl ?_
      refine m_iast hC 17 (i) dX7_worthOf_53 ⟨by decide, rfl, rfl⟩ rfl (by simp only [mK]; omega) ?_
      refine gVM.eqs (F' := F4 F (F 15) (F 16) (gup (C) (i) ((-1))) (P)) rfl rfl rfl (F4_17 _ _ _ _ _ _) ?_
      refine m_iload hC dX7_worthOf_54 rfl ?_
      refine m_iconst hC dX7_worthOf_56 rfl ?_
      refine m_icmp_ge (tgt := 131) hC dX7_worthOf_57 (by decide) (by omega) (by omega) (fun h4 => ?_) (fun h4 => ?_)
      · refine m_iload_n hC dX7_worthOf_131 rfl ?_
        refine m_iconst hC dX7_worthOf_132 rfl ?_
        refine m_idiv hC dX7_worthOf_133 (by omega) (by omega) ?_
        refine m_top (b := ((left / 5 : Nat) : Int)) (by omega) ?_
        refine m_istore_n (lv' := [some (.ref mo), some (vi ((way : Int))), some (vi (((left / 5 : Nat) : Int))), some (vi (sm)), some (vi (b2i (can))), some (vi (((n : Nat) : Int))), some (vi (((left % 5 : Nat) : Int))), some (vi ((q : Int)))]) hC dX7_worthOf_134 (by decide) rfl ?_
        refine m_iinc (lv' := [some (.ref mo), some (vi ((way : Int))), some (vi (((left / 5 : Nat) : Int))), some (vi (sm)), some (vi (b2i (can))), some (vi (((n : Nat) : Int) + 1)), some (vi (((left % 5 : Nat) : Int))), some (vi ((q : Int)))]) hC dX7_worthOf_135 (by decide) rfl rfl ?_
        refine m_goto (tgt := 10) hC dX7_worthOf_138 (by decide) ?_
        refine gVM.drop (lv' := [some (.ref mo), some (vi ((way : Int))), some (vi (((left / 5 : Nat) : Int))), some (vi (sm)), some (vi (b2i (can))), some (vi (((n : Nat) : Int) + 1)), none, none]) trivial (by intro k v hk; match k, hk with | 0, hk => exact hk | 1, hk => exact hk | 2, hk => exact hk | 3, hk => exact hk | 4, hk => exact hk | 5, hk => exact hk | 6, hk => exact absurd hk (by simp) | 7, hk => exact absurd hk (by simp) | k + 8, hk => exact absurd hk (by simp)) ?_
        refine gVM.eqs (lv' := [some (.ref mo), some (vi ((way : Int))), some (vi (((left / 5 : Nat) : Int))), some (vi (sm)), some (vi (b2i (can))), some (vi (((n + 1 : Nat) : Int))), none, none]) (lcons rfl (lcons rfl (lcons rfl (lcons rfl (lcons rfl (lcons (svi (by omega)) (lcons rfl (lcons rfl rfl)))))))) rfl rfl rfl ?_
        exact ih (gup C i (-1)) (P) (can) (sm) (left / 5) (by omega) (by omega) hPok (covI_no hcov hnt) (fitOk_app hfo hnt (fun h => absurd rfl h)) (by rw [hrel, wv_c, if_neg (show ¬ left % 5 < 4 by omega)])
      · refine m_iload hC dX7_worthOf_60 rfl ?_
        refine m_ifeq_b (tgt := 131) hC dX7_worthOf_62 (by decide)  (fun hcan => ?_) (fun hcan => ?_)
        · refine m_iload_n hC dX7_worthOf_131 rfl ?_
          refine m_iconst hC dX7_worthOf_132 rfl ?_
          refine m_idiv hC dX7_worthOf_133 (by omega) (by omega) ?_
          refine m_top (b := ((left / 5 : Nat) : Int)) (by omega) ?_
          refine m_istore_n (lv' := [some (.ref mo), some (vi ((way : Int))), some (vi (((left / 5 : Nat) : Int))), some (vi (sm)), some (vi (b2i (can))), some (vi (((n : Nat) : Int))), some (vi (((left % 5 : Nat) : Int))), some (vi ((q : Int)))]) hC dX7_worthOf_134 (by decide) rfl ?_
          refine m_iinc (lv' := [some (.ref mo), some (vi ((way : Int))), some (vi (((left / 5 : Nat) : Int))), some (vi (sm)), some (vi (b2i (can))), some (vi (((n : Nat) : Int) + 1)), some (vi (((left % 5 : Nat) : Int))), some (vi ((q : Int)))]) hC dX7_worthOf_135 (by decide) rfl rfl ?_
          refine m_goto (tgt := 10) hC dX7_worthOf_138 (by decide) ?_
          refine gVM.drop (lv' := [some (.ref mo), some (vi ((way : Int))), some (vi (((left / 5 : Nat) : Int))), some (vi (sm)), some (vi (b2i (can))), some (vi (((n : Nat) : Int) + 1)), none, none]) trivial (by intro k v hk; match k, hk with | 0, hk => exact hk | 1, hk => exact hk | 2, hk => exact hk | 3, hk => exact hk | 4, hk => exact hk | 5, hk => exact hk | 6, hk => exact absurd hk (by simp) | 7, hk => exact absurd hk (by simp) | k + 8, hk => exact absurd hk (by simp)) ?_
          refine gVM.eqs (lv' := [some (.ref mo), some (vi ((way : Int))), some (vi (((left / 5 : Nat) : Int))), some (vi (sm)), some (vi (b2i (can))), some (vi (((n + 1 : Nat) : Int))), none, none]) (lcons rfl (lcons rfl (lcons rfl (lcons rfl (lcons rfl (lcons (svi (by omega)) (lcons rfl (lcons rfl rfl)))))))) rfl rfl rfl ?_
          exact ih (gup C i (-1)) (P) (can) (sm) (left / 5) (by omega) (by omega) hPok (covI_no hcov hnt) (fitOk_app hfo hnt (fun h => absurd rfl h)) (by rw [hrel, hcan]; rfl)
        · refine m_ald_n hC dX7_worthOf_65 rfl ?_
          refine m_ald_n hC dX7_worthOf_66 rfl ?_
          refine m_getA hC 21 dX7_worthOf_67 gf_RX7_59 ⟨by decide, rfl⟩ ?_
          refine m_iload hC dX7_worthOf_70 rfl ?_
          refine m_iald hC 21 (n) dX7_worthOf_72 ⟨by decide, rfl, rfl⟩ rfl (by simp only [mK]; omega) ?_
          refine m_top (b := F 21 (n)) rfl ?_
          rw [eX]
          refine m_iload hC dX7_worthOf_73 rfl ?_
          refine m_iload hC dX7_worthOf_75 rfl ?_
          have hIs2 : mI z (F4 F (F 15) (F 16) (gup (C) (i) ((-1))) (P)) := hI
          refine m_callV (rest := []) hC (kX7_mayStand' hl hIs2 i q hi14 hq84 ((left % 5 : Nat) : Int) (by omega) e16 e15 en9 rfl (by omega) (by omega) ⟨hm1, hm8⟩ hPok) gc_RX7_138 rfl rfl ⟨by decide, by decide⟩ (Nat.le_of_ble_eq_true rfl) rfl dX7_worthOf_77 (fun r z' F' hp => ?_)
          obtain ⟨rfl, hz, hF⟩ := hp
          rw [hz, hF]
          clear hz hF
          refine gVM.eqs (st' := [vi (b2i (mayI G s (z 0) P i ((left % 5 : Nat) : Int)))]) rfl rfl rfl rfl ?_
          refine m_istore (lv' := [some (.ref mo), some (vi ((way : Int))), some (vi (((left : Nat) : Int))), some (vi (sm)), some (vi (b2i (mayI G s (z 0) P i ((left % 5 : Nat) : Int)))), some (vi (((n : Nat) : Int))), some (vi (((left % 5 : Nat) : Int))), some (vi ((q : Int)))]) hC dX7_worthOf_80 (by decide) rfl ?_
          refine m_iload hC dX7_worthOf_82 rfl ?_
          refine m_ifeq_b (tgt := 131) hC dX7_worthOf_84 (by decide)  (fun hy => ?_) (fun hy => ?_)
          · refine m_iload_n hC dX7_worthOf_131 rfl ?_
            refine m_iconst hC dX7_worthOf_132 rfl ?_
            refine m_idiv hC dX7_worthOf_133 (by omega) (by omega) ?_
            refine m_top (b := ((left / 5 : Nat) : Int)) (by omega) ?_
            refine m_istore_n (lv' := [some (.ref mo), some (vi ((way : Int))), some (vi (((left / 5 : Nat) : Int))), some (vi (sm)), some (vi (b2i (mayI G s (z 0) P i ((left % 5 : Nat) : Int)))), some (vi (((n : Nat) : Int))), some (vi (((left % 5 : Nat) : Int))), some (vi ((q : Int)))]) hC dX7_worthOf_134 (by decide) rfl ?_
            refine m_iinc (lv' := [some (.ref mo), some (vi ((way : Int))), some (vi (((left / 5 : Nat) : Int))), some (vi (sm)), some (vi (b2i (mayI G s (z 0) P i ((left % 5 : Nat) : Int)))), some (vi (((n : Nat) : Int) + 1)), some (vi (((left % 5 : Nat) : Int))), some (vi ((q : Int)))]) hC dX7_worthOf_135 (by decide) rfl rfl ?_
            refine m_goto (tgt := 10) hC dX7_worthOf_138 (by decide) ?_
            refine gVM.drop (lv' := [some (.ref mo), some (vi ((way : Int))), some (vi (((left / 5 : Nat) : Int))), some (vi (sm)), some (vi (b2i (mayI G s (z 0) P i ((left % 5 : Nat) : Int)))), some (vi (((n : Nat) : Int) + 1)), none, none]) trivial (by intro k v hk; match k, hk with | 0, hk => exact hk | 1, hk => exact hk | 2, hk => exact hk | 3, hk => exact hk | 4, hk => exact hk | 5, hk => exact hk | 6, hk => exact absurd hk (by simp) | 7, hk => exact absurd hk (by simp) | k + 8, hk => exact absurd hk (by simp)) ?_
            refine gVM.eqs (lv' := [some (.ref mo), some (vi ((way : Int))), some (vi (((left / 5 : Nat) : Int))), some (vi (sm)), some (vi (b2i (mayI G s (z 0) P i ((left % 5 : Nat) : Int)))), some (vi (((n + 1 : Nat) : Int))), none, none]) (lcons rfl (lcons rfl (lcons rfl (lcons rfl (lcons rfl (lcons (svi (by omega)) (lcons rfl (lcons rfl rfl)))))))) rfl rfl rfl ?_
            exact ih (gup C i (-1)) (P) (mayI G s (z 0) P i ((left % 5 : Nat) : Int)) (sm) (left / 5) (by omega) (by omega) hPok (covI_no hcov hnt) (fitOk_app hfo hnt (fun h => absurd rfl h)) (by rw [hrel, hcan, if_pos rfl, wv_c, if_pos (show left % 5 < 4 by omega), hy, if_neg (by decide), if_neg (by decide)]; rfl)
          · have hfit := mayB_fit hy
            refine m_ald_n hC dX7_worthOf_87 rfl ?_
            refine m_ald_n hC dX7_worthOf_88 rfl ?_
            refine m_getA hC 21 dX7_worthOf_89 gf_RX7_59 ⟨by decide, rfl⟩ ?_
            refine m_iload hC dX7_worthOf_92 rfl ?_
            refine m_iald hC 21 (n) dX7_worthOf_94 ⟨by decide, rfl, rfl⟩ rfl (by simp only [mK]; omega) ?_
            refine m_top (b := F 21 (n)) rfl ?_
            rw [eX]
            refine m_iload hC dX7_worthOf_95 rfl ?_
            refine m_iload hC dX7_worthOf_97 rfl ?_
            refine m_callV (rest := []) hC (kX7_puts' hl hIs2 i q hi14 hq84 ((left % 5 : Nat) : Int) (by omega) e16 e15 en9 rfl (by omega) (by omega) ⟨hm1, hm8⟩ hfit (fun t ht => by have := hlt t ht; rw [← hG.at10] at this; exact this)) gc_RX7_141 rfl rfl ⟨by decide, by decide⟩ (Nat.le_of_ble_eq_true rfl) rfl dX7_worthOf_99 (fun r z' F' hp => ?_)
            obtain ⟨rfl, hz, hF⟩ := hp
            rw [hz, hF, F4_18]
            clear hz hF
            have ew : putN P (40 * rowAtN (qRow G s i) ((left % 5 : Nat) : Int) + colAtN (qCol G s i) ((left % 5 : Nat) : Int) (nmn G (z 0) i)).toNat (fun t => F 10 (8 * q + t)) (nmn G (z 0) i).toNat = wrtI G s (z 0) P i ((left % 5 : Nat) : Int) := by unfold wrtI wrt; rw [eq2, ← enm, hG.at10]
            refine gVM.eqs (st' := []) (F' := F4 F (F 15) (F 16) (gup C i (-1)) (wrtI G s (z 0) P i ((left % 5 : Nat) : Int))) rfl rfl rfl (by rw [← ew]; rfl) ?_
            refine m_ald_n hC dX7_worthOf_102 rfl ?_
            refine m_getA hC 17 dX7_worthOf_103 gf_RX7_50 ⟨by decide, rfl⟩ ?_
            refine m_ald_n hC dX7_worthOf_106 rfl ?_
            refine m_getA hC 21 dX7_worthOf_107 gf_RX7_59 ⟨by decide, rfl⟩ ?_
            refine m_iload hC dX7_worthOf_110 rfl ?_
            refine m_iald hC 21 (n) dX7_worthOf_112 ⟨by decide, rfl, rfl⟩ rfl (by simp only [mK]; omega) ?_
            refine m_top (b := F 21 (n)) rfl ?_
            rw [eX]
            refine m_iload hC dX7_worthOf_113 rfl ?_
            refine m_iast hC 17 (i) dX7_worthOf_115 ⟨by decide, rfl, rfl⟩ rfl (by simp only [mK]; omega) ?_
            refine gVM.eqs (F' := F4 F (F 15) (F 16) (gup (gup C i (-1)) (i) (((left % 5 : Nat) : Int))) (wrtI G s (z 0) P i ((left % 5 : Nat) : Int))) rfl rfl rfl (F4_17 _ _ _ _ _ _) ?_
            refine gVM.eqs (F' := F4 F (F 15) (F 16) (gup C i ((left % 5 : Nat) : Int)) (wrtI G s (z 0) P i ((left % 5 : Nat) : Int))) rfl rfl rfl (by rw [gup_gup]) ?_
            refine m_iload_n hC dX7_worthOf_116 rfl ?_
            refine m_ald_n hC dX7_worthOf_117 rfl ?_
            refine m_getA hC 6 dX7_worthOf_118 gf_RX7_20 ⟨by decide, rfl⟩ ?_
            refine m_ald_n hC dX7_worthOf_121 rfl ?_
            refine m_getA hC 21 dX7_worthOf_122 gf_RX7_59 ⟨by decide, rfl⟩ ?_
            refine m_iload hC dX7_worthOf_125 rfl ?_
            refine m_iald hC 21 (n) dX7_worthOf_127 ⟨by decide, rfl, rfl⟩ rfl (by simp only [mK]; omega) ?_
            refine m_top (b := F 21 (n)) rfl ?_
            rw [eX]
            refine m_iald hC 6 (i) dX7_worthOf_128 ⟨by decide, rfl, rfl⟩ rfl (by simp only [mK]; omega) ?_
            refine m_top (b := F 6 (i)) rfl ?_
            rw [hG.at6]
            refine m_iadd hC dX7_worthOf_129 ?_
            refine m_istore_n (lv' := [some (.ref mo), some (vi ((way : Int))), some (vi (((left : Nat) : Int))), some (vi ((sm) + (G 6 (i)))), some (vi (b2i (mayI G s (z 0) P i ((left % 5 : Nat) : Int)))), some (vi (((n : Nat) : Int))), some (vi (((left % 5 : Nat) : Int))), some (vi ((q : Int)))]) hC dX7_worthOf_130 (by decide) rfl ?_
            refine m_iload_n hC dX7_worthOf_131 rfl ?_
            refine m_iconst hC dX7_worthOf_132 rfl ?_
            refine m_idiv hC dX7_worthOf_133 (by omega) (by omega) ?_
            refine m_top (b := ((left / 5 : Nat) : Int)) (by omega) ?_
            refine m_istore_n (lv' := [some (.ref mo), some (vi ((way : Int))), some (vi (((left / 5 : Nat) : Int))), some (vi ((sm) + (G 6 (i)))), some (vi (b2i (mayI G s (z 0) P i ((left % 5 : Nat) : Int)))), some (vi (((n : Nat) : Int))), some (vi (((left % 5 : Nat) : Int))), some (vi ((q : Int)))]) hC dX7_worthOf_134 (by decide) rfl ?_
            refine m_iinc (lv' := [some (.ref mo), some (vi ((way : Int))), some (vi (((left / 5 : Nat) : Int))), some (vi ((sm) + (G 6 (i)))), some (vi (b2i (mayI G s (z 0) P i ((left % 5 : Nat) : Int)))), some (vi (((n : Nat) : Int) + 1)), some (vi (((left % 5 : Nat) : Int))), some (vi ((q : Int)))]) hC dX7_worthOf_135 (by decide) rfl rfl ?_
            refine m_goto (tgt := 10) hC dX7_worthOf_138 (by decide) ?_
            refine gVM.drop (lv' := [some (.ref mo), some (vi ((way : Int))), some (vi (((left / 5 : Nat) : Int))), some (vi ((sm) + (G 6 (i)))), some (vi (b2i (mayI G s (z 0) P i ((left % 5 : Nat) : Int)))), some (vi (((n : Nat) : Int) + 1)), none, none]) trivial (by intro k v hk; match k, hk with | 0, hk => exact hk | 1, hk => exact hk | 2, hk => exact hk | 3, hk => exact hk | 4, hk => exact hk | 5, hk => exact hk | 6, hk => exact absurd hk (by simp) | 7, hk => exact absurd hk (by simp) | k + 8, hk => exact absurd hk (by simp)) ?_
            refine gVM.eqs (lv' := [some (.ref mo), some (vi ((way : Int))), some (vi (((left / 5 : Nat) : Int))), some (vi ((sm) + (G 6 (i)))), some (vi (b2i (mayI G s (z 0) P i ((left % 5 : Nat) : Int)))), some (vi (((n + 1 : Nat) : Int))), none, none]) (lcons rfl (lcons rfl (lcons rfl (lcons rfl (lcons rfl (lcons (svi (by omega)) (lcons rfl (lcons rfl rfl)))))))) rfl rfl rfl ?_
            exact ih (gup C i ((left % 5 : Nat) : Int)) (wrtI G s (z 0) P i ((left % 5 : Nat) : Int)) (mayI G s (z 0) P i ((left % 5 : Nat) : Int)) (sm + G 6 i) (left / 5) (by omega) (by omega) (wrt_ok (mI_fc hG.sy hI) hi14 hnn hPok _ _ _) (covI_yes hcov hnt (by omega) hy (fun t ht => by have := hlt t (ht); rw [eq2]; omega)) (fitOk_app hfo hnt (fun _ => ⟨by omega, hfit⟩)) (by rw [hrel, hcan, if_pos rfl, wv_c, if_pos (show left % 5 < 4 by omega), hy, if_pos rfl, if_pos rfl, Option.map_map]; congr 1; funext q9; show sm + (G 6 i + q9) = sm + G 6 i + q9; omega)
    · intro C P can sm left hleft hsm hPok hcov hfo hrel
      rw [List.take_length] at hcov hfo
      rw [List.drop_length] at hrel
      refine m_iload hC dX7_worthOf_10 rfl ?_
      refine m_ald_n hC dX7_worthOf_12 rfl ?_
      refine m_getI hC 20 dX7_worthOf_13 gf_RX7_151 ⟨by decide, rfl⟩ ?_
      rw [hz20]
      refine m_icmp_ge (tgt := 141) hC dX7_worthOf_16 (by decide) (by omega) (by omega) (fun c_16 => ?_) (fun c_16 => False.elim (by omega))
      refine m_iconst hC dX7_worthOf_141 rfl ?_
      refine m_istore (lv' := [some (.ref mo), some (vi ((way : Int))), some (vi (((left : Nat) : Int))), some (vi (sm)), some (vi (b2i (can))), some (vi (0)), none, none]) hC dX7_worthOf_142 (by decide) rfl ?_
      have l2 : ∀ n : Nat, n ≤ L.length → ∀ Q : Nat → Int, offI G s (z 0) C P Q (L.take n) → gVM x D base 8 mo ad gh 144 [some (.ref mo), some (vi ((way : Int))), some (vi ((left : Int))), some (vi (sm)), some (vi (b2i (can))), some (vi (((n : Nat) : Int))), none, none] [] z (F4 F (F 15) (F 16) C Q) := by
        refine g_for _ (fun n hn ih2 => ?_) ?_
        · intro Q hoff
          obtain ⟨i, ei⟩ : ∃ i, i = L.getD n 0 := ⟨_, rfl⟩
          have hiL : i ∈ L := by rw [ei]; exact hmL n hn
          obtain ⟨hi14, hi3, hon, hnn⟩ := hmem i hiL
          have eX : F 21 n = (i : Int) := by rw [ei]; exact hT n (by omega) hn
          have hnk := nm_ok (mI_fc hG.sy hI) (on := z 0) hi14 hnn
          obtain ⟨q, eq⟩ : ∃ q : Nat, nmOf G (z 0) i = (q : Int) := ⟨(nmOf G (z 0) i).toNat, hnk.2.1.symm⟩
          have eq2 : (nmOf G (z 0) i).toNat = q := by omega
          rw [eq2] at hnk
          obtain ⟨hq84, -, hm1, hm8, hlt⟩ := hnk
          have enm : nmn G (z 0) i = G 9 q := by unfold nmn; rw [eq2]
          rw [← enm] at hm1 hm8 hlt
          have en9 : F 9 q = nmn G (z 0) i := by rw [enm, hG.at9]
          have e15 := h15 i hiL
          have e16 := h16 i hiL
          have hcr := qCol_rng hon
          have hrr := qRow_rng hon
          have hrk := hr6 i hiL
          rw [takeT hn, ← ei] at ih2
          have hfi := hfo i hiL
          have hCr : -1 ≤ C i ∧ C i ≤ 3 := by
            by_cases e : C i = -1
            · omega
            · have := (hfi e).1; omega
          refine m_iload hC dX7_worthOf_144 rfl ?_
          refine m_ald_n hC dX7_worthOf_146 rfl ?_
          refine m_getI hC 20 dX7_worthOf_147 gf_RX7_151 ⟨by decide, rfl⟩ ?_
          rw [hz20]
          refine m_icmp_ge (tgt := 213) hC dX7_worthOf_150 (by decide) (by omega) (by omega) (fun c_150 => False.elim (by omega)) (fun c_150 => ?_)
          refine m_ald_n hC dX7_worthOf_153 rfl ?_
          refine m_getA hC 17 dX7_worthOf_154 gf_RX7_50 ⟨by decide, rfl⟩ ?_
          refine m_ald_n hC dX7_worthOf_157 rfl ?_
          refine m_getA hC 21 dX7_worthOf_158 gf_RX7_59 ⟨by decide, rfl⟩ ?_
          refine m_iload hC dX7_worthOf_161 rfl ?_
          refine m_iald hC 21 (n) dX7_worthOf_163 ⟨by decide, rfl, rfl⟩ rfl (by simp only [mK]; omega) ?_
          refine m_top (b := F 21 (n)) rfl ?_
          rw [eX]
          refine m_iald hC 17 (i) dX7_worthOf_164 ⟨by decide, rfl, rfl⟩ rfl (by simp only [mK]; omega) ?_
          refine m_top (b := C (i)) rfl ?_
          refine m_iconst hC dX7_worthOf_165 rfl ?_
          refine m_icmp_eq (tgt := 207) hC dX7_worthOf_166 (by decide) (by omega) (by omega) (fun hc => ?_) (fun hc => ?_)
          · refine m_iinc (lv' := [some (.ref mo), some (vi ((way : Int))), some (vi ((left : Int))), some (vi (sm)), some (vi (b2i (can))), some (vi (((n : Nat) : Int) + 1)), none, none]) hC dX7_worthOf_207 (by decide) rfl rfl ?_
            refine m_goto (tgt := 144) hC dX7_worthOf_210 (by decide) ?_
            refine gVM.drop (lv' := [some (.ref mo), some (vi ((way : Int))), some (vi ((left : Int))), some (vi (sm)), some (vi (b2i (can))), some (vi (((n : Nat) : Int) + 1)), none, none]) trivial (by intro k v hk; match k, hk with | 0, hk => exact hk | 1, hk => exact hk | 2, hk => exact hk | 3, hk => exact hk | 4, hk => exact hk | 5, hk => exact hk | 6, hk => exact absurd hk (by simp) | 7, hk => exact absurd hk (by simp) | k + 8, hk => exact absurd hk (by simp)) ?_
            refine gVM.eqs (lv' := [some (.ref mo), some (vi ((way : Int))), some (vi ((left : Int))), some (vi (sm)), some (vi (b2i (can))), some (vi ((((n + 1) : Nat) : Int))), none, none]) (lcons rfl (lcons rfl (lcons rfl (lcons rfl (lcons rfl (lcons (svi (by omega)) (lcons rfl (lcons rfl rfl)))))))) rfl rfl rfl (ih2 Q (offI_no hoff hc))
          · obtain ⟨hc03, hcf⟩ := hfi hc
            refine m_ald_n hC dX7_worthOf_169 rfl ?_
            refine m_ald_n hC dX7_worthOf_170 rfl ?_
            refine m_getA hC 21 dX7_worthOf_171 gf_RX7_59 ⟨by decide, rfl⟩ ?_
            refine m_iload hC dX7_worthOf_174 rfl ?_
            refine m_iald hC 21 (n) dX7_worthOf_176 ⟨by decide, rfl, rfl⟩ rfl (by simp only [mK]; omega) ?_
            refine m_top (b := F 21 (n)) rfl ?_
            rw [eX]
            refine m_ald_n hC dX7_worthOf_177 rfl ?_
            refine m_ald_n hC dX7_worthOf_178 rfl ?_
            refine m_getA hC 21 dX7_worthOf_179 gf_RX7_59 ⟨by decide, rfl⟩ ?_
            refine m_iload hC dX7_worthOf_182 rfl ?_
            refine m_iald hC 21 (n) dX7_worthOf_184 ⟨by decide, rfl, rfl⟩ rfl (by simp only [mK]; omega) ?_
            refine m_top (b := F 21 (n)) rfl ?_
            rw [eX]
            refine m_ald_n hC dX7_worthOf_185 rfl ?_
            refine m_getI hC 0 dX7_worthOf_186 gf_RX7_103 ⟨by decide, rfl⟩ ?_
            have hIs2 : mI z (F4 F (F 15) (F 16) (C) (Q)) := hI
            refine m_callV (rest := [vi ((i : Int)), .ref mo]) hC (kX7_nameOn hl hIs2 i hi14 (z 0) (by omega)) gc_RX7_106 rfl rfl ⟨by decide, by decide⟩ (Nat.le_of_ble_eq_true rfl) rfl dX7_worthOf_189 (fun r z' F' hp => ?_)
            obtain ⟨rfl, hz, hF⟩ := hp
            rw [hz, hF]
            clear hz hF
            refine gVM.eqs (st' := [vi (nmOf G (z 0) i), vi ((i : Int)), .ref mo]) rfl (by rw [nmOf_F4, nmOf_c hG] <;> rfl) rfl rfl ?_
            rw [eq]
            refine m_ald_n hC dX7_worthOf_192 rfl ?_
            refine m_getA hC 17 dX7_worthOf_193 gf_RX7_50 ⟨by decide, rfl⟩ ?_
            refine m_ald_n hC dX7_worthOf_196 rfl ?_
            refine m_getA hC 21 dX7_worthOf_197 gf_RX7_59 ⟨by decide, rfl⟩ ?_
            refine m_iload hC dX7_worthOf_200 rfl ?_
            refine m_iald hC 21 (n) dX7_worthOf_202 ⟨by decide, rfl, rfl⟩ rfl (by simp only [mK]; omega) ?_
            refine m_top (b := F 21 (n)) rfl ?_
            rw [eX]
            refine m_iald hC 17 (i) dX7_worthOf_203 ⟨by decide, rfl, rfl⟩ rfl (by simp only [mK]; omega) ?_
            refine m_top (b := C (i)) rfl ?_
            refine m_callV (rest := []) hC (kX7_takes' hl hIs2 i q hi14 hq84 (C i) hc03 e16 e15 en9 rfl (by omega) (by omega) ⟨hm1, hm8⟩ hcf) gc_RX7_154 rfl rfl ⟨by decide, by decide⟩ (Nat.le_of_ble_eq_true rfl) rfl dX7_worthOf_204 (fun r z' F' hp => ?_)
            obtain ⟨rfl, hz, hF⟩ := hp
            rw [hz, hF, F4_18]
            clear hz hF
            refine gVM.eqs (st' := []) rfl rfl rfl rfl ?_
            refine m_iinc (lv' := [some (.ref mo), some (vi ((way : Int))), some (vi ((left : Int))), some (vi (sm)), some (vi (b2i (can))), some (vi (((n : Nat) : Int) + 1)), none, none]) hC dX7_worthOf_207 (by decide) rfl rfl ?_
            refine m_goto (tgt := 144) hC dX7_worthOf_210 (by decide) ?_
            refine gVM.drop (lv' := [some (.ref mo), some (vi ((way : Int))), some (vi ((left : Int))), some (vi (sm)), some (vi (b2i (can))), some (vi (((n : Nat) : Int) + 1)), none, none]) trivial (by intro k v hk; match k, hk with | 0, hk => exact hk | 1, hk => exact hk | 2, hk => exact hk | 3, hk => exact hk | 4, hk => exact hk | 5, hk => exact hk | 6, hk => exact absurd hk (by simp) | 7, hk => exact absurd hk (by simp) | k + 8, hk => exact absurd hk (by simp)) ?_
            refine gVM.eqs (lv' := [some (.ref mo), some (vi ((way : Int))), some (vi ((left : Int))), some (vi (sm)), some (vi (b2i (can))), some (vi ((((n + 1) : Nat) : Int))), none, none]) (lcons rfl (lcons rfl (lcons rfl (lcons rfl (lcons rfl (lcons (svi (by omega)) (lcons rfl (lcons rfl rfl)))))))) rfl rfl rfl (ih2 _ (offI_yes hoff hc))
        · intro Q hoff
          rw [List.take_length] at hoff
          have eQ := off_all hcov hoff
          refine m_iload hC dX7_worthOf_144 rfl ?_
          refine m_ald_n hC dX7_worthOf_146 rfl ?_
          refine m_getI hC 20 dX7_worthOf_147 gf_RX7_151 ⟨by decide, rfl⟩ ?_
          rw [hz20]
          refine m_icmp_ge (tgt := 213) hC dX7_worthOf_150 (by decide) (by omega) (by omega) (fun c_150 => ?_) (fun c_150 => False.elim (by omega))
          refine m_iload hC dX7_worthOf_213 rfl ?_
          refine m_ifeq_b (tgt := 222) hC dX7_worthOf_215 (by decide)  (fun hcan => ?_) (fun hcan => ?_)
          · refine m_iconst hC dX7_worthOf_222 rfl ?_
            exact m_iret hC hq dX7_worthOf_223 ⟨by unfold wvI; rw [hrel, hcan]; rfl, rfl, C, by rw [eQ, ← hP0, F4_17only]⟩
          · refine m_iload_n hC dX7_worthOf_218 rfl ?_
            refine m_goto (tgt := 223) hC dX7_worthOf_219 (by decide) ?_
            exact m_iret hC hq dX7_worthOf_223 ⟨by unfold wvI; rw [hrel, hcan]; show _ = some (vi (sm + 0)); rw [Int.add_zero], rfl, C, by rw [eQ, ← hP0, F4_17only]⟩
      refine gVM.drop (lv' := [some (.ref mo), some (vi ((way : Int))), some (vi (((left : Nat) : Int))), some (vi (sm)), some (vi (b2i (can))), some (vi (0)), none, none]) trivial (by intro k v hk; match k, hk with | 0, hk => exact hk | 1, hk => exact hk | 2, hk => exact hk | 3, hk => exact hk | 4, hk => exact hk | 5, hk => exact hk | 6, hk => exact absurd hk (by simp) | 7, hk => exact absurd hk (by simp) | k + 8, hk => exact absurd hk (by simp)) ?_
      refine gVM.eqs (lv' := [some (.ref mo), some (vi ((way : Int))), some (vi ((left : Int))), some (vi (sm)), some (vi (b2i (can))), some (vi (((0 : Nat) : Int))), none, none]) rfl rfl rfl rfl (l2 0 (Nat.zero_le _) P offI_0)
  refine gVM.eqs (lv' := [some (.ref mo), some (vi ((way : Int))), some (vi (((way : Nat) : Int))), some (vi (0)), some (vi (b2i (true))), some (vi (((0 : Nat) : Int))), none, none]) rfl rfl rfl rfl (lp 0 (Nat.zero_le _) (F 17) P0 true 0 way hw (by omega) hok covI_0 (fun i h => nomatch h) (by rw [if_pos rfl, List.drop_zero]; cases wv G s (z 0) P0 L way with | none => rfl | some v => show some v = some (0 + v); rw [Int.zero_add]))

end M12
