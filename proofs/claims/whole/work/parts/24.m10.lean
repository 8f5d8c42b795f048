/-! the reference: printed -/
section M10
def recP (F : Nat → Nat → Int) (e s m : Nat) : Nat → (Nat → Int)
  | 0 => dotP F s m
  | n + 1 => if F 26 (14 * (4 * e + s) + n) = -1 then recP F e s m n else wrt F (recP F e s m n) (qRow F s n) (qCol F s n) (F 25 (14 * e + n)) (F 26 (14 * (4 * e + s) + n))
theorem recP_s (F : Nat → Nat → Int) (e s m n : Nat) : recP F e s m (n + 1) = if F 26 (14 * (4 * e + s) + n) = -1 then recP F e s m n else wrt F (recP F e s m n) (qRow F s n) (qCol F s n) (F 25 (14 * e + n)) (F 26 (14 * (4 * e + s) + n)) := rfl
/-- a name that stands in an edition: on the sheet, a told name, within the sheet -/
def edOk (F : Nat → Nat → Int) (s i : Nat) (q w : Int) : Prop := (0 ≤ w ∧ w ≤ 3) ∧ qOn F s i = true ∧ (0 ≤ q ∧ q < 84) ∧ (1 ≤ F 9 q.toNat ∧ F 9 q.toNat ≤ 8) ∧ (∀ t : Nat, (t : Int) < F 9 q.toNat → 97 ≤ F 10 (8 * q.toNat + t) ∧ F 10 (8 * q.toNat + t) ≤ 122) ∧ fitB (rowAtN (qRow F s i) w) (colAtN (qCol F s i) w (F 9 q.toNat)) (F 9 q.toNat) = true
/-- what always holds of the editions -/
def mE (z : Nat → Int) (F : Nat → Nat → Int) : Prop := ∀ e : Nat, (e : Int) < z 22 → 0 ≤ F 23 e ∧ F 23 e ≤ z 3 ∧ 0 ≤ F 24 e ∧ F 24 e ≤ z 11 ∧ ∀ s i : Nat, (s : Int) < F 24 e → (i : Int) < F 23 e → F 26 (14 * (4 * e + s) + i) = -1 ∨ edOk F s i (F 25 (14 * e + i)) (F 26 (14 * (4 * e + s) + i))
theorem wrt_ed {F : Nat → Nat → Int} {s i : Nat} {q w : Int} (h : edOk F s i q w) {P : Nat → Int} (hP : Pok P) (r c w' : Int) : Pok (wrt F P r c q w') := by
  unfold wrt
  exact putN_ok hP (fun t ht => by have := h.2.2.2.2.1 t (by omega); omega)
theorem recP_ok {z : Nat → Int} {F : Nat → Nat → Int} (hE : mE z F) {e s m : Nat} (he : (e : Int) < z 22) (hs : (s : Int) < F 24 e) : ∀ n : Nat, (n : Int) ≤ F 23 e → Pok (recP F e s m n)
  | 0, _ => dotP_ok m
  | n + 1, hn => by
    rw [recP_s]
    split
    · exact recP_ok hE he hs n (by omega)
    · next h => exact wrt_ed (((hE e he).2.2.2.2 s n hs (by omega)).resolve_left h) (recP_ok hE he hs n (by omega)) _ _ _
def printedV (F : Nat → Nat → Int) (e s : Nat) (r c : Int) : Int := if F 24 e ≤ (s : Int) then 32 else recP F e s (F 23 e).toNat (F 23 e).toNat (40 * r + c).toNat
set_option maxHeartbeats 4000000 in
set_option maxRecDepth 100000 in
theorem kX7_printed {l : Launch} (hl : l.stackTraces = false) {D : gD} {base mo : Nat} {ad : Nat → Nat} {z : Nat → Int} {F : Nat → Nat → Int} (hI : mI z F) (hE : mE z F) (e s r c : Int) (re : -2147483648 ≤ e ∧ e < 2147483648) (rs : -2147483648 ≤ s ∧ s < 2147483648) (rr : -2147483648 ≤ r ∧ r < 2147483648) (rc : -2147483648 ≤ c ∧ c < 2147483648) : mM l D base yX7_printed cX7_printed 7 (some Jvm.ClassFile.FieldType.char) 3 67 mo ad [vi (e), vi (s), vi (r), vi (c)] z F (fun r' z' F' => r' = some (if ((inB e 0 (z 22 - 1) && (inB s 0 (z 11 - 1) && (inB r 0 23 && inB c 0 39))) && true && true) = true then vi (printedV F e.toNat s.toNat r c) else vi 32) ∧ z' 27 = goesN (inB e 0 (z 22 - 1) && (inB s 0 (z 11 - 1) && (inB r 0 23 && inB c 0 39))) true true ∧ mSc z F z' F') := by
  obtain ⟨i0, i1, i3, i11, i22, iw, ip, inn, inm, ish⟩ := id hI
  refine mM.of hl (by decide) (by simp [Value.category]) (Nat.le_of_ble_eq_true rfl) [some (.ref mo), some (vi (e)), some (vi (s)), some (vi (r)), some (vi (c)), none, none] rfl (fun gh x hC hq => ?_)
  refine m_ald_n hC dX7_printed_0 rfl ?_
  refine g_cut (A := gVM x D base 7 mo ad gh 37 [some (.ref mo), some (vi (e)), some (vi (s)), some (vi (r)), some (vi (c)), none, none] [vi (b2i ((inB e 0 (z 22 - 1) && (inB s 0 (z 11 - 1) && (inB r 0 23 && inB c 0 39))))), .ref mo] (z) (F)) ?_ (fun j_37 => ?_)
  · refine m_iconst hC dX7_printed_37 rfl ?_
    refine m_iconst hC dX7_printed_38 rfl ?_
    refine m_callV (rest := []) hC (kX7_goes hl (inB e 0 (z 22 - 1) && (inB s 0 (z 11 - 1) && (inB r 0 23 && inB c 0 39))) true true) gc_RX7_91 rfl rfl ⟨by decide, by decide⟩ (Nat.le_of_ble_eq_true rfl) rfl dX7_printed_39 (fun r z' F' hp => ?_)
    obtain ⟨rfl, hz, hF⟩ := hp
    rw [hz, hF]
    clear hz hF
    refine gVM.eqs (st' := [vi (b2i (((inB e 0 (z 22 - 1) && (inB s 0 (z 11 - 1) && (inB r 0 23 && inB c 0 39))) && true && true)))]) rfl rfl rfl rfl ?_
    refine m_ifne_b (tgt := 48) hC dX7_printed_42 (by decide)  (fun hg => ?_) (fun hg => ?_)
    · have hg2 := hg
      simp only [Bool.and_eq_true, Bool.and_true, decide_eq_true_eq, inB_iff] at hg2
      obtain ⟨⟨he0, he1⟩, ⟨hs0, hs1⟩, ⟨hr0, hr1⟩, hc0, hc1⟩ := hg2
      obtain ⟨zz, ezz⟩ : ∃ zz, zz = gup (z) 27 (goesN (inB e 0 (z 22 - 1) && (inB s 0 (z 11 - 1) && (inB r 0 23 && inB c 0 39))) true true) := ⟨_, rfl⟩
      rw [← ezz]
      have z27 : zz 27 = goesN (inB e 0 (z 22 - 1) && (inB s 0 (z 11 - 1) && (inB r 0 23 && inB c 0 39))) true true := by rw [ezz]; exact gup_eq
      have hz0 : zz 0 = z 0 := by rw [ezz]; rfl
      have hz1 : zz 1 = z 1 := by rw [ezz]; rfl
      have hz3 : zz 3 = z 3 := by rw [ezz]; rfl
      have hz11 : zz 11 = z 11 := by rw [ezz]; rfl
      have hz22 : zz 22 = z 22 := by rw [ezz]; rfl
      have hzz : ∀ k, k ≠ 27 → k ≠ 20 → zz k = z k := fun k h _ => by rw [ezz]; exact gup_ne h
      clear ezz
      have hIz : mI zz F := mI_c lE.rf hzz hI
      obtain ⟨en, een⟩ : ∃ en : Nat, e = (en : Int) := ⟨e.toNat, by omega⟩
      obtain ⟨sn, esn⟩ : ∃ sn : Nat, s = (sn : Int) := ⟨s.toNat, by omega⟩
      have een2 : e.toNat = en := by omega
      have esn2 : s.toNat = sn := by omega
      have hEe := hE en (by omega)
      obtain ⟨hE1, hE2, hE3, hE4, hE5⟩ := hEe
      refine m_iload_n hC dX7_printed_48 rfl ?_
      refine m_ald_n hC dX7_printed_49 rfl ?_
      refine m_getA hC 24 dX7_printed_50 gf_RX7_65 ⟨by decide, rfl⟩ ?_
      refine m_iload_n hC dX7_printed_53 rfl ?_
      refine m_iald hC 24 (en) dX7_printed_54 ⟨by decide, rfl, rfl⟩ een (by simp only [mK]; omega) ?_
      refine m_icmp_lt (tgt := 61) hC dX7_printed_55 (by decide) (by omega) (by omega) (fun hx => ?_) (fun hx => ?_)
      · obtain ⟨m, hm⟩ : ∃ m : Nat, F 23 en = (m : Int) := ⟨(F 23 en).toNat, by omega⟩
        refine m_ald_n hC dX7_printed_61 rfl ?_
        refine m_iload_n hC dX7_printed_62 rfl ?_
        refine m_ald_n hC dX7_printed_63 rfl ?_
        refine m_getA hC 23 dX7_printed_64 gf_RX7_62 ⟨by decide, rfl⟩ ?_
        refine m_iload_n hC dX7_printed_67 rfl ?_
        refine m_iald hC 23 (en) dX7_printed_68 ⟨by decide, rfl, rfl⟩ een (by simp only [mK]; omega) ?_
        rw [hm]
        refine gVM.eqs (st' := [vi (m : Int), vi (sn : Int), .ref mo]) rfl (by rw [esn]) rfl rfl ?_
        refine m_callV (rest := []) hC (kX7_dots hl hIz sn m (by omega) (by omega)) gc_RX7_131 rfl rfl ⟨by decide, by decide⟩ (Nat.le_of_ble_eq_true rfl) rfl dX7_printed_69 (fun r z' F' hp => ?_)
        obtain ⟨rfl, hz, hF⟩ := hp
        rw [hz, hF]
        clear hz hF
        refine gVM.eqs (st' := []) rfl rfl rfl rfl ?_
        refine m_iconst hC dX7_printed_72 rfl ?_
        refine m_istore (lv' := [some (.ref mo), some (vi (e)), some (vi (s)), some (vi (r)), some (vi (c)), some (vi (0)), none]) hC dX7_printed_73 (by decide) rfl ?_
        have lp : ∀ n : Nat, n ≤ m → gVM x D base 7 mo ad gh 75 [some (.ref mo), some (vi (e)), some (vi (s)), some (vi (r)), some (vi (c)), some (vi (((n : Nat) : Int))), none] [] zz (F4 F (upto (cN F sn) (F 15) m) (upto (rN F sn) (F 16) m) (upto (fun _ => -1) (F 17) m) (recP F en sn m n)) := by
          refine g_for _ (fun n hn ih => ?_) ?_
          · have hok := recP_ok hE (e := en) (s := sn) (m := m) (by omega) (by omega) n (by omega)
            have hed := hE5 sn n (by omega) (by omega)
            obtain ⟨wv, ewv⟩ : ∃ wv, wv = F 26 (14 * (4 * en + sn) + n) := ⟨_, rfl⟩
            rw [← ewv] at hed
            have hwr : -1 ≤ wv ∧ wv ≤ 3 := by rcases hed with h | h; exact ⟨by omega, by omega⟩; exact ⟨by have := h.1; omega, h.1.2⟩
            have hIs : mI zz (F4 F (upto (cN F sn) (F 15) m) (upto (rN F sn) (F 16) m) (upto (fun _ => -1) (F 17) m) (recP F en sn m n)) := hIz
            have eA : (upto (cN F sn) (F 15) m) n = cN F sn n := upto_lt hn
            have eB : (upto (rN F sn) (F 16) m) n = rN F sn n := upto_lt hn
            refine m_iload hC dX7_printed_75 rfl ?_
            refine m_ald_n hC dX7_printed_77 rfl ?_
            refine m_getA hC 23 dX7_printed_78 gf_RX7_62 ⟨by decide, rfl⟩ ?_
            refine m_iload_n hC dX7_printed_81 rfl ?_
            refine m_iald hC 23 (en) dX7_printed_82 ⟨by decide, rfl, rfl⟩ een (by simp only [mK]; omega) ?_
            refine m_top (b := F 23 (en)) rfl ?_
            rw [hm]
            refine m_icmp_ge (tgt := 136) hC dX7_printed_83 (by decide) (by omega) (by omega) (fun c_83 => False.elim (by omega)) (fun c_83 => ?_)
            refine m_ald_n hC dX7_printed_86 rfl ?_
            refine m_getA hC 26 dX7_printed_87 gf_RX7_71 ⟨by decide, rfl⟩ ?_
            refine m_bipush (v := 14) hC dX7_printed_90 rfl ?_
            refine m_iconst hC dX7_printed_92 rfl ?_
            refine m_iload_n hC dX7_printed_93 rfl ?_
            refine m_imul hC dX7_printed_94 ?_
            refine m_iload_n hC dX7_printed_95 rfl ?_
            refine m_iadd hC dX7_printed_96 ?_
            refine m_imul hC dX7_printed_97 ?_
            refine m_iload hC dX7_printed_98 rfl ?_
            refine m_iadd hC dX7_printed_100 ?_
            refine m_iald hC 26 (14 * (4 * en + sn) + n) dX7_printed_101 ⟨by decide, rfl, rfl⟩ (by omega) (by simp only [mK]; omega) ?_
            refine m_top (b := F 26 (14 * (4 * en + sn) + n)) rfl ?_
            rw [← ewv]
            refine m_istore (lv' := [some (.ref mo), some (vi (e)), some (vi (s)), some (vi (r)), some (vi (c)), some (vi (((n : Nat) : Int))), some (vi (wv))]) hC dX7_printed_102 (by decide) rfl ?_
            refine m_iload hC dX7_printed_104 rfl ?_
            refine m_iconst hC dX7_printed_106 rfl ?_
            refine m_icmp_eq (tgt := 130) hC dX7_printed_107 (by decide) (by omega) (by omega) (fun hw => ?_) (fun hw => ?_)
            · refine m_iinc (lv' := [some (.ref mo), some (vi (e)), some (vi (s)), some (vi (r)), some (vi (c)), some (vi (((n : Nat) : Int) + 1)), some (vi (wv))]) hC dX7_printed_130 (by decide) rfl rfl ?_
              refine m_goto (tgt := 75) hC dX7_printed_133 (by decide) ?_
              rw [recP_s, if_pos (ewv.symm.trans hw)] at ih
              refine gVM.drop (lv' := [some (.ref mo), some (vi (e)), some (vi (s)), some (vi (r)), some (vi (c)), some (vi (((n : Nat) : Int) + 1)), none]) trivial (by intro k v hk; match k, hk with | 0, hk => exact hk | 1, hk => exact hk | 2, hk => exact hk | 3, hk => exact hk | 4, hk => exact hk | 5, hk => exact hk | 6, hk => exact absurd hk (by simp) | k + 7, hk => exact absurd hk (by simp)) ?_
              refine gVM.eqs (lv' := [some (.ref mo), some (vi (e)), some (vi (s)), some (vi (r)), some (vi (c)), some (vi ((((n + 1) : Nat) : Int))), none]) (lcons rfl (lcons rfl (lcons rfl (lcons rfl (lcons rfl (lcons (svi (by omega)) (lcons rfl rfl))))))) rfl rfl rfl ih
            · have hed2 := hed.resolve_left hw
              obtain ⟨hw03, hon, hq0, hn18, hlt, hfit⟩ := hed2
              obtain ⟨q, eq⟩ : ∃ q : Nat, F 25 (14 * en + n) = (q : Int) := ⟨(F 25 (14 * en + n)).toNat, by omega⟩
              rw [eq, Int.toNat_natCast] at hn18 hlt hfit
              have er : (upto (rN F sn) (F 16) m) n = qRow F sn n := by rw [eB]; unfold rN; rw [if_pos hon]
              have ec : (upto (cN F sn) (F 15) m) n = qCol F sn n := by rw [eA]; unfold cN; rw [if_pos hon]
              have hcr := qCol_rng hon
              have hrr := qRow_rng hon
              refine m_ald_n hC dX7_printed_110 rfl ?_
              refine m_iload hC dX7_printed_111 rfl ?_
              refine m_ald_n hC dX7_printed_113 rfl ?_
              refine m_getA hC 25 dX7_printed_114 gf_RX7_68 ⟨by decide, rfl⟩ ?_
              refine m_bipush (v := 14) hC dX7_printed_117 rfl ?_
              refine m_iload_n hC dX7_printed_119 rfl ?_
              refine m_imul hC dX7_printed_120 ?_
              refine m_iload hC dX7_printed_121 rfl ?_
              refine m_iadd hC dX7_printed_123 ?_
              refine m_iald hC 25 (14 * en + n) dX7_printed_124 ⟨by decide, rfl, rfl⟩ (by omega) (by simp only [mK]; omega) ?_
              refine m_top (b := F 25 (14 * en + n)) rfl ?_
              rw [eq]
              refine m_iload hC dX7_printed_125 rfl ?_
              refine m_callV (rest := []) hC (kX7_puts' hl hIs n q (by omega) (by omega) wv hw03 er ec rfl rfl (by omega) (by omega) hn18 hfit hlt) gc_RX7_141 rfl rfl ⟨by decide, by decide⟩ (Nat.le_of_ble_eq_true rfl) rfl dX7_printed_127 (fun r z' F' hp => ?_)
              obtain ⟨rfl, hz, hF⟩ := hp
              rw [hz, hF, F4_18]
              clear hz hF
              refine gVM.eqs (st' := []) rfl rfl rfl rfl ?_
              have e9 : recP F en sn m (n + 1) = putN (recP F en sn m n) (40 * rowAtN (qRow F sn n) wv + colAtN (qCol F sn n) wv (F 9 q)).toNat (fun t => F 10 (8 * q + t)) (F 9 q).toNat := by rw [recP_s, if_neg (fun h => hw (ewv.trans h)), ← ewv, eq]; unfold wrt; rw [Int.toNat_natCast]
              refine m_iinc (lv' := [some (.ref mo), some (vi (e)), some (vi (s)), some (vi (r)), some (vi (c)), some (vi (((n : Nat) : Int) + 1)), some (vi (wv))]) hC dX7_printed_130 (by decide) rfl rfl ?_
              refine m_goto (tgt := 75) hC dX7_printed_133 (by decide) ?_
              rw [e9] at ih
              refine gVM.drop (lv' := [some (.ref mo), some (vi (e)), some (vi (s)), some (vi (r)), some (vi (c)), some (vi (((n : Nat) : Int) + 1)), none]) trivial (by intro k v hk; match k, hk with | 0, hk => exact hk | 1, hk => exact hk | 2, hk => exact hk | 3, hk => exact hk | 4, hk => exact hk | 5, hk => exact hk | 6, hk => exact absurd hk (by simp) | k + 7, hk => exact absurd hk (by simp)) ?_
              refine gVM.eqs (lv' := [some (.ref mo), some (vi (e)), some (vi (s)), some (vi (r)), some (vi (c)), some (vi ((((n + 1) : Nat) : Int))), none]) (lcons rfl (lcons rfl (lcons rfl (lcons rfl (lcons rfl (lcons (svi (by omega)) (lcons rfl rfl))))))) rfl rfl rfl ih
          · have hok := recP_ok hE (e := en) (s := sn) (m := m) (by omega) (by omega) m (by omega) (40 * r + c).toNat
            refine m_iload hC dX7_printed_75 rfl ?_
            refine m_ald_n hC dX7_printed_77 rfl ?_
            refine m_getA hC 23 dX7_printed_78 gf_RX7_62 ⟨by decide, rfl⟩ ?_
            refine m_iload_n hC dX7_printed_81 rfl ?_
            refine m_iald hC 23 (en) dX7_printed_82 ⟨by decide, rfl, rfl⟩ een (by simp only [mK]; omega) ?_
            refine m_top (b := F 23 (en)) rfl ?_
            rw [hm]
            refine m_icmp_ge (tgt := 136) hC dX7_printed_83 (by decide) (by omega) (by omega) (fun c_83 => ?_) (fun c_83 => False.elim (by omega))
            refine m_ald_n hC dX7_printed_136 rfl ?_
            refine m_getA hC 18 dX7_printed_137 gf_RX7_53 ⟨by decide, rfl⟩ ?_
            refine m_bipush (v := 40) hC dX7_printed_140 rfl ?_
            refine m_iload_n hC dX7_printed_142 rfl ?_
            refine m_imul hC dX7_printed_143 ?_
            refine m_iload hC dX7_printed_144 rfl ?_
            refine m_iadd hC dX7_printed_146 ?_
            refine m_cald hC 18 ((40 * r + c).toNat) dX7_printed_147 ⟨by decide, rfl, rfl⟩ (by omega) (by simp only [mK]; omega) ?_
            refine m_top (b := (recP F en sn m m) ((40 * r + c).toNat)) rfl ?_
            exact m_cret hC hq (by omega) dX7_printed_148 ⟨by rw [if_pos hg, een2, esn2]; unfold printedV; rw [if_neg (by omega), hm, Int.toNat_natCast], z27, ⟨hzz, fEq.f4⟩⟩
        refine gVM.eqs (lv' := [some (.ref mo), some (vi (e)), some (vi (s)), some (vi (r)), some (vi (c)), some (vi (((0 : Nat) : Int))), none]) rfl rfl rfl rfl (lp 0 (Nat.zero_le _))
      · refine m_bipush (v := 32) hC dX7_printed_58 rfl ?_
        exact m_cret hC hq (by decide) dX7_printed_60 ⟨by rw [if_pos hg, een2, esn2]; unfold printedV; rw [if_pos (by omega)], z27, ⟨hzz, fEq.rf⟩⟩
    · refine m_bipush (v := 32) hC dX7_printed_45 rfl ?_
      exact m_cret hC hq (by decide) dX7_printed_47 ⟨by rw [if_neg (by rw [hg]; decide)], gup_eq, mSc.rf⟩
  · refine m_iload_n hC dX7_printed_1 rfl ?_
    refine m_iconst hC dX7_printed_2 rfl ?_
    refine m_ald_n hC dX7_printed_3 rfl ?_
    refine m_getI hC 22 dX7_printed_4 gf_RX7_164 ⟨by decide, rfl⟩ ?_
    refine m_iconst hC dX7_printed_7 rfl ?_
    refine m_isub hC dX7_printed_8 ?_
    refine m_callS (rest := [.ref mo]) hC (fun gh => kX7_in hl e 0 (z 22 - 1) (by omega) (by omega) (by omega) gh) gc_RX7_81 rfl ⟨by decide, by decide⟩ (Nat.le_of_ble_eq_true rfl) rfl dX7_printed_9 (fun r hp => ?_)
    subst hp
    refine m_ifeq_b (tgt := 36) hC dX7_printed_12 (by decide)  (fun c_12 => ?_) (fun c_12 => ?_)
    · refine m_iconst hC dX7_printed_36 rfl ?_
      refine m_top (b := b2i ((inB e 0 (z 22 - 1) && (inB s 0 (z 11 - 1) && (inB r 0 23 && inB c 0 39))))) (b2i_f (by simp only [c_12]; rfl)) ?_
      exact j_37
    · refine m_ald_n hC dX7_printed_15 rfl ?_
      refine m_iload_n hC dX7_printed_16 rfl ?_
      refine m_callV (rest := [.ref mo]) hC (kX7_isSheet hl hI s (by omega)) gc_RX7_145 rfl rfl ⟨by decide, by decide⟩ (Nat.le_of_ble_eq_true rfl) rfl dX7_printed_17 (fun r z' F' hp => ?_)
      obtain ⟨rfl, hz, hF⟩ := hp
      rw [hz, hF]
      clear hz hF
      refine gVM.eqs (st' := [vi (b2i (inB s 0 (z 11 - 1))), .ref mo]) rfl rfl rfl rfl ?_
      refine m_ifeq_b (tgt := 36) hC dX7_printed_20 (by decide)  (fun c_20 => ?_) (fun c_20 => ?_)
      · refine m_iconst hC dX7_printed_36 rfl ?_
        refine m_top (b := b2i ((inB e 0 (z 22 - 1) && (inB s 0 (z 11 - 1) && (inB r 0 23 && inB c 0 39))))) (b2i_f (by simp only [c_12, c_20]; rfl)) ?_
        exact j_37
      · refine m_iload_n hC dX7_printed_23 rfl ?_
        refine m_iload hC dX7_printed_24 rfl ?_
        refine m_callS (rest := [.ref mo]) hC (fun gh => kX7_isCell hl r c (by omega) (by omega) gh) gc_RX7_148 rfl ⟨by decide, by decide⟩ (Nat.le_of_ble_eq_true rfl) rfl dX7_printed_26 (fun r hp => ?_)
        subst hp
        refine m_ifeq_b (tgt := 36) hC dX7_printed_29 (by decide)  (fun c_29 => ?_) (fun c_29 => ?_)
        · refine m_iconst hC dX7_printed_36 rfl ?_
          refine m_top (b := b2i ((inB e 0 (z 22 - 1) && (inB s 0 (z 11 - 1) && (inB r 0 23 && inB c 0 39))))) (b2i_f (by simp only [c_12, c_20, c_29]; rfl)) ?_
          exact j_37
        · refine m_iconst hC dX7_printed_32 rfl ?_
          refine m_goto (tgt := 37) hC dX7_printed_33 (by decide) ?_
          refine m_top (b := b2i ((inB e 0 (z 22 - 1) && (inB s 0 (z 11 - 1) && (inB r 0 23 && inB c 0 39))))) (b2i_t (by simp only [c_12, c_20, c_29]; rfl)) ?_
          exact j_37

end M10
