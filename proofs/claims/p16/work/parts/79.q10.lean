/-! p16: a row as it is drawn -/
section Q10
/-- a name that stands beside its dot, in its row: its first and its last letter -/
theorem row_let {z : Nat → Int} {F : Nat → Nat → Int} {s np : Nat} (hI : mI z F) (hn : (np : Int) ≤ z 3) {i : Nat} (hi : i < np) {sd c : Int} (hsd : (lay0 F s np (z 0)).1 i = sd) (h01 : sd = 0 ∨ sd = 1) (hc : c = colAtN (qCol F s i) sd (lnF F (z 0) i)) :
    (0 ≤ c ∧ c + lnF F (z 0) i ≤ 40 ∧ 1 ≤ lnF F (z 0) i ∧ lnF F (z 0) i ≤ 8) ∧ (lay0 F s np (z 0)).2 (40 * qRow F s i + c).toNat = spV F (z 0) 0 i ∧ (lay0 F s np (z 0)).2 (40 * qRow F s i + (c + lnF F (z 0) i - 1)).toNat = spV F (z 0) (lnF F (z 0) i - 1) i := by
  have i3 := hI.2.2.1
  have hC : (lay0 F s np (z 0)).1 i ≠ -1 := by omega
  obtain ⟨⟨hq, hnm⟩, hfit, -⟩ := (sh_all (s := s) (on := z 0) hI hn).2.2 i hi hC
  have hl := lnF_rng (on := z 0) hI (i := i) (by omega)
  have e1 := hl.2.2.2 hnm
  have h1 := hl.2.2.1.mpr hnm
  have hr : rowAtN (qRow F s i) sd = qRow F s i := by
    unfold rowAtN
    rw [if_neg (by omega), if_neg (by omega)]
  have hrng := qRow_rng hq
  rw [hsd, hr, ← e1, ← hc] at hfit
  have hf := fitB_iff.mp hfit
  have lt := fun (t : Nat) (ht : (t : Int) < nmn F (z 0) i) => sh_let (s := s) (on := z 0) hI hn hi hC ht
  rw [hsd, hr, ← e1, ← hc] at lt
  have hnn := (nm_ok hI (on := z 0) (i := i) (by omega) hnm).2.1
  refine ⟨⟨hf.2.1, hf.2.2, by omega, hl.2.1⟩, ?_, ?_⟩
  · have := lt 0 (by omega)
    rw [Nat.add_zero] at this
    rw [this]
    exact (spV_in (t := 0) hnm (by omega) (by omega)).symm
  · have h2 := lt (lnF F (z 0) i - 1).toNat (by omega)
    have h3 := spV_in (F := F) (on := z 0) (i := i) (t := (lnF F (z 0) i - 1).toNat) hnm (by omega) (by omega)
    rw [show (((lnF F (z 0) i - 1).toNat : Nat) : Int) = lnF F (z 0) i - 1 by omega] at h3
    rw [h3, ← h2]
    refine congrArg (lay0 F s np (z 0)).2 ?_
    omega

set_option maxHeartbeats 4000000 in
set_option maxRecDepth 100000 in
theorem kL_isRow {l : Launch} (hl : l.stackTraces = false) {D : gD} {base : Nat} {oa ga pa qa ea : Nat} {ad : Tg → Nat} {z : Nat → Int} {F : Nat → Nat → Int} {ct : Tg → Option gC} {G P Q E : Nat → Int} (hLI : LI ad z F ct G P Q E) (hA : lA ad oa ga pa qa ea) (s k : Nat) (hs : (s : Int) < z 11) (hk : (k : Int) < z 3) (gh : gH) (hR : cR ad ct gh) : gM l D base yL_isRow cL_isRow 12 (some Jvm.ClassFile.FieldType.boolean) 10 174 18 108 [.ref oa, .ref ga, .ref pa, .ref qa, vi ((s : Int)), vi ((k : Int))] gh (fun r gh' => r = some (vi 1) ∧ gh' = gh) gNo := by
  refine gM.of hl (by decide) (by simp [Value.category]) (Nat.le_of_ble_eq_true rfl) [some (.ref oa), some (.ref ga), some (.ref pa), some (.ref qa), some (vi ((s : Int))), some (vi ((k : Int))), none, none, none, none, none, none] rfl (fun x hC hq => ?_)
  obtain ⟨hCI, ⟨c30, c31, c32, c33⟩, ⟨g0, g1, g2, g3, g4, g5⟩, lP, lQ, lE⟩ := id hLI
  obtain ⟨hS, hI, hE, hQ, h10⟩ := id hCI
  obtain ⟨i0, i1, i3, i11, i22, iw, ip, inn, inm, ish⟩ := id hI
  have f1 : gh ga = some (gI 1 6 (G)) := by have h9_ := hR.1 (30, 0, 0) _ c30; rw [hA.2.1] at h9_; exact h9_
  have f2 : gh pa = some (gI 1 50 (P)) := by have h9_ := hR.1 (31, 0, 0) _ c31; rw [hA.2.2.1] at h9_; exact h9_
  have f3 : gh qa = some (gI 1 12 (Q)) := by have h9_ := hR.1 (32, 0, 0) _ c32; rw [hA.2.2.2.1] at h9_; exact h9_
  have f4 : gh ea = some (gI 1 20 (E)) := by have h9_ := hR.1 (33, 0, 0) _ c33; rw [hA.2.2.2.2] at h9_; exact h9_
  obtain ⟨p3, p4, -⟩ := lP k (by omega)
  have hl9 := lnF_rng (on := z 0) hI (i := k) (by omega)
  refine g_ald_n hC dL_isRow_0 rfl ?_
  refine g_ald_n hC dL_isRow_1 rfl ?_
  refine g_iload hC dL_isRow_2 rfl ?_
  refine g_iload hC dL_isRow_4 rfl ?_
  refine g_callS (rest := []) hC (kL_isOn hl hLI hA s k hs hk gh hR) gc_RL_76 rfl ⟨by decide, by decide⟩ ⟨by decide, by decide⟩ (Nat.le_of_ble_eq_true rfl) rfl dL_isRow_6 (fun r g2_ hp => ?_)
  obtain ⟨rfl, hgh⟩ := hp
  rw [hgh]
  clear hgh
  refine gV.eqs (st' := [vi (b2i (qOn F s k))]) rfl rfl rfl ?_
  refine g_ifne_b (tgt := 14) hC dL_isRow_9 (by decide)  (fun hon => ?_) (fun hon => ?_)
  · have hr := qRow_rng hon
    have hc := qCol_rng hon
    have d1 : dotV F s k true = qRow F s k := by unfold dotV; rw [if_pos hon, if_pos rfl]
    have d0 : dotV F s k false = qCol F s k := by unfold dotV; rw [if_pos hon, if_neg (by decide)]
    have hnp : (((z 3).toNat : Nat) : Int) ≤ z 3 := by omega
    refine g_ald_n hC dL_isRow_14 rfl ?_
    refine g_iload hC dL_isRow_15 rfl ?_
    refine g_iload hC dL_isRow_17 rfl ?_
    refine g_iconst hC dL_isRow_19 rfl ?_
    refine g_callSW (rest := []) hC (kL_dot hl hCI hA.1 s k hs hk true gh hR) gcw_68 rfl ⟨by decide, by decide⟩ ⟨by decide, by decide⟩ (Nat.le_of_ble_eq_true rfl) rfl dL_isRow_20 (fun r g_ hp => ?_)
    obtain ⟨rfl, hgh⟩ := hp
    rw [hgh]
    clear hgh
    refine gV.eqs (st' := [vi (dotV F s k true)]) rfl rfl rfl ?_
    refine g_top (b := qRow F s k) d1 ?_
    refine g_istore (lv' := [some (.ref oa), some (.ref ga), some (.ref pa), some (.ref qa), some (vi ((s : Int))), some (vi ((k : Int))), some (vi (qRow F s k)), none, none, none, none, none]) hC dL_isRow_23 (by decide) rfl ?_
    refine g_ald_n hC dL_isRow_25 rfl ?_
    refine g_iload hC dL_isRow_26 rfl ?_
    refine g_iload hC dL_isRow_28 rfl ?_
    refine g_iconst hC dL_isRow_30 rfl ?_
    refine g_callSW (rest := []) hC (kL_dot hl hCI hA.1 s k hs hk false gh hR) gcw_68 rfl ⟨by decide, by decide⟩ ⟨by decide, by decide⟩ (Nat.le_of_ble_eq_true rfl) rfl dL_isRow_31 (fun r g_ hp => ?_)
    obtain ⟨rfl, hgh⟩ := hp
    rw [hgh]
    clear hgh
    refine gV.eqs (st' := [vi (dotV F s k false)]) rfl rfl rfl ?_
    refine g_top (b := qCol F s k) d0 ?_
    refine g_istore (lv' := [some (.ref oa), some (.ref ga), some (.ref pa), some (.ref qa), some (vi ((s : Int))), some (vi ((k : Int))), some (vi (qRow F s k)), some (vi (qCol F s k)), none, none, none, none]) hC dL_isRow_34 (by decide) rfl ?_
    refine g_ald_n hC dL_isRow_36 rfl ?_
    refine g_iload hC dL_isRow_37 rfl ?_
    refine g_iload hC dL_isRow_39 rfl ?_
    refine g_callSW (rest := []) hC (kL_side hl hCI hA.1 s k hs hk gh hR) gcw_73 rfl ⟨by decide, by decide⟩ ⟨by decide, by decide⟩ (Nat.le_of_ble_eq_true rfl) rfl dL_isRow_41 (fun r g_ hp => ?_)
    obtain ⟨rfl, hgh⟩ := hp
    rw [hgh]
    clear hgh
    refine gV.eqs (st' := [vi ((lay0 F s (z 3).toNat (z 0)).1 k)]) rfl rfl rfl ?_
    have hsr := lay0_side (F := F) (s := s) (np := (z 3).toNat) (on := z 0) (j := k)
    obtain ⟨sd, esd⟩ : ∃ y_ : Int, (lay0 F s (z 3).toNat (z 0)).1 k = y_ := ⟨_, rfl⟩
    rw [esd] at hsr ⊢
    refine g_istore (lv' := [some (.ref oa), some (.ref ga), some (.ref pa), some (.ref qa), some (vi ((s : Int))), some (vi ((k : Int))), some (vi (qRow F s k)), some (vi (qCol F s k)), some (vi (sd)), none, none, none]) hC dL_isRow_44 (by decide) rfl ?_
    refine g_ald_n hC dL_isRow_46 rfl ?_
    refine g_iload hC dL_isRow_47 rfl ?_
    refine g_iload hC dL_isRow_49 rfl ?_
    refine g_iload hC dL_isRow_51 rfl ?_
    refine g_callSW (rest := []) hC (kL_drawn hl hCI hA.1 s hs (qRow F s k) (qCol F s k) (by omega) (by omega) gh hR) gcw_85 rfl ⟨by decide, by decide⟩ ⟨by decide, by decide⟩ (Nat.le_of_ble_eq_true rfl) rfl dL_isRow_53 (fun r g_ hp => ?_)
    obtain ⟨rfl, hgh⟩ := hp
    rw [hgh]
    clear hgh
    refine gV.eqs (st' := [vi ((lay0 F s (z 3).toNat (z 0)).2 (40 * qRow F s k + qCol F s k).toNat)]) rfl rfl rfl ?_
    refine g_top (b := 42) (sh_dot hI hnp (by omega) hon) ?_
    refine g_bipush (z := 42) hC dL_isRow_56 rfl ?_
    refine g_icmp_ne (tgt := 65) hC dL_isRow_58 (by decide) (by omega) (by omega) (fun c_58 => False.elim (by omega)) (fun c_58 => ?_)
    refine g_iconst hC dL_isRow_61 rfl ?_
    refine g_goto (tgt := 66) hC dL_isRow_62 (by decide) ?_
    refine g_istore (lv' := [some (.ref oa), some (.ref ga), some (.ref pa), some (.ref qa), some (vi ((s : Int))), some (vi ((k : Int))), some (vi (qRow F s k)), some (vi (qCol F s k)), some (vi (sd)), some (vi (1)), none, none]) hC dL_isRow_66 (by decide) rfl ?_
    refine g_iload hC dL_isRow_68 rfl ?_
    refine g_if_eq (tgt := 79) hC dL_isRow_70 (by decide) (by omega) (fun hz => ?_) (fun hz => ?_)
    · refine g_iload hC dL_isRow_79 rfl ?_
      refine g_if_ne (tgt := 91) hC dL_isRow_81 (by decide) (by omega) (fun c_81 => False.elim (by omega)) (fun c_81 => ?_)
      obtain ⟨⟨b1, b2, b3, b4⟩, l1, l2⟩ := row_let (s := s) hI hnp (i := k) (by omega) esd (by omega) (c := qCol F s k + 1) (by rw [hz]; rfl)
      refine g_iload hC dL_isRow_84 rfl ?_
      refine g_iconst hC dL_isRow_86 rfl ?_
      refine g_iadd hC dL_isRow_87 ?_
      refine g_goto (tgt := 102) hC dL_isRow_88 (by decide) ?_
      refine g_istore (lv' := [some (.ref oa), some (.ref ga), some (.ref pa), some (.ref qa), some (vi ((s : Int))), some (vi ((k : Int))), some (vi (qRow F s k)), some (vi (qCol F s k)), some (vi (sd)), some (vi (1)), some (vi ((qCol F s k) + (1))), none]) hC dL_isRow_102 (by decide) rfl ?_
      refine g_iload hC dL_isRow_104 rfl ?_
      refine g_ald_n hC dL_isRow_106 rfl ?_
      refine g_iconst hC dL_isRow_107 rfl ?_
      refine g_iload hC dL_isRow_108 rfl ?_
      refine g_imul hC dL_isRow_110 ?_
      refine g_iconst hC dL_isRow_111 rfl ?_
      refine g_iadd hC dL_isRow_112 ?_
      refine g_ialdK hC (5 * k + 4) dL_isRow_113 f2 (by omega) (by omega) (by omega) ?_
      refine g_top (b := lnF F (z 0) k) (p4) ?_
      refine g_iadd hC dL_isRow_114 ?_
      refine g_iconst hC dL_isRow_115 rfl ?_
      refine g_isub hC dL_isRow_116 ?_
      refine g_istore (lv' := [some (.ref oa), some (.ref ga), some (.ref pa), some (.ref qa), some (vi ((s : Int))), some (vi ((k : Int))), some (vi (qRow F s k)), some (vi (qCol F s k)), some (vi (sd)), some (vi (1)), some (vi ((qCol F s k) + (1))), some (vi ((((qCol F s k) + (1)) + (lnF F (z 0) k)) - (1)))]) hC dL_isRow_117 (by decide) rfl ?_
      refine g_iload hC dL_isRow_119 rfl ?_
      refine g_if_eq (tgt := 183) hC dL_isRow_121 (by decide) (by omega) (fun c_121 => False.elim (by revert c_121; decide)) (fun c_121 => ?_)
      refine g_ald_n hC dL_isRow_124 rfl ?_
      refine g_iload hC dL_isRow_125 rfl ?_
      refine g_iload hC dL_isRow_127 rfl ?_
      refine g_iload hC dL_isRow_129 rfl ?_
      refine g_callSW (rest := []) hC (kL_drawn hl hCI hA.1 s hs (qRow F s k) ((qCol F s k) + (1)) (by omega) (by omega) gh hR) gcw_85 rfl ⟨by decide, by decide⟩ ⟨by decide, by decide⟩ (Nat.le_of_ble_eq_true rfl) rfl dL_isRow_131 (fun r g_ hp => ?_)
      obtain ⟨rfl, hgh⟩ := hp
      rw [hgh]
      clear hgh
      refine gV.eqs (st' := [vi ((lay0 F s (z 3).toNat (z 0)).2 (40 * qRow F s k + ((qCol F s k) + (1))).toNat)]) rfl rfl rfl ?_
      refine g_top (b := spV F (z 0) 0 k) l1 ?_
      have r0 := spV_rng (on := z 0) hI (i := k) (by omega) (wh := 0) (by decide)
      refine g_ald_n hC dL_isRow_134 rfl ?_
      refine g_iload hC dL_isRow_135 rfl ?_
      refine g_ald_n hC dL_isRow_137 rfl ?_
      refine g_iconst hC dL_isRow_138 rfl ?_
      refine g_ialdK hC (3) dL_isRow_139 f1 (by omega) (by omega) (by omega) ?_
      refine g_top (b := z 0) (g3) ?_
      refine g_iconst hC dL_isRow_140 rfl ?_
      refine g_callSW (rest := [vi (spV F (z 0) 0 k)]) hC (kL_spelled hl hCI hA.1 k hk (z 0) 0 (by omega) (by decide) gh hR) gcw_88 rfl ⟨by decide, by decide⟩ ⟨by decide, by decide⟩ (Nat.le_of_ble_eq_true rfl) rfl dL_isRow_141 (fun r g_ hp => ?_)
      obtain ⟨rfl, hgh⟩ := hp
      rw [hgh]
      clear hgh
      refine gV.eqs (st' := [vi (spV F (z 0) 0 k), vi (spV F (z 0) 0 k)]) rfl rfl rfl ?_
      refine g_icmp_ne (tgt := 183) hC dL_isRow_144 (by decide) (by omega) (by omega) (fun c_144 => False.elim (by omega)) (fun c_144 => ?_)
      refine g_ald_n hC dL_isRow_147 rfl ?_
      refine g_iload hC dL_isRow_148 rfl ?_
      refine g_iload hC dL_isRow_150 rfl ?_
      refine g_iload hC dL_isRow_152 rfl ?_
      refine g_callSW (rest := []) hC (kL_drawn hl hCI hA.1 s hs (qRow F s k) ((((qCol F s k) + (1)) + (lnF F (z 0) k)) - (1)) (by omega) (by omega) gh hR) gcw_85 rfl ⟨by decide, by decide⟩ ⟨by decide, by decide⟩ (Nat.le_of_ble_eq_true rfl) rfl dL_isRow_154 (fun r g_ hp => ?_)
      obtain ⟨rfl, hgh⟩ := hp
      rw [hgh]
      clear hgh
      refine gV.eqs (st' := [vi ((lay0 F s (z 3).toNat (z 0)).2 (40 * qRow F s k + ((((qCol F s k) + (1)) + (lnF F (z 0) k)) - (1))).toNat)]) rfl rfl rfl ?_
      refine g_top (b := spV F (z 0) (lnF F (z 0) k - 1) k) l2 ?_
      have r9 := spV_rng (on := z 0) hI (i := k) (by omega) (wh := lnF F (z 0) k - 1) (by omega)
      refine g_ald_n hC dL_isRow_157 rfl ?_
      refine g_iload hC dL_isRow_158 rfl ?_
      refine g_ald_n hC dL_isRow_160 rfl ?_
      refine g_iconst hC dL_isRow_161 rfl ?_
      refine g_ialdK hC (3) dL_isRow_162 f1 (by omega) (by omega) (by omega) ?_
      refine g_top (b := z 0) (g3) ?_
      refine g_ald_n hC dL_isRow_163 rfl ?_
      refine g_iconst hC dL_isRow_164 rfl ?_
      refine g_iload hC dL_isRow_165 rfl ?_
      refine g_imul hC dL_isRow_167 ?_
      refine g_iconst hC dL_isRow_168 rfl ?_
      refine g_iadd hC dL_isRow_169 ?_
      refine g_ialdK hC (5 * k + 4) dL_isRow_170 f2 (by omega) (by omega) (by omega) ?_
      refine g_top (b := lnF F (z 0) k) (p4) ?_
      refine g_iconst hC dL_isRow_171 rfl ?_
      refine g_isub hC dL_isRow_172 ?_
      refine g_callSW (rest := [vi (spV F (z 0) (lnF F (z 0) k - 1) k)]) hC (kL_spelled hl hCI hA.1 k hk (z 0) (lnF F (z 0) k - 1) (by omega) (by omega) gh hR) gcw_88 rfl ⟨by decide, by decide⟩ ⟨by decide, by decide⟩ (Nat.le_of_ble_eq_true rfl) rfl dL_isRow_173 (fun r g_ hp => ?_)
      obtain ⟨rfl, hgh⟩ := hp
      rw [hgh]
      clear hgh
      refine gV.eqs (st' := [vi (spV F (z 0) (lnF F (z 0) k - 1) k), vi (spV F (z 0) (lnF F (z 0) k - 1) k)]) rfl rfl rfl ?_
      refine g_icmp_ne (tgt := 183) hC dL_isRow_176 (by decide) (by omega) (by omega) (fun c_176 => False.elim (by omega)) (fun c_176 => ?_)
      refine g_iconst hC dL_isRow_179 rfl ?_
      refine g_goto (tgt := 184) hC dL_isRow_180 (by decide) ?_
      refine g_istore (lv' := [some (.ref oa), some (.ref ga), some (.ref pa), some (.ref qa), some (vi ((s : Int))), some (vi ((k : Int))), some (vi (qRow F s k)), some (vi (qCol F s k)), some (vi (sd)), some (vi (1)), some (vi ((qCol F s k) + (1))), some (vi ((((qCol F s k) + (1)) + (lnF F (z 0) k)) - (1)))]) hC dL_isRow_184 (by decide) rfl ?_
      refine g_ald_n hC dL_isRow_186 rfl ?_
      refine g_iload hC dL_isRow_187 rfl ?_
      refine g_iload hC dL_isRow_189 rfl ?_
      refine g_iload hC dL_isRow_191 rfl ?_
      refine g_bipush (z := 17) hC dL_isRow_193 rfl ?_
      refine g_iadd hC dL_isRow_195 ?_
      refine g_bipush (z := 40) hC dL_isRow_196 rfl ?_
      refine g_irem hC dL_isRow_198 (by omega) (by omega) ?_
      refine g_callSW (rest := []) hC (kL_drawn hl hCI hA.1 s hs (qRow F s k) ((qCol F s k + 17) % 40) (by omega) (by omega) gh hR) gcw_85 rfl ⟨by decide, by decide⟩ ⟨by decide, by decide⟩ (Nat.le_of_ble_eq_true rfl) rfl dL_isRow_199 (fun r g_ hp => ?_)
      obtain ⟨rfl, hgh⟩ := hp
      rw [hgh]
      clear hgh
      refine gV.eqs (st' := [vi ((lay0 F s (z 3).toNat (z 0)).2 (40 * qRow F s k + ((qCol F s k) + (17)) % (40)).toNat)]) rfl rfl rfl ?_
      have hal := sh_al (s := s) (on := z 0) hI hnp (40 * qRow F s k + ((qCol F s k) + (17)) % (40)).toNat
      obtain ⟨sg, esg⟩ : ∃ y_ : Int, y_ = (lay0 F s (z 3).toNat (z 0)).2 (40 * qRow F s k + ((qCol F s k) + (17)) % (40)).toNat := ⟨_, rfl⟩
      rw [← esg] at hal ⊢
      refine g_istore (lv' := [some (.ref oa), some (.ref ga), some (.ref pa), some (.ref qa), some (vi ((s : Int))), some (vi ((k : Int))), some (vi (qRow F s k)), some (vi (qCol F s k)), some (vi (sd)), some (vi (1)), some (vi (sg)), some (vi ((((qCol F s k) + (1)) + (lnF F (z 0) k)) - (1)))]) hC dL_isRow_202 (by decide) rfl ?_
      refine g_iload hC dL_isRow_204 rfl ?_
      refine g_if_eq (tgt := 241) hC dL_isRow_206 (by decide) (by omega) (fun c_206 => False.elim (by revert c_206; decide)) (fun c_206 => ?_)
      refine g_iload hC dL_isRow_209 rfl ?_
      refine g_bipush (z := 46) hC dL_isRow_211 rfl ?_
      refine g_icmp_eq (tgt := 237) hC dL_isRow_213 (by decide) (by omega) (by omega) (fun ha => ?_) (fun ha => ?_)
      · refine g_iconst hC dL_isRow_237 rfl ?_
        refine g_goto (tgt := 242) hC dL_isRow_238 (by decide) ?_
        exact g_bret (b := true) hC hq dL_isRow_242 (by decide) (by decide) ⟨rfl, rfl⟩
      · refine g_iload hC dL_isRow_216 rfl ?_
        refine g_bipush (z := 42) hC dL_isRow_218 rfl ?_
        refine g_icmp_eq (tgt := 237) hC dL_isRow_220 (by decide) (by omega) (by omega) (fun hb => ?_) (fun hb => ?_)
        · refine g_iconst hC dL_isRow_237 rfl ?_
          refine g_goto (tgt := 242) hC dL_isRow_238 (by decide) ?_
          exact g_bret (b := true) hC hq dL_isRow_242 (by decide) (by decide) ⟨rfl, rfl⟩
        · refine g_iload hC dL_isRow_223 rfl ?_
          refine g_bipush (z := 97) hC dL_isRow_225 rfl ?_
          refine g_icmp_lt (tgt := 241) hC dL_isRow_227 (by decide) (by omega) (by omega) (fun c_227 => False.elim (by omega)) (fun c_227 => ?_)
          refine g_iload hC dL_isRow_230 rfl ?_
          refine g_bipush (z := 122) hC dL_isRow_232 rfl ?_
          refine g_icmp_gt (tgt := 241) hC dL_isRow_234 (by decide) (by omega) (by omega) (fun c_234 => False.elim (by omega)) (fun c_234 => ?_)
          refine g_iconst hC dL_isRow_237 rfl ?_
          refine g_goto (tgt := 242) hC dL_isRow_238 (by decide) ?_
          exact g_bret (b := true) hC hq dL_isRow_242 (by decide) (by decide) ⟨rfl, rfl⟩
    · refine g_iload hC dL_isRow_73 rfl ?_
      refine g_iconst hC dL_isRow_75 rfl ?_
      refine g_icmp_ne (tgt := 186) hC dL_isRow_76 (by decide) (by omega) (by omega) (fun ho => ?_) (fun ho => ?_)
      · refine g_ald_n hC dL_isRow_186 rfl ?_
        refine g_iload hC dL_isRow_187 rfl ?_
        refine g_iload hC dL_isRow_189 rfl ?_
        refine g_iload hC dL_isRow_191 rfl ?_
        refine g_bipush (z := 17) hC dL_isRow_193 rfl ?_
        refine g_iadd hC dL_isRow_195 ?_
        refine g_bipush (z := 40) hC dL_isRow_196 rfl ?_
        refine g_irem hC dL_isRow_198 (by omega) (by omega) ?_
        refine g_callSW (rest := []) hC (kL_drawn hl hCI hA.1 s hs (qRow F s k) ((qCol F s k + 17) % 40) (by omega) (by omega) gh hR) gcw_85 rfl ⟨by decide, by decide⟩ ⟨by decide, by decide⟩ (Nat.le_of_ble_eq_true rfl) rfl dL_isRow_199 (fun r g_ hp => ?_)
        obtain ⟨rfl, hgh⟩ := hp
        rw [hgh]
        clear hgh
        refine gV.eqs (st' := [vi ((lay0 F s (z 3).toNat (z 0)).2 (40 * qRow F s k + ((qCol F s k) + (17)) % (40)).toNat)]) rfl rfl rfl ?_
        have hal := sh_al (s := s) (on := z 0) hI hnp (40 * qRow F s k + ((qCol F s k) + (17)) % (40)).toNat
        obtain ⟨sg, esg⟩ : ∃ y_ : Int, y_ = (lay0 F s (z 3).toNat (z 0)).2 (40 * qRow F s k + ((qCol F s k) + (17)) % (40)).toNat := ⟨_, rfl⟩
        rw [← esg] at hal ⊢
        refine g_istore (lv' := [some (.ref oa), some (.ref ga), some (.ref pa), some (.ref qa), some (vi ((s : Int))), some (vi ((k : Int))), some (vi (qRow F s k)), some (vi (qCol F s k)), some (vi (sd)), some (vi (1)), some (vi (sg)), none]) hC dL_isRow_202 (by decide) rfl ?_
        refine g_iload hC dL_isRow_204 rfl ?_
        refine g_if_eq (tgt := 241) hC dL_isRow_206 (by decide) (by omega) (fun c_206 => False.elim (by revert c_206; decide)) (fun c_206 => ?_)
        refine g_iload hC dL_isRow_209 rfl ?_
        refine g_bipush (z := 46) hC dL_isRow_211 rfl ?_
        refine g_icmp_eq (tgt := 237) hC dL_isRow_213 (by decide) (by omega) (by omega) (fun ha => ?_) (fun ha => ?_)
        · refine g_iconst hC dL_isRow_237 rfl ?_
          refine g_goto (tgt := 242) hC dL_isRow_238 (by decide) ?_
          exact g_bret (b := true) hC hq dL_isRow_242 (by decide) (by decide) ⟨rfl, rfl⟩
        · refine g_iload hC dL_isRow_216 rfl ?_
          refine g_bipush (z := 42) hC dL_isRow_218 rfl ?_
          refine g_icmp_eq (tgt := 237) hC dL_isRow_220 (by decide) (by omega) (by omega) (fun hb => ?_) (fun hb => ?_)
          · refine g_iconst hC dL_isRow_237 rfl ?_
            refine g_goto (tgt := 242) hC dL_isRow_238 (by decide) ?_
            exact g_bret (b := true) hC hq dL_isRow_242 (by decide) (by decide) ⟨rfl, rfl⟩
          · refine g_iload hC dL_isRow_223 rfl ?_
            refine g_bipush (z := 97) hC dL_isRow_225 rfl ?_
            refine g_icmp_lt (tgt := 241) hC dL_isRow_227 (by decide) (by omega) (by omega) (fun c_227 => False.elim (by omega)) (fun c_227 => ?_)
            refine g_iload hC dL_isRow_230 rfl ?_
            refine g_bipush (z := 122) hC dL_isRow_232 rfl ?_
            refine g_icmp_gt (tgt := 241) hC dL_isRow_234 (by decide) (by omega) (by omega) (fun c_234 => False.elim (by omega)) (fun c_234 => ?_)
            refine g_iconst hC dL_isRow_237 rfl ?_
            refine g_goto (tgt := 242) hC dL_isRow_238 (by decide) ?_
            exact g_bret (b := true) hC hq dL_isRow_242 (by decide) (by decide) ⟨rfl, rfl⟩
      · refine g_iload hC dL_isRow_79 rfl ?_
        refine g_if_ne (tgt := 91) hC dL_isRow_81 (by decide) (by omega) (fun c_81 => ?_) (fun c_81 => False.elim (by omega))
        obtain ⟨⟨b1, b2, b3, b4⟩, l1, l2⟩ := row_let (s := s) hI hnp (i := k) (by omega) esd (by omega) (c := qCol F s k - lnF F (z 0) k) (by rw [ho]; rfl)
        refine g_iload hC dL_isRow_91 rfl ?_
        refine g_ald_n hC dL_isRow_93 rfl ?_
        refine g_iconst hC dL_isRow_94 rfl ?_
        refine g_iload hC dL_isRow_95 rfl ?_
        refine g_imul hC dL_isRow_97 ?_
        refine g_iconst hC dL_isRow_98 rfl ?_
        refine g_iadd hC dL_isRow_99 ?_
        refine g_ialdK hC (5 * k + 4) dL_isRow_100 f2 (by omega) (by omega) (by omega) ?_
        refine g_top (b := lnF F (z 0) k) (p4) ?_
        refine g_isub hC dL_isRow_101 ?_
        refine g_istore (lv' := [some (.ref oa), some (.ref ga), some (.ref pa), some (.ref qa), some (vi ((s : Int))), some (vi ((k : Int))), some (vi (qRow F s k)), some (vi (qCol F s k)), some (vi (sd)), some (vi (1)), some (vi ((qCol F s k) - (lnF F (z 0) k))), none]) hC dL_isRow_102 (by decide) rfl ?_
        refine g_iload hC dL_isRow_104 rfl ?_
        refine g_ald_n hC dL_isRow_106 rfl ?_
        refine g_iconst hC dL_isRow_107 rfl ?_
        refine g_iload hC dL_isRow_108 rfl ?_
        refine g_imul hC dL_isRow_110 ?_
        refine g_iconst hC dL_isRow_111 rfl ?_
        refine g_iadd hC dL_isRow_112 ?_
        refine g_ialdK hC (5 * k + 4) dL_isRow_113 f2 (by omega) (by omega) (by omega) ?_
        refine g_top (b := lnF F (z 0) k) (p4) ?_
        refine g_iadd hC dL_isRow_114 ?_
        refine g_iconst hC dL_isRow_115 rfl ?_
        refine g_isub hC dL_isRow_116 ?_
        refine g_istore (lv' := [some (.ref oa), some (.ref ga), some (.ref pa), some (.ref qa), some (vi ((s : Int))), some (vi ((k : Int))), some (vi (qRow F s k)), some (vi (qCol F s k)), some (vi (sd)), some (vi (1)), some (vi ((qCol F s k) - (lnF F (z 0) k))), some (vi ((((qCol F s k) - (lnF F (z 0) k)) + (lnF F (z 0) k)) - (1)))]) hC dL_isRow_117 (by decide) rfl ?_
        refine g_iload hC dL_isRow_119 rfl ?_
        refine g_if_eq (tgt := 183) hC dL_isRow_121 (by decide) (by omega) (fun c_121 => False.elim (by revert c_121; decide)) (fun c_121 => ?_)
        refine g_ald_n hC dL_isRow_124 rfl ?_
        refine g_iload hC dL_isRow_125 rfl ?_
        refine g_iload hC dL_isRow_127 rfl ?_
        refine g_iload hC dL_isRow_129 rfl ?_
        refine g_callSW (rest := []) hC (kL_drawn hl hCI hA.1 s hs (qRow F s k) ((qCol F s k) - (lnF F (z 0) k)) (by omega) (by omega) gh hR) gcw_85 rfl ⟨by decide, by decide⟩ ⟨by decide, by decide⟩ (Nat.le_of_ble_eq_true rfl) rfl dL_isRow_131 (fun r g_ hp => ?_)
        obtain ⟨rfl, hgh⟩ := hp
        rw [hgh]
        clear hgh
        refine gV.eqs (st' := [vi ((lay0 F s (z 3).toNat (z 0)).2 (40 * qRow F s k + ((qCol F s k) - (lnF F (z 0) k))).toNat)]) rfl rfl rfl ?_
        refine g_top (b := spV F (z 0) 0 k) l1 ?_
        have r0 := spV_rng (on := z 0) hI (i := k) (by omega) (wh := 0) (by decide)
        refine g_ald_n hC dL_isRow_134 rfl ?_
        refine g_iload hC dL_isRow_135 rfl ?_
        refine g_ald_n hC dL_isRow_137 rfl ?_
        refine g_iconst hC dL_isRow_138 rfl ?_
        refine g_ialdK hC (3) dL_isRow_139 f1 (by omega) (by omega) (by omega) ?_
        refine g_top (b := z 0) (g3) ?_
        refine g_iconst hC dL_isRow_140 rfl ?_
        refine g_callSW (rest := [vi (spV F (z 0) 0 k)]) hC (kL_spelled hl hCI hA.1 k hk (z 0) 0 (by omega) (by decide) gh hR) gcw_88 rfl ⟨by decide, by decide⟩ ⟨by decide, by decide⟩ (Nat.le_of_ble_eq_true rfl) rfl dL_isRow_141 (fun r g_ hp => ?_)
        obtain ⟨rfl, hgh⟩ := hp
        rw [hgh]
        clear hgh
        refine gV.eqs (st' := [vi (spV F (z 0) 0 k), vi (spV F (z 0) 0 k)]) rfl rfl rfl ?_
        refine g_icmp_ne (tgt := 183) hC dL_isRow_144 (by decide) (by omega) (by omega) (fun c_144 => False.elim (by omega)) (fun c_144 => ?_)
        refine g_ald_n hC dL_isRow_147 rfl ?_
        refine g_iload hC dL_isRow_148 rfl ?_
        refine g_iload hC dL_isRow_150 rfl ?_
        refine g_iload hC dL_isRow_152 rfl ?_
        refine g_callSW (rest := []) hC (kL_drawn hl hCI hA.1 s hs (qRow F s k) ((((qCol F s k) - (lnF F (z 0) k)) + (lnF F (z 0) k)) - (1)) (by omega) (by omega) gh hR) gcw_85 rfl ⟨by decide, by decide⟩ ⟨by decide, by decide⟩ (Nat.le_of_ble_eq_true rfl) rfl dL_isRow_154 (fun r g_ hp => ?_)
        obtain ⟨rfl, hgh⟩ := hp
        rw [hgh]
        clear hgh
        refine gV.eqs (st' := [vi ((lay0 F s (z 3).toNat (z 0)).2 (40 * qRow F s k + ((((qCol F s k) - (lnF F (z 0) k)) + (lnF F (z 0) k)) - (1))).toNat)]) rfl rfl rfl ?_
        refine g_top (b := spV F (z 0) (lnF F (z 0) k - 1) k) l2 ?_
        have r9 := spV_rng (on := z 0) hI (i := k) (by omega) (wh := lnF F (z 0) k - 1) (by omega)
        refine g_ald_n hC dL_isRow_157 rfl ?_
        refine g_iload hC dL_isRow_158 rfl ?_
        refine g_ald_n hC dL_isRow_160 rfl ?_
        refine g_iconst hC dL_isRow_161 rfl ?_
        refine g_ialdK hC (3) dL_isRow_162 f1 (by omega) (by omega) (by omega) ?_
        refine g_top (b := z 0) (g3) ?_
        refine g_ald_n hC dL_isRow_163 rfl ?_
        refine g_iconst hC dL_isRow_164 rfl ?_
        refine g_iload hC dL_isRow_165 rfl ?_
        refine g_imul hC dL_isRow_167 ?_
        refine g_iconst hC dL_isRow_168 rfl ?_
        refine g_iadd hC dL_isRow_169 ?_
        refine g_ialdK hC (5 * k + 4) dL_isRow_170 f2 (by omega) (by omega) (by omega) ?_
        refine g_top (b := lnF F (z 0) k) (p4) ?_
        refine g_iconst hC dL_isRow_171 rfl ?_
        refine g_isub hC dL_isRow_172 ?_
        refine g_callSW (rest := [vi (spV F (z 0) (lnF F (z 0) k - 1) k)]) hC (kL_spelled hl hCI hA.1 k hk (z 0) (lnF F (z 0) k - 1) (by omega) (by omega) gh hR) gcw_88 rfl ⟨by decide, by decide⟩ ⟨by decide, by decide⟩ (Nat.le_of_ble_eq_true rfl) rfl dL_isRow_173 (fun r g_ hp => ?_)
        obtain ⟨rfl, hgh⟩ := hp
        rw [hgh]
        clear hgh
        refine gV.eqs (st' := [vi (spV F (z 0) (lnF F (z 0) k - 1) k), vi (spV F (z 0) (lnF F (z 0) k - 1) k)]) rfl rfl rfl ?_
        refine g_icmp_ne (tgt := 183) hC dL_isRow_176 (by decide) (by omega) (by omega) (fun c_176 => False.elim (by omega)) (fun c_176 => ?_)
        refine g_iconst hC dL_isRow_179 rfl ?_
        refine g_goto (tgt := 184) hC dL_isRow_180 (by decide) ?_
        refine g_istore (lv' := [some (.ref oa), some (.ref ga), some (.ref pa), some (.ref qa), some (vi ((s : Int))), some (vi ((k : Int))), some (vi (qRow F s k)), some (vi (qCol F s k)), some (vi (sd)), some (vi (1)), some (vi ((qCol F s k) - (lnF F (z 0) k))), some (vi ((((qCol F s k) - (lnF F (z 0) k)) + (lnF F (z 0) k)) - (1)))]) hC dL_isRow_184 (by decide) rfl ?_
        refine g_ald_n hC dL_isRow_186 rfl ?_
        refine g_iload hC dL_isRow_187 rfl ?_
        refine g_iload hC dL_isRow_189 rfl ?_
        refine g_iload hC dL_isRow_191 rfl ?_
        refine g_bipush (z := 17) hC dL_isRow_193 rfl ?_
        refine g_iadd hC dL_isRow_195 ?_
        refine g_bipush (z := 40) hC dL_isRow_196 rfl ?_
        refine g_irem hC dL_isRow_198 (by omega) (by omega) ?_
        refine g_callSW (rest := []) hC (kL_drawn hl hCI hA.1 s hs (qRow F s k) ((qCol F s k + 17) % 40) (by omega) (by omega) gh hR) gcw_85 rfl ⟨by decide, by decide⟩ ⟨by decide, by decide⟩ (Nat.le_of_ble_eq_true rfl) rfl dL_isRow_199 (fun r g_ hp => ?_)
        obtain ⟨rfl, hgh⟩ := hp
        rw [hgh]
        clear hgh
        refine gV.eqs (st' := [vi ((lay0 F s (z 3).toNat (z 0)).2 (40 * qRow F s k + ((qCol F s k) + (17)) % (40)).toNat)]) rfl rfl rfl ?_
        have hal := sh_al (s := s) (on := z 0) hI hnp (40 * qRow F s k + ((qCol F s k) + (17)) % (40)).toNat
        obtain ⟨sg, esg⟩ : ∃ y_ : Int, y_ = (lay0 F s (z 3).toNat (z 0)).2 (40 * qRow F s k + ((qCol F s k) + (17)) % (40)).toNat := ⟨_, rfl⟩
        rw [← esg] at hal ⊢
        refine g_istore (lv' := [some (.ref oa), some (.ref ga), some (.ref pa), some (.ref qa), some (vi ((s : Int))), some (vi ((k : Int))), some (vi (qRow F s k)), some (vi (qCol F s k)), some (vi (sd)), some (vi (1)), some (vi (sg)), some (vi ((((qCol F s k) - (lnF F (z 0) k)) + (lnF F (z 0) k)) - (1)))]) hC dL_isRow_202 (by decide) rfl ?_
        refine g_iload hC dL_isRow_204 rfl ?_
        refine g_if_eq (tgt := 241) hC dL_isRow_206 (by decide) (by omega) (fun c_206 => False.elim (by revert c_206; decide)) (fun c_206 => ?_)
        refine g_iload hC dL_isRow_209 rfl ?_
        refine g_bipush (z := 46) hC dL_isRow_211 rfl ?_
        refine g_icmp_eq (tgt := 237) hC dL_isRow_213 (by decide) (by omega) (by omega) (fun ha => ?_) (fun ha => ?_)
        · refine g_iconst hC dL_isRow_237 rfl ?_
          refine g_goto (tgt := 242) hC dL_isRow_238 (by decide) ?_
          exact g_bret (b := true) hC hq dL_isRow_242 (by decide) (by decide) ⟨rfl, rfl⟩
        · refine g_iload hC dL_isRow_216 rfl ?_
          refine g_bipush (z := 42) hC dL_isRow_218 rfl ?_
          refine g_icmp_eq (tgt := 237) hC dL_isRow_220 (by decide) (by omega) (by omega) (fun hb => ?_) (fun hb => ?_)
          · refine g_iconst hC dL_isRow_237 rfl ?_
            refine g_goto (tgt := 242) hC dL_isRow_238 (by decide) ?_
            exact g_bret (b := true) hC hq dL_isRow_242 (by decide) (by decide) ⟨rfl, rfl⟩
          · refine g_iload hC dL_isRow_223 rfl ?_
            refine g_bipush (z := 97) hC dL_isRow_225 rfl ?_
            refine g_icmp_lt (tgt := 241) hC dL_isRow_227 (by decide) (by omega) (by omega) (fun c_227 => False.elim (by omega)) (fun c_227 => ?_)
            refine g_iload hC dL_isRow_230 rfl ?_
            refine g_bipush (z := 122) hC dL_isRow_232 rfl ?_
            refine g_icmp_gt (tgt := 241) hC dL_isRow_234 (by decide) (by omega) (by omega) (fun c_234 => False.elim (by omega)) (fun c_234 => ?_)
            refine g_iconst hC dL_isRow_237 rfl ?_
            refine g_goto (tgt := 242) hC dL_isRow_238 (by decide) ?_
            exact g_bret (b := true) hC hq dL_isRow_242 (by decide) (by decide) ⟨rfl, rfl⟩
  · refine g_iconst hC dL_isRow_12 rfl ?_
    exact g_bret (b := true) hC hq dL_isRow_13 (by decide) (by decide) ⟨rfl, rfl⟩

end Q10
