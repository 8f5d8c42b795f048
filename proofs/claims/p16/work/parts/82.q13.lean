/-! p16: an act of the law -/
section Q13
set_option maxHeartbeats 4000000 in
set_option maxRecDepth 100000 in
theorem kL_acts {l : Launch} (hl : l.stackTraces = false) {D : gD} {base : Nat} {oa ga pa qa ea : Nat} {ad : Tg → Nat} {z : Nat → Int} {F : Nat → Nat → Int} {ct : Tg → Option gC} {G P Q E : Nat → Int} (hLI : LI ad z F ct G P Q E) (hA : lA ad oa ga pa qa ea) (a c : Int) (ra : -2147483648 ≤ a ∧ a < 2147483648) (rc : -2147483648 ≤ c ∧ c < 2147483648) (hd : z 0 ≤ 5000) (hg : G 5 ≤ 1000) (gh : gH) (hR : cR ad ct gh) : gM l D base yL_acts cL_acts 9 (some Jvm.ClassFile.FieldType.boolean) 14 344 105 3885 [.ref oa, .ref ga, .ref pa, .ref qa, .ref ea, vi (a), vi (c)] gh (fun r gh' => r = some (vi 1) ∧ LO oa ga pa qa ea z (z 0 + 50) (G 5 + 1) gh') gNo := by
  refine gM.of hl (by decide) (by simp [Value.category]) (Nat.le_of_ble_eq_true rfl) [some (.ref oa), some (.ref ga), some (.ref pa), some (.ref qa), some (.ref ea), some (vi (a)), some (vi (c)), none, none] rfl (fun x hC hq => ?_)
  obtain ⟨hCI, ⟨c30, c31, c32, c33⟩, ⟨g0, g1, g2, g3, g4, g5⟩, lP, lQ, lE⟩ := id hLI
  obtain ⟨hS, hI, hE, hQ, h10⟩ := id hCI
  obtain ⟨i0, i1, i3, i11, i22, iw, ip, inn, inm, ish⟩ := id hI
  have f1 : gh ga = some (gI 1 6 (G)) := by have h9_ := hR.1 (30, 0, 0) _ c30; rw [hA.2.1] at h9_; exact h9_
  have f2 : gh pa = some (gI 1 50 (P)) := by have h9_ := hR.1 (31, 0, 0) _ c31; rw [hA.2.2.1] at h9_; exact h9_
  have f3 : gh qa = some (gI 1 12 (Q)) := by have h9_ := hR.1 (32, 0, 0) _ c32; rw [hA.2.2.2.1] at h9_; exact h9_
  have f4 : gh ea = some (gI 1 20 (E)) := by have h9_ := hR.1 (33, 0, 0) _ c33; rw [hA.2.2.2.2] at h9_; exact h9_
  refine g_iload hC dL_acts_0 rfl ?_
  refine g_bipush (z := 12) hC dL_acts_2 rfl ?_
  refine g_callS (rest := []) hC (kL_low hl a 12 ra (by omega) gh ) gc_RL_90 rfl ⟨by decide, by decide⟩ ⟨by decide, by decide⟩ (Nat.le_of_ble_eq_true rfl) rfl dL_acts_4 (fun r g_ hp => ?_)
  obtain ⟨rfl, hgh⟩ := hp
  rw [hgh]
  clear hgh
  obtain ⟨w5, ew5⟩ : ∃ y_ : Int, y_ = a % 2147483648 % 12 := ⟨_, rfl⟩
  have rw5 : 0 ≤ w5 ∧ w5 < 12 := by rw [ew5]; exact ⟨Int.emod_nonneg _ (by omega), Int.emod_lt_of_pos _ (by omega)⟩
  rw [← ew5]
  refine gV.eqs (st' := [vi (w5)]) rfl rfl rfl ?_
  refine g_istore (lv' := [some (.ref oa), some (.ref ga), some (.ref pa), some (.ref qa), some (.ref ea), some (vi (a)), some (vi (c)), some (vi (w5)), none]) hC dL_acts_7 (by decide) rfl ?_
  refine g_iload hC dL_acts_9 rfl ?_
  refine g_iconst hC dL_acts_11 rfl ?_
  refine g_icmp_lt (tgt := 21) hC dL_acts_12 (by decide) (by omega) (by omega) (fun h2 => ?_) (fun h2 => ?_)
  · refine g_ald_n hC dL_acts_21 rfl ?_
    refine g_iconst hC dL_acts_22 rfl ?_
    refine g_ialdK hC (0) dL_acts_23 f1 (by omega) (by omega) (by omega) ?_
    refine g_top (b := z 3) (g0) ?_
    refine g_bipush (z := 10) hC dL_acts_24 rfl ?_
    refine g_icmp_eq (tgt := 55) hC dL_acts_26 (by decide) (by omega) (by omega) (fun h10e => ?_) (fun h10e => ?_)
    · refine g_iconst hC dL_acts_55 rfl ?_
      refine g_goto (tgt := 60) hC dL_acts_56 (by decide) ?_
      exact g_bret (b := true) hC hq dL_acts_60 (by decide) (by decide) ⟨rfl, LO.mono (z2 := z) ⟨ad, ct, z, F, G, P, Q, E, hR, hLI, hA, Int.le_refl _, Int.le_refl _, Int.le_refl _, Int.le_refl _⟩ (by omega) (by omega) (Int.le_refl _) (Int.le_refl _)⟩
    · refine g_ald_n hC dL_acts_29 rfl ?_
      refine g_ald_n hC dL_acts_30 rfl ?_
      refine g_ald_n hC dL_acts_31 rfl ?_
      refine g_ald_n hC dL_acts_32 rfl ?_
      refine g_ald_n hC dL_acts_33 rfl ?_
      refine g_iconst hC dL_acts_34 rfl ?_
      refine g_ialdK hC (0) dL_acts_35 f1 (by omega) (by omega) (by omega) ?_
      refine g_top (b := z 3) (g0) ?_
      refine g_if_ne (tgt := 43) hC dL_acts_36 (by decide) (by omega) (fun hz3 => ?_) (fun hz3 => ?_)
      · refine g_iload hC dL_acts_43 rfl ?_
        refine g_iconst hC dL_acts_45 rfl ?_
        refine g_ishrT hC dL_acts_46 ?_
        have rv6 := iI_rng (iI (a) >>> (iI (4) &&& 31))
        obtain ⟨v6, ev6⟩ : ∃ y_ : Int, y_ = (iI (a) >>> (iI (4) &&& 31)).toInt := ⟨_, rfl⟩
        rw [← ev6] at rv6 ⊢
        refine g_iload hC dL_acts_47 rfl ?_
        refine g_callS (rest := []) hC (kL_makes hl hLI hA v6 c rv6 rc z (Int.le_refl _) (Or.inl (Int.le_refl _)) gh hR) gc_RL_108 rfl ⟨by decide, by decide⟩ ⟨by decide, by decide⟩ (Nat.le_of_ble_eq_true rfl) rfl dL_acts_49 (fun r gh_ hp => ?_)
        obtain ⟨rfl, hLO⟩ := hp
        refine gV.eqs (st' := [vi (1)]) rfl rfl rfl ?_
        refine g_if_eq (tgt := 59) hC dL_acts_52 (by decide) (by omega) (fun c_52 => False.elim (by revert c_52; decide)) (fun c_52 => ?_)
        refine g_iconst hC dL_acts_55 rfl ?_
        refine g_goto (tgt := 60) hC dL_acts_56 (by decide) ?_
        exact g_bret (b := true) hC hq dL_acts_60 (by decide) (by decide) ⟨rfl, hLO.mono (by omega) (by omega) (Int.le_refl _) (Int.le_refl _)⟩
      · refine g_iconst hC dL_acts_39 rfl ?_
        refine g_goto (tgt := 47) hC dL_acts_40 (by decide) ?_
        refine g_iload hC dL_acts_47 rfl ?_
        refine g_callS (rest := []) hC (kL_makes hl hLI hA 1 c (by decide) rc z (Int.le_refl _) (Or.inl (Int.le_refl _)) gh hR) gc_RL_108 rfl ⟨by decide, by decide⟩ ⟨by decide, by decide⟩ (Nat.le_of_ble_eq_true rfl) rfl dL_acts_49 (fun r gh_ hp => ?_)
        obtain ⟨rfl, hLO⟩ := hp
        refine gV.eqs (st' := [vi (1)]) rfl rfl rfl ?_
        refine g_if_eq (tgt := 59) hC dL_acts_52 (by decide) (by omega) (fun c_52 => False.elim (by revert c_52; decide)) (fun c_52 => ?_)
        refine g_iconst hC dL_acts_55 rfl ?_
        refine g_goto (tgt := 60) hC dL_acts_56 (by decide) ?_
        exact g_bret (b := true) hC hq dL_acts_60 (by decide) (by decide) ⟨rfl, hLO.mono (by omega) (by omega) (Int.le_refl _) (Int.le_refl _)⟩
  · refine g_ald_n hC dL_acts_15 rfl ?_
    refine g_iconst hC dL_acts_16 rfl ?_
    refine g_ialdK hC (0) dL_acts_17 f1 (by omega) (by omega) (by omega) ?_
    refine g_top (b := z 3) (g0) ?_
    refine g_if_ne (tgt := 61) hC dL_acts_18 (by decide) (by omega) (fun h0 => ?_) (fun h0 => ?_)
    · refine g_iload hC dL_acts_61 rfl ?_
      refine g_bipush (z := 6) hC dL_acts_63 rfl ?_
      refine g_icmp_ge (tgt := 108) hC dL_acts_65 (by decide) (by omega) (by omega) (fun h6 => ?_) (fun h6 => ?_)
      · refine g_iload hC dL_acts_108 rfl ?_
        refine g_bipush (z := 6) hC dL_acts_110 rfl ?_
        refine g_icmp_ne (tgt := 152) hC dL_acts_112 (by decide) (by omega) (by omega) (fun h6e => ?_) (fun h6e => ?_)
        · refine g_ald_n hC dL_acts_152 rfl ?_
          refine g_iconst hC dL_acts_153 rfl ?_
          refine g_ialdK hC (1) dL_acts_154 f1 (by omega) (by omega) (by omega) ?_
          refine g_top (b := z 11) (g1) ?_
          refine g_if_ne (tgt := 169) hC dL_acts_155 (by decide) (by omega) (fun hz11 => ?_) (fun hz11 => ?_)
          · refine g_ald_n hC dL_acts_169 rfl ?_
            refine g_iconst hC dL_acts_170 rfl ?_
            refine g_dup2 hC dL_acts_171 rfl rfl ?_
            refine g_ialdK hC (5) dL_acts_172 f1 (by omega) (by omega) (by omega) ?_
            refine g_top (b := G 5) (rfl) ?_
            refine g_iconst hC dL_acts_173 rfl ?_
            refine g_iadd hC dL_acts_174 ?_
            refine g_iastK hC (5) dL_acts_175 f1 (by omega) (by omega) (by omega) ?_
            obtain ⟨G7, eG7⟩ : ∃ y_, y_ = gup (G) (5) ((G 5) + (1)) := ⟨_, rfl⟩
            rw [← eG7]
            obtain ⟨gh8, egh8⟩ : ∃ g_, g_ = gset gh ga (gI 1 6 G7) := ⟨_, rfl⟩
            rw [← egh8]
            have hR9 := hR.put c30 (gI 1 6 G7)
            rw [hA.2.1, ← egh8] at hR9
            have hCI10 := hCI.put (30, 0, 0) (by decide) (gI 1 6 G7)
            obtain ⟨ct11, ect11⟩ : ∃ y_, y_ = cup ct (30, 0, 0) (gI 1 6 G7) := ⟨_, rfl⟩
            rw [← ect11] at hR9 hCI10
            have c12 : ct11 (30, 0, 0) = some (gI 1 6 G7) := by rw [ect11]; exact cup_eq
            have c13 : ct11 (31, 0, 0) = some (gI 1 50 P) := by rw [ect11, cup_ne (by simp)]; exact c31
            have c14 : ct11 (32, 0, 0) = some (gI 1 12 Q) := by rw [ect11, cup_ne (by simp)]; exact c32
            have c15 : ct11 (33, 0, 0) = some (gI 1 20 E) := by rw [ect11, cup_ne (by simp)]; exact c33
            have n16 : G7 (0) = z 3 := by rw [eG7]; exact (gup_ne (by omega)).trans (g0)
            have n17 : G7 (1) = z 11 := by rw [eG7]; exact (gup_ne (by omega)).trans (g1)
            have n18 : G7 (2) = z 22 := by rw [eG7]; exact (gup_ne (by omega)).trans (g2)
            have n19 : G7 (3) = z 0 := by rw [eG7]; exact (gup_ne (by omega)).trans (g3)
            have n20 : G7 (4) = z 1 := by rw [eG7]; exact (gup_ne (by omega)).trans (g4)
            have n21 : G7 (5) = (G 5) + (1) := by rw [eG7]; exact gup_eq
            have f22 : gh8 ga = some (gI 1 6 (G7)) := by have h9_ := hR9.1 (30, 0, 0) _ c12; rw [hA.2.1] at h9_; exact h9_
            have f23 : gh8 pa = some (gI 1 50 (P)) := by have h9_ := hR9.1 (31, 0, 0) _ c13; rw [hA.2.2.1] at h9_; exact h9_
            have f24 : gh8 qa = some (gI 1 12 (Q)) := by have h9_ := hR9.1 (32, 0, 0) _ c14; rw [hA.2.2.2.1] at h9_; exact h9_
            have f25 : gh8 ea = some (gI 1 20 (E)) := by have h9_ := hR9.1 (33, 0, 0) _ c15; rw [hA.2.2.2.2] at h9_; exact h9_
            have hLI5 : LI ad z F ct11 G7 P Q E := ⟨hCI10, ⟨c12, c13, c14, c15⟩, by rw [eG7]; exact lw_five hLI.2.2⟩
            have n5 : G7 5 = G 5 + 1 := n21
            refine g_ald_n hC dL_acts_176 rfl ?_
            refine g_iconst hC dL_acts_177 rfl ?_
            refine g_ialdK hC (5) dL_acts_178 f22 (by omega) (by omega) (by omega) ?_
            refine g_top (b := (G 5) + (1)) (n21) ?_
            refine g_bipush (z := 12) hC dL_acts_179 rfl ?_
            refine g_icmp_le (tgt := 186) hC dL_acts_181 (by decide) (by omega) (by omega) (fun h12 => ?_) (fun h12 => ?_)
            · refine g_iload hC dL_acts_186 rfl ?_
              refine g_bipush (z := 7) hC dL_acts_188 rfl ?_
              refine g_icmp_ne (tgt := 205) hC dL_acts_190 (by decide) (by omega) (by omega) (fun h7 => ?_) (fun h7 => ?_)
              · refine g_iload hC dL_acts_205 rfl ?_
                refine g_bipush (z := 8) hC dL_acts_207 rfl ?_
                refine g_icmp_ne (tgt := 222) hC dL_acts_209 (by decide) (by omega) (by omega) (fun h8 => ?_) (fun h8 => ?_)
                · refine g_iload hC dL_acts_222 rfl ?_
                  refine g_bipush (z := 11) hC dL_acts_224 rfl ?_
                  refine g_icmp_ge (tgt := 257) hC dL_acts_226 (by decide) (by omega) (by omega) (fun h11 => ?_) (fun h11 => ?_)
                  · refine g_ald_n hC dL_acts_257 rfl ?_
                    refine g_ald_n hC dL_acts_258 rfl ?_
                    refine g_ald_n hC dL_acts_259 rfl ?_
                    refine g_ald_n hC dL_acts_260 rfl ?_
                    refine g_iload hC dL_acts_261 rfl ?_
                    refine g_ald_n hC dL_acts_263 rfl ?_
                    refine g_iconst hC dL_acts_264 rfl ?_
                    refine g_ialdK hC (1) dL_acts_265 f22 (by omega) (by omega) (by omega) ?_
                    refine g_top (b := z 11) (n17) ?_
                    refine g_callS (rest := [.ref qa, .ref pa, .ref ga, .ref oa]) hC (kL_low hl c (z 11) rc (by omega) gh8 ) gc_RL_90 rfl ⟨by decide, by decide⟩ ⟨by decide, by decide⟩ (Nat.le_of_ble_eq_true rfl) rfl dL_acts_266 (fun r g_ hp => ?_)
                    obtain ⟨rfl, hgh⟩ := hp
                    rw [hgh]
                    clear hgh
                    obtain ⟨w26, ew26⟩ : ∃ y_ : Int, y_ = c % 2147483648 % (z 11) := ⟨_, rfl⟩
                    have rw26 : 0 ≤ w26 ∧ w26 < z 11 := by rw [ew26]; exact ⟨Int.emod_nonneg _ (by omega), Int.emod_lt_of_pos _ (by omega)⟩
                    rw [← ew26]
                    refine gV.eqs (st' := [vi (w26), .ref qa, .ref pa, .ref ga, .ref oa]) rfl rfl rfl ?_
                    obtain ⟨t, ht⟩ : ∃ y_ : Nat, w26 = (y_ : Int) := ⟨w26.toNat, by omega⟩
                    refine g_top (b := (t : Int)) ht ?_
                    refine g_callS (rest := []) hC (kL_isSheet hl hLI5 hA t (by omega) gh8 hR9) gc_RL_132 rfl ⟨by decide, by decide⟩ ⟨by decide, by decide⟩ (Nat.le_of_ble_eq_true rfl) rfl dL_acts_269 (fun r gh_ hp => ?_)
                    obtain ⟨rfl, hLO⟩ := hp
                    refine gV.eqs (st' := [vi (1)]) rfl rfl rfl ?_
                    exact g_bret (b := true) hC hq dL_acts_272 (by decide) (by decide) ⟨rfl, hLO.mono (by omega) (by omega) (Int.le_refl _) (Int.le_refl _)⟩
                  · refine g_ald_n hC dL_acts_229 rfl ?_
                    refine g_ald_n hC dL_acts_230 rfl ?_
                    refine g_ald_n hC dL_acts_231 rfl ?_
                    refine g_ald_n hC dL_acts_232 rfl ?_
                    refine g_iload hC dL_acts_233 rfl ?_
                    refine g_ald_n hC dL_acts_235 rfl ?_
                    refine g_iconst hC dL_acts_236 rfl ?_
                    refine g_ialdK hC (1) dL_acts_237 f22 (by omega) (by omega) (by omega) ?_
                    refine g_top (b := z 11) (n17) ?_
                    refine g_callS (rest := [.ref qa, .ref pa, .ref ga, .ref oa]) hC (kL_low hl c (z 11) rc (by omega) gh8 ) gc_RL_90 rfl ⟨by decide, by decide⟩ ⟨by decide, by decide⟩ (Nat.le_of_ble_eq_true rfl) rfl dL_acts_238 (fun r g_ hp => ?_)
                    obtain ⟨rfl, hgh⟩ := hp
                    rw [hgh]
                    clear hgh
                    obtain ⟨w27, ew27⟩ : ∃ y_ : Int, y_ = c % 2147483648 % (z 11) := ⟨_, rfl⟩
                    have rw27 : 0 ≤ w27 ∧ w27 < z 11 := by rw [ew27]; exact ⟨Int.emod_nonneg _ (by omega), Int.emod_lt_of_pos _ (by omega)⟩
                    rw [← ew27]
                    refine gV.eqs (st' := [vi (w27), .ref qa, .ref pa, .ref ga, .ref oa]) rfl rfl rfl ?_
                    obtain ⟨t, ht⟩ : ∃ y_ : Nat, w27 = (y_ : Int) := ⟨w27.toNat, by omega⟩
                    refine g_top (b := (t : Int)) ht ?_
                    refine g_iload hC dL_acts_241 rfl ?_
                    refine g_iconst hC dL_acts_243 rfl ?_
                    refine g_ishrT hC dL_acts_244 ?_
                    have rv28 := iI_rng (iI (c) >>> (iI (3) &&& 31))
                    obtain ⟨v28, ev28⟩ : ∃ y_ : Int, y_ = (iI (c) >>> (iI (3) &&& 31)).toInt := ⟨_, rfl⟩
                    rw [← ev28] at rv28 ⊢
                    refine g_ald_n hC dL_acts_245 rfl ?_
                    refine g_iconst hC dL_acts_246 rfl ?_
                    refine g_ialdK hC (0) dL_acts_247 f22 (by omega) (by omega) (by omega) ?_
                    refine g_top (b := z 3) (n16) ?_
                    refine g_callS (rest := [vi ((t : Int)), .ref qa, .ref pa, .ref ga, .ref oa]) hC (kL_low hl v28 (z 3) rv28 (by omega) gh8 ) gc_RL_90 rfl ⟨by decide, by decide⟩ ⟨by decide, by decide⟩ (Nat.le_of_ble_eq_true rfl) rfl dL_acts_248 (fun r g_ hp => ?_)
                    obtain ⟨rfl, hgh⟩ := hp
                    rw [hgh]
                    clear hgh
                    obtain ⟨w29, ew29⟩ : ∃ y_ : Int, y_ = v28 % 2147483648 % (z 3) := ⟨_, rfl⟩
                    have rw29 : 0 ≤ w29 ∧ w29 < z 3 := by rw [ew29]; exact ⟨Int.emod_nonneg _ (by omega), Int.emod_lt_of_pos _ (by omega)⟩
                    rw [← ew29]
                    refine gV.eqs (st' := [vi (w29), vi ((t : Int)), .ref qa, .ref pa, .ref ga, .ref oa]) rfl rfl rfl ?_
                    obtain ⟨t2, ht2⟩ : ∃ y_ : Nat, w29 = (y_ : Int) := ⟨w29.toNat, by omega⟩
                    refine g_top (b := (t2 : Int)) ht2 ?_
                    refine g_callS (rest := []) hC (kL_isRow hl hLI5 hA t t2 (by omega) (by omega) gh8 hR9) gc_RL_129 rfl ⟨by decide, by decide⟩ ⟨by decide, by decide⟩ (Nat.le_of_ble_eq_true rfl) rfl dL_acts_251 (fun r g3_ hp => ?_)
                    obtain ⟨rfl, hgh⟩ := hp
                    rw [hgh]
                    refine gV.eqs (st' := [vi (1)]) rfl rfl rfl ?_
                    refine g_goto (tgt := 272) hC dL_acts_254 (by decide) ?_
                    exact g_bret (b := true) hC hq dL_acts_272 (by decide) (by decide) ⟨rfl, ad, ct11, z, F, G7, P, Q, E, hR9, hLI5, hA, Int.le_refl _, Int.le_refl _, by omega, by omega⟩
                · refine g_ald_n hC dL_acts_212 rfl ?_
                  refine g_ald_n hC dL_acts_213 rfl ?_
                  refine g_ald hC dL_acts_214 rfl ?_
                  refine g_callS (rest := []) hC (kL_arePrinted hl hLI5 hA gh8 hR9) gc_RL_125 rfl ⟨by decide, by decide⟩ ⟨by decide, by decide⟩ (Nat.le_of_ble_eq_true rfl) rfl dL_acts_216 (fun r g3_ hp => ?_)
                  obtain ⟨rfl, hgh⟩ := hp
                  rw [hgh]
                  refine gV.eqs (st' := [vi (1)]) rfl rfl rfl ?_
                  refine g_goto (tgt := 272) hC dL_acts_219 (by decide) ?_
                  exact g_bret (b := true) hC hq dL_acts_272 (by decide) (by decide) ⟨rfl, ad, ct11, z, F, G7, P, Q, E, hR9, hLI5, hA, Int.le_refl _, Int.le_refl _, by omega, by omega⟩
              · refine g_ald_n hC dL_acts_193 rfl ?_
                refine g_ald_n hC dL_acts_194 rfl ?_
                refine g_ald hC dL_acts_195 rfl ?_
                refine g_iload hC dL_acts_197 rfl ?_
                refine g_callS (rest := []) hC (kL_prints hl hLI5 hA c rc (by omega) gh8 hR9) gc_RL_122 rfl ⟨by decide, by decide⟩ ⟨by decide, by decide⟩ (Nat.le_of_ble_eq_true rfl) rfl dL_acts_199 (fun r gh_ hp => ?_)
                obtain ⟨rfl, hLO⟩ := hp
                refine gV.eqs (st' := [vi (1)]) rfl rfl rfl ?_
                refine g_goto (tgt := 272) hC dL_acts_202 (by decide) ?_
                exact g_bret (b := true) hC hq dL_acts_272 (by decide) (by decide) ⟨rfl, hLO.mono (by omega) (by omega) (Int.le_refl _) (Int.le_refl _)⟩
            · refine g_iconst hC dL_acts_184 rfl ?_
              exact g_bret (b := true) hC hq dL_acts_185 (by decide) (by decide) ⟨rfl, ad, ct11, z, F, G7, P, Q, E, hR9, hLI5, hA, Int.le_refl _, Int.le_refl _, by omega, by omega⟩
          · refine g_ald_n hC dL_acts_158 rfl ?_
            refine g_ald_n hC dL_acts_159 rfl ?_
            refine g_ald_n hC dL_acts_160 rfl ?_
            refine g_ald_n hC dL_acts_161 rfl ?_
            refine g_iconst hC dL_acts_162 rfl ?_
            refine g_iload hC dL_acts_163 rfl ?_
            refine g_callS (rest := []) hC (kL_makes hl hLI hA 4 c (by decide) rc z (Int.le_refl _) (Or.inl (Int.le_refl _)) gh hR) gc_RL_108 rfl ⟨by decide, by decide⟩ ⟨by decide, by decide⟩ (Nat.le_of_ble_eq_true rfl) rfl dL_acts_165 (fun r gh_ hp => ?_)
            obtain ⟨rfl, hLO⟩ := hp
            refine gV.eqs (st' := [vi (1)]) rfl rfl rfl ?_
            exact g_bret (b := true) hC hq dL_acts_168 (by decide) (by decide) ⟨rfl, hLO.mono (by omega) (by omega) (Int.le_refl _) (Int.le_refl _)⟩
        · refine g_iconst hC dL_acts_115 rfl ?_
          refine g_iload hC dL_acts_116 rfl ?_
          refine g_bipush (z := 50) hC dL_acts_118 rfl ?_
          refine g_callS (rest := [vi (1)]) hC (kL_low hl c 50 rc (by omega) gh ) gc_RL_90 rfl ⟨by decide, by decide⟩ ⟨by decide, by decide⟩ (Nat.le_of_ble_eq_true rfl) rfl dL_acts_120 (fun r g_ hp => ?_)
          obtain ⟨rfl, hgh⟩ := hp
          rw [hgh]
          clear hgh
          obtain ⟨w30, ew30⟩ : ∃ y_ : Int, y_ = c % 2147483648 % 50 := ⟨_, rfl⟩
          have rw30 : 0 ≤ w30 ∧ w30 < 50 := by rw [ew30]; exact ⟨Int.emod_nonneg _ (by omega), Int.emod_lt_of_pos _ (by omega)⟩
          rw [← ew30]
          refine gV.eqs (st' := [vi (w30), vi (1)]) rfl rfl rfl ?_
          refine g_iadd hC dL_acts_123 ?_
          obtain ⟨u31, eu31⟩ : ∃ y_ : Int, y_ = (1) + (w30) := ⟨_, rfl⟩
          rw [← eu31]
          refine g_istore (lv' := [some (.ref oa), some (.ref ga), some (.ref pa), some (.ref qa), some (.ref ea), some (vi (a)), some (vi (c)), some (vi (w5)), some (vi (u31))]) hC dL_acts_124 (by decide) rfl ?_
          refine g_ald_n hC dL_acts_126 rfl ?_
          refine g_iconst hC dL_acts_127 rfl ?_
          refine g_dup2 hC dL_acts_128 rfl rfl ?_
          refine g_ialdK hC (3) dL_acts_129 f1 (by omega) (by omega) (by omega) ?_
          refine g_top (b := z 0) (g3) ?_
          refine g_iload hC dL_acts_130 rfl ?_
          refine g_iadd hC dL_acts_132 ?_
          refine g_iastK hC (3) dL_acts_133 f1 (by omega) (by omega) (by omega) ?_
          obtain ⟨G32, eG32⟩ : ∃ y_, y_ = gup (G) (3) ((z 0) + (u31)) := ⟨_, rfl⟩
          rw [← eG32]
          obtain ⟨gh33, egh33⟩ : ∃ g_, g_ = gset gh ga (gI 1 6 G32) := ⟨_, rfl⟩
          rw [← egh33]
          have hR34 := hR.put c30 (gI 1 6 G32)
          rw [hA.2.1, ← egh33] at hR34
          have hCI35 := hCI.put (30, 0, 0) (by decide) (gI 1 6 G32)
          obtain ⟨ct36, ect36⟩ : ∃ y_, y_ = cup ct (30, 0, 0) (gI 1 6 G32) := ⟨_, rfl⟩
          rw [← ect36] at hR34 hCI35
          have c37 : ct36 (30, 0, 0) = some (gI 1 6 G32) := by rw [ect36]; exact cup_eq
          have c38 : ct36 (31, 0, 0) = some (gI 1 50 P) := by rw [ect36, cup_ne (by simp)]; exact c31
          have c39 : ct36 (32, 0, 0) = some (gI 1 12 Q) := by rw [ect36, cup_ne (by simp)]; exact c32
          have c40 : ct36 (33, 0, 0) = some (gI 1 20 E) := by rw [ect36, cup_ne (by simp)]; exact c33
          have n41 : G32 (0) = z 3 := by rw [eG32]; exact (gup_ne (by omega)).trans (g0)
          have n42 : G32 (1) = z 11 := by rw [eG32]; exact (gup_ne (by omega)).trans (g1)
          have n43 : G32 (2) = z 22 := by rw [eG32]; exact (gup_ne (by omega)).trans (g2)
          have n44 : G32 (4) = z 1 := by rw [eG32]; exact (gup_ne (by omega)).trans (g4)
          have n45 : G32 (5) = G 5 := by rw [eG32]; exact (gup_ne (by omega)).trans (rfl)
          have n46 : G32 (3) = (z 0) + (u31) := by rw [eG32]; exact gup_eq
          have f47 : gh33 ga = some (gI 1 6 (G32)) := by have h9_ := hR34.1 (30, 0, 0) _ c37; rw [hA.2.1] at h9_; exact h9_
          have f48 : gh33 pa = some (gI 1 50 (P)) := by have h9_ := hR34.1 (31, 0, 0) _ c38; rw [hA.2.2.1] at h9_; exact h9_
          have f49 : gh33 qa = some (gI 1 12 (Q)) := by have h9_ := hR34.1 (32, 0, 0) _ c39; rw [hA.2.2.2.1] at h9_; exact h9_
          have f50 : gh33 ea = some (gI 1 20 (E)) := by have h9_ := hR34.1 (33, 0, 0) _ c40; rw [hA.2.2.2.2] at h9_; exact h9_
          refine g_ald_n hC dL_acts_134 rfl ?_
          refine g_iload hC dL_acts_135 rfl ?_
          refine g_callSW (rest := []) hC (kL_pass hl hCI35 hA.1 u31 (by omega) (by omega) gh33 hR34) gcw_120 rfl ⟨by decide, by decide⟩ ⟨by decide, by decide⟩ (Nat.le_of_ble_eq_true rfl) rfl dL_acts_137 (fun r g2_ hp => ?_)
          obtain ⟨rfl, hx⟩ := hp
          refine gV.eqs (st' := [vi (z 0 + u31)]) rfl rfl rfl ?_
          obtain ⟨ad51, ct52, hR53, hS54, hx55⟩ := hx
          have hA56 := hA.x hx55
          have hCI57 : CI ad51 (gup z 0 (z 0 + u31)) (F) ct52 := ⟨hS54, ci_pass hI hE hQ h10 (by omega) (by omega)⟩
          have c58 := (hx55.1 (30, 0, 0) (Or.inr (by decide))).1.trans c37
          have c59 := (hx55.1 (31, 0, 0) (Or.inr (by decide))).1.trans c38
          have c60 := (hx55.1 (32, 0, 0) (Or.inr (by decide))).1.trans c39
          have c61 := (hx55.1 (33, 0, 0) (Or.inr (by decide))).1.trans c40
          have f62 : g2_ ga = some (gI 1 6 (G32)) := by have h9_ := hR53.1 (30, 0, 0) _ c58; rw [hA56.2.1] at h9_; exact h9_
          have f63 : g2_ pa = some (gI 1 50 (P)) := by have h9_ := hR53.1 (31, 0, 0) _ c59; rw [hA56.2.2.1] at h9_; exact h9_
          have f64 : g2_ qa = some (gI 1 12 (Q)) := by have h9_ := hR53.1 (32, 0, 0) _ c60; rw [hA56.2.2.2.1] at h9_; exact h9_
          have f65 : g2_ ea = some (gI 1 20 (E)) := by have h9_ := hR53.1 (33, 0, 0) _ c61; rw [hA56.2.2.2.2] at h9_; exact h9_
          refine g_ald_n hC dL_acts_140 rfl ?_
          refine g_iconst hC dL_acts_141 rfl ?_
          refine g_ialdK hC (3) dL_acts_142 f62 (by omega) (by omega) (by omega) ?_
          refine g_top (b := (z 0) + (u31)) (n46) ?_
          refine g_icmp_ne (tgt := 150) hC dL_acts_143 (by decide) (by omega) (by omega) (fun c_143 => False.elim (by omega)) (fun c_143 => ?_)
          refine g_iconst hC dL_acts_146 rfl ?_
          refine g_goto (tgt := 151) hC dL_acts_147 (by decide) ?_
          exact g_bret (b := true) hC hq dL_acts_151 (by decide) (by decide) ⟨rfl, ad51, ct52, _, _, G32, P, Q, E, hR53, ⟨hCI57, ⟨c58, c59, c60, c61⟩, by rw [eG32]; exact lw_pass hI hLI.2.2 (by omega)⟩, hA56, Int.le_refl (z 3), Int.le_refl (z 11), (by show z 0 + u31 ≤ z 0 + 50; omega), by rw [n45]; omega⟩
      · refine g_ald_n hC dL_acts_68 rfl ?_
        refine g_ald_n hC dL_acts_69 rfl ?_
        refine g_iload hC dL_acts_70 rfl ?_
        refine g_iconst hC dL_acts_72 rfl ?_
        refine g_ishrT hC dL_acts_73 ?_
        have rv66 := iI_rng (iI (a) >>> (iI (4) &&& 31))
        obtain ⟨v66, ev66⟩ : ∃ y_ : Int, y_ = (iI (a) >>> (iI (4) &&& 31)).toInt := ⟨_, rfl⟩
        rw [← ev66] at rv66 ⊢
        refine g_iload hC dL_acts_74 rfl ?_
        refine g_callS (rest := []) hC (kL_types hl hLI hA v66 c rv66 rc gh hR) gc_RL_112 rfl ⟨by decide, by decide⟩ ⟨by decide, by decide⟩ (Nat.le_of_ble_eq_true rfl) rfl dL_acts_76 (fun r gh_1 hp => ?_)
        obtain ⟨rfl, hLO1⟩ := hp
        refine gV.eqs (st' := [vi (1)]) rfl rfl rfl ?_
        refine g_if_eq (tgt := 106) hC dL_acts_79 (by decide) (by omega) (fun c_79 => False.elim (by revert c_79; decide)) (fun c_79 => ?_)
        obtain ⟨ad1, ct1, z1, F1, G1, P1, Q1, E1, hR1, hLI1, hA1, k31, k111, k01, k51⟩ := hLO1
        obtain ⟨hCI1, ⟨c301, c311, c321, c331⟩, ⟨g01, g11, g21, g31, g41, g51⟩, lP1, lQ1, lE1⟩ := id hLI1
        obtain ⟨hS1, hI1, hE1, hQ1, h101⟩ := id hCI1
        obtain ⟨i01, i11, i31, i111, i221, iw1, ip1, inn1, inm1, ish1⟩ := id hI1
        have f67 : gh_1 ga = some (gI 1 6 (G1)) := by have h9_ := hR1.1 (30, 0, 0) _ c301; rw [hA1.2.1] at h9_; exact h9_
        have f68 : gh_1 pa = some (gI 1 50 (P1)) := by have h9_ := hR1.1 (31, 0, 0) _ c311; rw [hA1.2.2.1] at h9_; exact h9_
        have f69 : gh_1 qa = some (gI 1 12 (Q1)) := by have h9_ := hR1.1 (32, 0, 0) _ c321; rw [hA1.2.2.2.1] at h9_; exact h9_
        have f70 : gh_1 ea = some (gI 1 20 (E1)) := by have h9_ := hR1.1 (33, 0, 0) _ c331; rw [hA1.2.2.2.2] at h9_; exact h9_
        refine g_ald_n hC dL_acts_82 rfl ?_
        refine g_ald_n hC dL_acts_83 rfl ?_
        refine g_ald_n hC dL_acts_84 rfl ?_
        refine g_iload hC dL_acts_85 rfl ?_
        refine g_bipush (z := 20) hC dL_acts_87 rfl ?_
        refine g_ishrT hC dL_acts_89 ?_
        have rv71 := iI_rng (iI (c) >>> (iI (20) &&& 31))
        obtain ⟨v71, ev71⟩ : ∃ y_ : Int, y_ = (iI (c) >>> (iI (20) &&& 31)).toInt := ⟨_, rfl⟩
        rw [← ev71] at rv71 ⊢
        refine g_ald_n hC dL_acts_90 rfl ?_
        refine g_iconst hC dL_acts_91 rfl ?_
        refine g_ialdK hC (0) dL_acts_92 f67 (by omega) (by omega) (by omega) ?_
        refine g_top (b := z1 3) (g01) ?_
        refine g_callS (rest := [.ref pa, .ref ga, .ref oa]) hC (kL_low hl v71 (z1 3) rv71 (by omega) gh_1 ) gc_RL_90 rfl ⟨by decide, by decide⟩ ⟨by decide, by decide⟩ (Nat.le_of_ble_eq_true rfl) rfl dL_acts_93 (fun r g_ hp => ?_)
        obtain ⟨rfl, hgh⟩ := hp
        rw [hgh]
        clear hgh
        obtain ⟨w72, ew72⟩ : ∃ y_ : Int, y_ = v71 % 2147483648 % (z1 3) := ⟨_, rfl⟩
        have rw72 : 0 ≤ w72 ∧ w72 < z1 3 := by rw [ew72]; exact ⟨Int.emod_nonneg _ (by omega), Int.emod_lt_of_pos _ (by omega)⟩
        rw [← ew72]
        refine gV.eqs (st' := [vi (w72), .ref pa, .ref ga, .ref oa]) rfl rfl rfl ?_
        obtain ⟨t, ht⟩ : ∃ y_ : Nat, w72 = (y_ : Int) := ⟨w72.toNat, by omega⟩
        refine g_top (b := (t : Int)) ht ?_
        refine g_callS (rest := []) hC (kL_names hl hLI1 hA1 t (by omega) gh_1 hR1) gc_RL_116 rfl ⟨by decide, by decide⟩ ⟨by decide, by decide⟩ (Nat.le_of_ble_eq_true rfl) rfl dL_acts_96 (fun r gh_2 hp => ?_)
        obtain ⟨rfl, hLO2⟩ := hp
        refine gV.eqs (st' := [vi (1)]) rfl rfl rfl ?_
        refine g_if_eq (tgt := 106) hC dL_acts_99 (by decide) (by omega) (fun c_99 => False.elim (by revert c_99; decide)) (fun c_99 => ?_)
        refine g_iconst hC dL_acts_102 rfl ?_
        refine g_goto (tgt := 107) hC dL_acts_103 (by decide) ?_
        exact g_bret (b := true) hC hq dL_acts_107 (by decide) (by decide) ⟨rfl, hLO2.mono (by omega) (by omega) (k31) (k111)⟩
    · refine g_ald_n hC dL_acts_21 rfl ?_
      refine g_iconst hC dL_acts_22 rfl ?_
      refine g_ialdK hC (0) dL_acts_23 f1 (by omega) (by omega) (by omega) ?_
      refine g_top (b := z 3) (g0) ?_
      refine g_bipush (z := 10) hC dL_acts_24 rfl ?_
      refine g_icmp_eq (tgt := 55) hC dL_acts_26 (by decide) (by omega) (by omega) (fun h10e => ?_) (fun h10e => ?_)
      · refine g_iconst hC dL_acts_55 rfl ?_
        refine g_goto (tgt := 60) hC dL_acts_56 (by decide) ?_
        exact g_bret (b := true) hC hq dL_acts_60 (by decide) (by decide) ⟨rfl, LO.mono (z2 := z) ⟨ad, ct, z, F, G, P, Q, E, hR, hLI, hA, Int.le_refl _, Int.le_refl _, Int.le_refl _, Int.le_refl _⟩ (by omega) (by omega) (Int.le_refl _) (Int.le_refl _)⟩
      · refine g_ald_n hC dL_acts_29 rfl ?_
        refine g_ald_n hC dL_acts_30 rfl ?_
        refine g_ald_n hC dL_acts_31 rfl ?_
        refine g_ald_n hC dL_acts_32 rfl ?_
        refine g_ald_n hC dL_acts_33 rfl ?_
        refine g_iconst hC dL_acts_34 rfl ?_
        refine g_ialdK hC (0) dL_acts_35 f1 (by omega) (by omega) (by omega) ?_
        refine g_top (b := z 3) (g0) ?_
        refine g_if_ne (tgt := 43) hC dL_acts_36 (by decide) (by omega) (fun hz3 => ?_) (fun hz3 => ?_)
        · refine g_iload hC dL_acts_43 rfl ?_
          refine g_iconst hC dL_acts_45 rfl ?_
          refine g_ishrT hC dL_acts_46 ?_
          have rv73 := iI_rng (iI (a) >>> (iI (4) &&& 31))
          obtain ⟨v73, ev73⟩ : ∃ y_ : Int, y_ = (iI (a) >>> (iI (4) &&& 31)).toInt := ⟨_, rfl⟩
          rw [← ev73] at rv73 ⊢
          refine g_iload hC dL_acts_47 rfl ?_
          refine g_callS (rest := []) hC (kL_makes hl hLI hA v73 c rv73 rc z (Int.le_refl _) (Or.inl (Int.le_refl _)) gh hR) gc_RL_108 rfl ⟨by decide, by decide⟩ ⟨by decide, by decide⟩ (Nat.le_of_ble_eq_true rfl) rfl dL_acts_49 (fun r gh_ hp => ?_)
          obtain ⟨rfl, hLO⟩ := hp
          refine gV.eqs (st' := [vi (1)]) rfl rfl rfl ?_
          refine g_if_eq (tgt := 59) hC dL_acts_52 (by decide) (by omega) (fun c_52 => False.elim (by revert c_52; decide)) (fun c_52 => ?_)
          refine g_iconst hC dL_acts_55 rfl ?_
          refine g_goto (tgt := 60) hC dL_acts_56 (by decide) ?_
          exact g_bret (b := true) hC hq dL_acts_60 (by decide) (by decide) ⟨rfl, hLO.mono (by omega) (by omega) (Int.le_refl _) (Int.le_refl _)⟩
        · refine g_iconst hC dL_acts_39 rfl ?_
          refine g_goto (tgt := 47) hC dL_acts_40 (by decide) ?_
          refine g_iload hC dL_acts_47 rfl ?_
          refine g_callS (rest := []) hC (kL_makes hl hLI hA 1 c (by decide) rc z (Int.le_refl _) (Or.inl (Int.le_refl _)) gh hR) gc_RL_108 rfl ⟨by decide, by decide⟩ ⟨by decide, by decide⟩ (Nat.le_of_ble_eq_true rfl) rfl dL_acts_49 (fun r gh_ hp => ?_)
          obtain ⟨rfl, hLO⟩ := hp
          refine gV.eqs (st' := [vi (1)]) rfl rfl rfl ?_
          refine g_if_eq (tgt := 59) hC dL_acts_52 (by decide) (by omega) (fun c_52 => False.elim (by revert c_52; decide)) (fun c_52 => ?_)
          refine g_iconst hC dL_acts_55 rfl ?_
          refine g_goto (tgt := 60) hC dL_acts_56 (by decide) ?_
          exact g_bret (b := true) hC hq dL_acts_60 (by decide) (by decide) ⟨rfl, hLO.mono (by omega) (by omega) (Int.le_refl _) (Int.le_refl _)⟩

end Q13
