/-! p16: the law makes a sheet or a place -/
section Q8
set_option maxHeartbeats 4000000 in
set_option maxRecDepth 100000 in
theorem kL_makes {l : Launch} (hl : l.stackTraces = false) {D : gD} {base : Nat} {oa ga pa qa ea : Nat} {ad : Tg → Nat} {z : Nat → Int} {F : Nat → Nat → Int} {ct : Tg → Option gC} {G P Q E : Nat → Int} (hLI : LI ad z F ct G P Q E) (hA : lA ad oa ga pa qa ea) (a c : Int) (ra : -2147483648 ≤ a ∧ a < 2147483648) (rc : -2147483648 ≤ c ∧ c < 2147483648) (zb : Nat → Int) (h3 : zb 3 ≤ z 3) (h11 : zb 11 ≤ z 11 ∨ (a % 2147483648 % 4 = 0 ∧ zb 11 ≤ 1)) (gh : gH) (hR : cR ad ct gh) : gM l D base yL_makes cL_makes 10 (some Jvm.ClassFile.FieldType.boolean) 11 247 21 2057 [.ref oa, .ref ga, .ref pa, .ref qa, vi (a), vi (c)] gh (fun r gh' => r = some (vi 1) ∧ LO oa ga pa qa ea zb (z 0) (G 5) gh') gNo := by
  refine gM.of hl (by decide) (by simp [Value.category]) (Nat.le_of_ble_eq_true rfl) [some (.ref oa), some (.ref ga), some (.ref pa), some (.ref qa), some (vi (a)), some (vi (c)), none, none, none, none] rfl (fun x hC hq => ?_)
  obtain ⟨hCI, ⟨c30, c31, c32, c33⟩, ⟨g0, g1, g2, g3, g4, g5⟩, lP, lQ, lE⟩ := id hLI
  obtain ⟨hS, hI, hE, hQ, h10⟩ := id hCI
  obtain ⟨i0, i1, i3, i11, i22, iw, ip, inn, inm, ish⟩ := id hI
  have f1 : gh ga = some (gI 1 6 (G)) := by have h9_ := hR.1 (30, 0, 0) _ c30; rw [hA.2.1] at h9_; exact h9_
  have f2 : gh pa = some (gI 1 50 (P)) := by have h9_ := hR.1 (31, 0, 0) _ c31; rw [hA.2.2.1] at h9_; exact h9_
  have f3 : gh qa = some (gI 1 12 (Q)) := by have h9_ := hR.1 (32, 0, 0) _ c32; rw [hA.2.2.2.1] at h9_; exact h9_
  have f4 : gh ea = some (gI 1 20 (E)) := by have h9_ := hR.1 (33, 0, 0) _ c33; rw [hA.2.2.2.2] at h9_; exact h9_
  refine g_iload hC dL_makes_0 rfl ?_
  refine g_iconst hC dL_makes_2 rfl ?_
  refine g_callS (rest := []) hC (kL_low hl a 4 ra (by omega) gh ) gc_RL_90 rfl ⟨by decide, by decide⟩ ⟨by decide, by decide⟩ (Nat.le_of_ble_eq_true rfl) rfl dL_makes_3 (fun r g_ hp => ?_)
  obtain ⟨rfl, hgh⟩ := hp
  rw [hgh]
  clear hgh
  obtain ⟨w5, ew5⟩ : ∃ y_ : Int, y_ = a % 2147483648 % 4 := ⟨_, rfl⟩
  have rw5 : 0 ≤ w5 ∧ w5 < 4 := by rw [ew5]; exact ⟨Int.emod_nonneg _ (by omega), Int.emod_lt_of_pos _ (by omega)⟩
  rw [← ew5]
  refine gV.eqs (st' := [vi (w5)]) rfl rfl rfl ?_
  refine g_if_ne (tgt := 133) hC dL_makes_6 (by decide) (by omega) (fun hk => ?_) (fun hk => ?_)
  · obtain ⟨n, hn⟩ : ∃ n : Nat, z 3 = (n : Int) := ⟨(z 3).toNat, by omega⟩
    refine g_iload hC dL_makes_133 rfl ?_
    refine g_bipush (z := 40) hC dL_makes_135 rfl ?_
    refine g_callS (rest := []) hC (kL_low hl c 40 rc (by omega) gh ) gc_RL_90 rfl ⟨by decide, by decide⟩ ⟨by decide, by decide⟩ (Nat.le_of_ble_eq_true rfl) rfl dL_makes_137 (fun r g_ hp => ?_)
    obtain ⟨rfl, hgh⟩ := hp
    rw [hgh]
    clear hgh
    obtain ⟨w6, ew6⟩ : ∃ y_ : Int, y_ = c % 2147483648 % 40 := ⟨_, rfl⟩
    have rw6 : 0 ≤ w6 ∧ w6 < 40 := by rw [ew6]; exact ⟨Int.emod_nonneg _ (by omega), Int.emod_lt_of_pos _ (by omega)⟩
    rw [← ew6]
    refine gV.eqs (st' := [vi (w6)]) rfl rfl rfl ?_
    refine g_bipush (z := 10) hC dL_makes_140 rfl ?_
    refine g_isub hC dL_makes_142 ?_
    obtain ⟨u7, eu7⟩ : ∃ y_ : Int, y_ = (w6) - (10) := ⟨_, rfl⟩
    rw [← eu7]
    refine g_istore (lv' := [some (.ref oa), some (.ref ga), some (.ref pa), some (.ref qa), some (vi (a)), some (vi (c)), some (vi (u7)), none, none, none]) hC dL_makes_143 (by decide) rfl ?_
    refine g_iload hC dL_makes_145 rfl ?_
    refine g_bipush (z := 6) hC dL_makes_147 rfl ?_
    refine g_ishrT hC dL_makes_149 ?_
    have rv8 := iI_rng (iI (c) >>> (iI (6) &&& 31))
    obtain ⟨v8, ev8⟩ : ∃ y_ : Int, y_ = (iI (c) >>> (iI (6) &&& 31)).toInt := ⟨_, rfl⟩
    rw [← ev8] at rv8 ⊢
    refine g_bipush (z := 15) hC dL_makes_150 rfl ?_
    refine g_callS (rest := []) hC (kL_low hl v8 15 rv8 (by omega) gh ) gc_RL_90 rfl ⟨by decide, by decide⟩ ⟨by decide, by decide⟩ (Nat.le_of_ble_eq_true rfl) rfl dL_makes_152 (fun r g_ hp => ?_)
    obtain ⟨rfl, hgh⟩ := hp
    rw [hgh]
    clear hgh
    obtain ⟨w9, ew9⟩ : ∃ y_ : Int, y_ = v8 % 2147483648 % 15 := ⟨_, rfl⟩
    have rw9 : 0 ≤ w9 ∧ w9 < 15 := by rw [ew9]; exact ⟨Int.emod_nonneg _ (by omega), Int.emod_lt_of_pos _ (by omega)⟩
    rw [← ew9]
    refine gV.eqs (st' := [vi (w9)]) rfl rfl rfl ?_
    refine g_istore (lv' := [some (.ref oa), some (.ref ga), some (.ref pa), some (.ref qa), some (vi (a)), some (vi (c)), some (vi (u7)), some (vi (w9)), none, none]) hC dL_makes_155 (by decide) rfl ?_
    refine g_iconst hC dL_makes_157 rfl ?_
    refine g_iload hC dL_makes_158 rfl ?_
    refine g_bipush (z := 10) hC dL_makes_160 rfl ?_
    refine g_ishrT hC dL_makes_162 ?_
    have rv10 := iI_rng (iI (c) >>> (iI (10) &&& 31))
    obtain ⟨v10, ev10⟩ : ∃ y_ : Int, y_ = (iI (c) >>> (iI (10) &&& 31)).toInt := ⟨_, rfl⟩
    rw [← ev10] at rv10 ⊢
    refine g_iconst hC dL_makes_163 rfl ?_
    refine g_callS (rest := [vi (1)]) hC (kL_low hl v10 5 rv10 (by omega) gh ) gc_RL_90 rfl ⟨by decide, by decide⟩ ⟨by decide, by decide⟩ (Nat.le_of_ble_eq_true rfl) rfl dL_makes_164 (fun r g_ hp => ?_)
    obtain ⟨rfl, hgh⟩ := hp
    rw [hgh]
    clear hgh
    obtain ⟨w11, ew11⟩ : ∃ y_ : Int, y_ = v10 % 2147483648 % 5 := ⟨_, rfl⟩
    have rw11 : 0 ≤ w11 ∧ w11 < 5 := by rw [ew11]; exact ⟨Int.emod_nonneg _ (by omega), Int.emod_lt_of_pos _ (by omega)⟩
    rw [← ew11]
    refine gV.eqs (st' := [vi (w11), vi (1)]) rfl rfl rfl ?_
    refine g_iadd hC dL_makes_167 ?_
    obtain ⟨u12, eu12⟩ : ∃ y_ : Int, y_ = (1) + (w11) := ⟨_, rfl⟩
    rw [← eu12]
    refine g_istore (lv' := [some (.ref oa), some (.ref ga), some (.ref pa), some (.ref qa), some (vi (a)), some (vi (c)), some (vi (u7)), some (vi (w9)), some (vi (u12)), none]) hC dL_makes_168 (by decide) rfl ?_
    refine g_ald_n hC dL_makes_170 rfl ?_
    refine g_iconst hC dL_makes_171 rfl ?_
    refine g_ialdK hC (0) dL_makes_172 f1 (by omega) (by omega) (by omega) ?_
    refine g_top (b := (n : Int)) (g0.trans hn) ?_
    refine g_bipush (z := 10) hC dL_makes_173 rfl ?_
    refine g_icmp_ne (tgt := 180) hC dL_makes_175 (by decide) (by omega) (by omega) (fun h10b => ?_) (fun h10b => ?_)
    · refine g_ald_n hC dL_makes_180 rfl ?_
      refine g_iload hC dL_makes_181 rfl ?_
      refine g_iload hC dL_makes_183 rfl ?_
      refine g_iload hC dL_makes_185 rfl ?_
      refine g_callSW (rest := []) hC (kL_place hl hCI hA.1 u7 w9 u12 (by omega) (by omega) (by omega) (by omega) gh hR) gcw_100 rfl ⟨by decide, by decide⟩ ⟨by decide, by decide⟩ (Nat.le_of_ble_eq_true rfl) rfl dL_makes_187 (fun r g2_ hp => ?_)
      obtain ⟨rfl, hx⟩ := hp
      refine gV.eqs (st' := [vi (z 3)]) rfl rfl rfl ?_
      refine g_top (b := (n : Int)) hn ?_
      obtain ⟨ad13, ct14, hR15, hS16, hx17⟩ := hx
      have hA18 := hA.x hx17
      have hCI19 : CI ad13 (gup z 3 (z 3 + 1)) (plF z F u7 w9 u12) ct14 := ⟨hS16, ci_place hI hE hQ (by omega) (by omega) (by omega) (by omega)⟩
      have c20 := (hx17.1 (30, 0, 0) (Or.inr (by decide))).1.trans c30
      have c21 := (hx17.1 (31, 0, 0) (Or.inr (by decide))).1.trans c31
      have c22 := (hx17.1 (32, 0, 0) (Or.inr (by decide))).1.trans c32
      have c23 := (hx17.1 (33, 0, 0) (Or.inr (by decide))).1.trans c33
      have f24 : g2_ ga = some (gI 1 6 (G)) := by have h9_ := hR15.1 (30, 0, 0) _ c20; rw [hA18.2.1] at h9_; exact h9_
      have f25 : g2_ pa = some (gI 1 50 (P)) := by have h9_ := hR15.1 (31, 0, 0) _ c21; rw [hA18.2.2.1] at h9_; exact h9_
      have f26 : g2_ qa = some (gI 1 12 (Q)) := by have h9_ := hR15.1 (32, 0, 0) _ c22; rw [hA18.2.2.2.1] at h9_; exact h9_
      have f27 : g2_ ea = some (gI 1 20 (E)) := by have h9_ := hR15.1 (33, 0, 0) _ c23; rw [hA18.2.2.2.2] at h9_; exact h9_
      refine g_istore (lv' := [some (.ref oa), some (.ref ga), some (.ref pa), some (.ref qa), some (vi (a)), some (vi (c)), some (vi (u7)), some (vi (w9)), some (vi (u12)), some (vi ((n : Int)))]) hC dL_makes_190 (by decide) rfl ?_
      refine g_ald_n hC dL_makes_192 rfl ?_
      refine g_iconst hC dL_makes_193 rfl ?_
      refine g_ald_n hC dL_makes_194 rfl ?_
      refine g_iconst hC dL_makes_195 rfl ?_
      refine g_ialdK hC (0) dL_makes_196 f24 (by omega) (by omega) (by omega) ?_
      refine g_top (b := (n : Int)) (g0.trans hn) ?_
      refine g_imul hC dL_makes_197 ?_
      refine g_iload hC dL_makes_198 rfl ?_
      refine g_iastK hC (5 * n) dL_makes_200 f25 (by omega) (by omega) (by omega) ?_
      obtain ⟨P28, eP28⟩ : ∃ y_, y_ = gup (P) (5 * n) (u7) := ⟨_, rfl⟩
      rw [← eP28]
      obtain ⟨gh29, egh29⟩ : ∃ g_, g_ = gset g2_ pa (gI 1 50 P28) := ⟨_, rfl⟩
      rw [← egh29]
      have hR30 := hR15.put c21 (gI 1 50 P28)
      rw [hA18.2.2.1, ← egh29] at hR30
      have hCI31 := hCI19.put (31, 0, 0) (by decide) (gI 1 50 P28)
      obtain ⟨ct32, ect32⟩ : ∃ y_, y_ = cup ct14 (31, 0, 0) (gI 1 50 P28) := ⟨_, rfl⟩
      rw [← ect32] at hR30 hCI31
      have c33 : ct32 (30, 0, 0) = some (gI 1 6 G) := by rw [ect32, cup_ne (by simp)]; exact c20
      have c34 : ct32 (31, 0, 0) = some (gI 1 50 P28) := by rw [ect32]; exact cup_eq
      have c35 : ct32 (32, 0, 0) = some (gI 1 12 Q) := by rw [ect32, cup_ne (by simp)]; exact c22
      have c36 : ct32 (33, 0, 0) = some (gI 1 20 E) := by rw [ect32, cup_ne (by simp)]; exact c23
      have n37 : P28 (5 * n) = u7 := by rw [eP28]; exact gup_eq
      have f38 : gh29 ga = some (gI 1 6 (G)) := by have h9_ := hR30.1 (30, 0, 0) _ c33; rw [hA18.2.1] at h9_; exact h9_
      have f39 : gh29 pa = some (gI 1 50 (P28)) := by have h9_ := hR30.1 (31, 0, 0) _ c34; rw [hA18.2.2.1] at h9_; exact h9_
      have f40 : gh29 qa = some (gI 1 12 (Q)) := by have h9_ := hR30.1 (32, 0, 0) _ c35; rw [hA18.2.2.2.1] at h9_; exact h9_
      have f41 : gh29 ea = some (gI 1 20 (E)) := by have h9_ := hR30.1 (33, 0, 0) _ c36; rw [hA18.2.2.2.2] at h9_; exact h9_
      refine g_ald_n hC dL_makes_201 rfl ?_
      refine g_iconst hC dL_makes_202 rfl ?_
      refine g_ald_n hC dL_makes_203 rfl ?_
      refine g_iconst hC dL_makes_204 rfl ?_
      refine g_ialdK hC (0) dL_makes_205 f38 (by omega) (by omega) (by omega) ?_
      refine g_top (b := (n : Int)) (g0.trans hn) ?_
      refine g_imul hC dL_makes_206 ?_
      refine g_iconst hC dL_makes_207 rfl ?_
      refine g_iadd hC dL_makes_208 ?_
      refine g_iload hC dL_makes_209 rfl ?_
      refine g_iastK hC (5 * n + 1) dL_makes_211 f39 (by omega) (by omega) (by omega) ?_
      obtain ⟨P42, eP42⟩ : ∃ y_, y_ = gup (P28) (5 * n + 1) (w9) := ⟨_, rfl⟩
      rw [← eP42]
      obtain ⟨gh43, egh43⟩ : ∃ g_, g_ = gset gh29 pa (gI 1 50 P42) := ⟨_, rfl⟩
      rw [← egh43]
      have hR44 := hR30.put c34 (gI 1 50 P42)
      rw [hA18.2.2.1, ← egh43] at hR44
      have hCI45 := hCI31.put (31, 0, 0) (by decide) (gI 1 50 P42)
      obtain ⟨ct46, ect46⟩ : ∃ y_, y_ = cup ct32 (31, 0, 0) (gI 1 50 P42) := ⟨_, rfl⟩
      rw [← ect46] at hR44 hCI45
      have c47 : ct46 (30, 0, 0) = some (gI 1 6 G) := by rw [ect46, cup_ne (by simp)]; exact c33
      have c48 : ct46 (31, 0, 0) = some (gI 1 50 P42) := by rw [ect46]; exact cup_eq
      have c49 : ct46 (32, 0, 0) = some (gI 1 12 Q) := by rw [ect46, cup_ne (by simp)]; exact c35
      have c50 : ct46 (33, 0, 0) = some (gI 1 20 E) := by rw [ect46, cup_ne (by simp)]; exact c36
      have n51 : P42 (5 * n) = u7 := by rw [eP42]; exact (gup_ne (by omega)).trans (n37)
      have n52 : P42 (5 * n + 1) = w9 := by rw [eP42]; exact gup_eq
      have f53 : gh43 ga = some (gI 1 6 (G)) := by have h9_ := hR44.1 (30, 0, 0) _ c47; rw [hA18.2.1] at h9_; exact h9_
      have f54 : gh43 pa = some (gI 1 50 (P42)) := by have h9_ := hR44.1 (31, 0, 0) _ c48; rw [hA18.2.2.1] at h9_; exact h9_
      have f55 : gh43 qa = some (gI 1 12 (Q)) := by have h9_ := hR44.1 (32, 0, 0) _ c49; rw [hA18.2.2.2.1] at h9_; exact h9_
      have f56 : gh43 ea = some (gI 1 20 (E)) := by have h9_ := hR44.1 (33, 0, 0) _ c50; rw [hA18.2.2.2.2] at h9_; exact h9_
      refine g_ald_n hC dL_makes_212 rfl ?_
      refine g_iconst hC dL_makes_213 rfl ?_
      refine g_ald_n hC dL_makes_214 rfl ?_
      refine g_iconst hC dL_makes_215 rfl ?_
      refine g_ialdK hC (0) dL_makes_216 f53 (by omega) (by omega) (by omega) ?_
      refine g_top (b := (n : Int)) (g0.trans hn) ?_
      refine g_imul hC dL_makes_217 ?_
      refine g_iconst hC dL_makes_218 rfl ?_
      refine g_iadd hC dL_makes_219 ?_
      refine g_iload hC dL_makes_220 rfl ?_
      refine g_iastK hC (5 * n + 2) dL_makes_222 f54 (by omega) (by omega) (by omega) ?_
      obtain ⟨P57, eP57⟩ : ∃ y_, y_ = gup (P42) (5 * n + 2) (u12) := ⟨_, rfl⟩
      rw [← eP57]
      obtain ⟨gh58, egh58⟩ : ∃ g_, g_ = gset gh43 pa (gI 1 50 P57) := ⟨_, rfl⟩
      rw [← egh58]
      have hR59 := hR44.put c48 (gI 1 50 P57)
      rw [hA18.2.2.1, ← egh58] at hR59
      have hCI60 := hCI45.put (31, 0, 0) (by decide) (gI 1 50 P57)
      obtain ⟨ct61, ect61⟩ : ∃ y_, y_ = cup ct46 (31, 0, 0) (gI 1 50 P57) := ⟨_, rfl⟩
      rw [← ect61] at hR59 hCI60
      have c62 : ct61 (30, 0, 0) = some (gI 1 6 G) := by rw [ect61, cup_ne (by simp)]; exact c47
      have c63 : ct61 (31, 0, 0) = some (gI 1 50 P57) := by rw [ect61]; exact cup_eq
      have c64 : ct61 (32, 0, 0) = some (gI 1 12 Q) := by rw [ect61, cup_ne (by simp)]; exact c49
      have c65 : ct61 (33, 0, 0) = some (gI 1 20 E) := by rw [ect61, cup_ne (by simp)]; exact c50
      have n66 : P57 (5 * n) = u7 := by rw [eP57]; exact (gup_ne (by omega)).trans (n51)
      have n67 : P57 (5 * n + 1) = w9 := by rw [eP57]; exact (gup_ne (by omega)).trans (n52)
      have n68 : P57 (5 * n + 2) = u12 := by rw [eP57]; exact gup_eq
      have f69 : gh58 ga = some (gI 1 6 (G)) := by have h9_ := hR59.1 (30, 0, 0) _ c62; rw [hA18.2.1] at h9_; exact h9_
      have f70 : gh58 pa = some (gI 1 50 (P57)) := by have h9_ := hR59.1 (31, 0, 0) _ c63; rw [hA18.2.2.1] at h9_; exact h9_
      have f71 : gh58 qa = some (gI 1 12 (Q)) := by have h9_ := hR59.1 (32, 0, 0) _ c64; rw [hA18.2.2.2.1] at h9_; exact h9_
      have f72 : gh58 ea = some (gI 1 20 (E)) := by have h9_ := hR59.1 (33, 0, 0) _ c65; rw [hA18.2.2.2.2] at h9_; exact h9_
      refine g_ald_n hC dL_makes_223 rfl ?_
      refine g_iconst hC dL_makes_224 rfl ?_
      refine g_dup2 hC dL_makes_225 rfl rfl ?_
      refine g_ialdK hC (0) dL_makes_226 f69 (by omega) (by omega) (by omega) ?_
      refine g_top (b := (n : Int)) (g0.trans hn) ?_
      refine g_iconst hC dL_makes_227 rfl ?_
      refine g_iadd hC dL_makes_228 ?_
      refine g_iastK hC (0) dL_makes_229 f69 (by omega) (by omega) (by omega) ?_
      obtain ⟨G73, eG73⟩ : ∃ y_, y_ = gup (G) (0) (((n : Int)) + (1)) := ⟨_, rfl⟩
      rw [← eG73]
      obtain ⟨gh74, egh74⟩ : ∃ g_, g_ = gset gh58 ga (gI 1 6 G73) := ⟨_, rfl⟩
      rw [← egh74]
      have hR75 := hR59.put c62 (gI 1 6 G73)
      rw [hA18.2.1, ← egh74] at hR75
      have hCI76 := hCI60.put (30, 0, 0) (by decide) (gI 1 6 G73)
      obtain ⟨ct77, ect77⟩ : ∃ y_, y_ = cup ct61 (30, 0, 0) (gI 1 6 G73) := ⟨_, rfl⟩
      rw [← ect77] at hR75 hCI76
      have c78 : ct77 (30, 0, 0) = some (gI 1 6 G73) := by rw [ect77]; exact cup_eq
      have c79 : ct77 (31, 0, 0) = some (gI 1 50 P57) := by rw [ect77, cup_ne (by simp)]; exact c63
      have c80 : ct77 (32, 0, 0) = some (gI 1 12 Q) := by rw [ect77, cup_ne (by simp)]; exact c64
      have c81 : ct77 (33, 0, 0) = some (gI 1 20 E) := by rw [ect77, cup_ne (by simp)]; exact c65
      have n82 : G73 (1) = z 11 := by rw [eG73]; exact (gup_ne (by omega)).trans (g1)
      have n83 : G73 (2) = z 22 := by rw [eG73]; exact (gup_ne (by omega)).trans (g2)
      have n84 : G73 (3) = z 0 := by rw [eG73]; exact (gup_ne (by omega)).trans (g3)
      have n85 : G73 (4) = z 1 := by rw [eG73]; exact (gup_ne (by omega)).trans (g4)
      have n86 : G73 (5) = G 5 := by rw [eG73]; exact (gup_ne (by omega)).trans (rfl)
      have n87 : G73 (0) = ((n : Int)) + (1) := by rw [eG73]; exact gup_eq
      have f88 : gh74 ga = some (gI 1 6 (G73)) := by have h9_ := hR75.1 (30, 0, 0) _ c78; rw [hA18.2.1] at h9_; exact h9_
      have f89 : gh74 pa = some (gI 1 50 (P57)) := by have h9_ := hR75.1 (31, 0, 0) _ c79; rw [hA18.2.2.1] at h9_; exact h9_
      have f90 : gh74 qa = some (gI 1 12 (Q)) := by have h9_ := hR75.1 (32, 0, 0) _ c80; rw [hA18.2.2.2.1] at h9_; exact h9_
      have f91 : gh74 ea = some (gI 1 20 (E)) := by have h9_ := hR75.1 (33, 0, 0) _ c81; rw [hA18.2.2.2.2] at h9_; exact h9_
      refine g_iload hC dL_makes_230 rfl ?_
      refine g_ald_n hC dL_makes_232 rfl ?_
      refine g_iconst hC dL_makes_233 rfl ?_
      refine g_ialdK hC (0) dL_makes_234 f88 (by omega) (by omega) (by omega) ?_
      refine g_top (b := ((n : Int)) + (1)) (n87) ?_
      refine g_iconst hC dL_makes_235 rfl ?_
      refine g_isub hC dL_makes_236 ?_
      refine g_icmp_ne (tgt := 259) hC dL_makes_237 (by decide) (by omega) (by omega) (fun c_237 => False.elim (by omega)) (fun c_237 => ?_)
      refine g_ald_n hC dL_makes_240 rfl ?_
      refine g_iload hC dL_makes_241 rfl ?_
      refine g_sipush (z := 10000) hC dL_makes_243 rfl ?_
      refine g_iconst hC dL_makes_246 rfl ?_
      have s1 : spV (plF z F u7 w9 u12) 10000 0 n = 32 := spV_none (nmOf_0 (by rw [plF_ne (k := 7) (by decide)]; exact (inn n (by omega)).2.2 (by omega)))
      refine g_callSW (rest := []) hC (kL_spelled hl hCI76 hA18.1 n (by show (n : Int) < z 3 + 1; omega) 10000 0 (by decide) (by decide) gh74 hR75) gcw_88 rfl ⟨by decide, by decide⟩ ⟨by decide, by decide⟩ (Nat.le_of_ble_eq_true rfl) rfl dL_makes_247 (fun r g_ hp => ?_)
      obtain ⟨rfl, hgh⟩ := hp
      rw [hgh]
      clear hgh
      refine gV.eqs (st' := [vi (spV (plF z F u7 w9 u12) 10000 0 n)]) rfl rfl rfl ?_
      refine g_bipush (z := 32) hC dL_makes_250 rfl ?_
      refine g_icmp_ne (tgt := 259) hC dL_makes_252 (by decide) (by omega) (by omega) (fun c_252 => False.elim (by omega)) (fun c_252 => ?_)
      refine g_iconst hC dL_makes_255 rfl ?_
      refine g_goto (tgt := 260) hC dL_makes_256 (by decide) ?_
      exact g_bret (b := true) hC hq dL_makes_260 (by decide) (by decide) ⟨rfl, ad13, ct77, _, _, G73, P57, Q, E, hR75, ⟨hCI76, ⟨c78, c79, c80, c81⟩, by rw [eG73, eP57, eP42, eP28]; exact lw_place hI hE hQ hLI.2.2 hn (by omega)⟩, hA18, (by show zb 3 ≤ z 3 + 1; omega), (by show zb 11 ≤ z 11; omega), Int.le_refl (z 0), by rw [n86]; exact Int.le_refl _⟩
    · refine g_iconst hC dL_makes_178 rfl ?_
      exact g_bret (b := true) hC hq dL_makes_179 (by decide) (by decide) ⟨rfl, ad, ct, z, F, G, P, Q, E, hR, hLI, hA, by omega, by omega, Int.le_refl _, Int.le_refl _⟩
  · obtain ⟨n, hn⟩ : ∃ n : Nat, z 11 = (n : Int) := ⟨(z 11).toNat, by omega⟩
    refine g_iload hC dL_makes_9 rfl ?_
    refine g_iconst hC dL_makes_11 rfl ?_
    refine g_callS (rest := []) hC (kL_low hl c 4 rc (by omega) gh ) gc_RL_90 rfl ⟨by decide, by decide⟩ ⟨by decide, by decide⟩ (Nat.le_of_ble_eq_true rfl) rfl dL_makes_12 (fun r g_ hp => ?_)
    obtain ⟨rfl, hgh⟩ := hp
    rw [hgh]
    clear hgh
    obtain ⟨w92, ew92⟩ : ∃ y_ : Int, y_ = c % 2147483648 % 4 := ⟨_, rfl⟩
    have rw92 : 0 ≤ w92 ∧ w92 < 4 := by rw [ew92]; exact ⟨Int.emod_nonneg _ (by omega), Int.emod_lt_of_pos _ (by omega)⟩
    rw [← ew92]
    refine gV.eqs (st' := [vi (w92)]) rfl rfl rfl ?_
    refine g_bipush (z := 10) hC dL_makes_15 rfl ?_
    refine g_imul hC dL_makes_17 ?_
    refine g_bipush (z := 20) hC dL_makes_18 rfl ?_
    refine g_isub hC dL_makes_20 ?_
    obtain ⟨u93, eu93⟩ : ∃ y_ : Int, y_ = ((w92) * (10)) - (20) := ⟨_, rfl⟩
    rw [← eu93]
    refine g_istore (lv' := [some (.ref oa), some (.ref ga), some (.ref pa), some (.ref qa), some (vi (a)), some (vi (c)), some (vi (u93)), none, none, none]) hC dL_makes_21 (by decide) rfl ?_
    refine g_iload hC dL_makes_23 rfl ?_
    refine g_iconst hC dL_makes_25 rfl ?_
    refine g_ishrT hC dL_makes_26 ?_
    have rv94 := iI_rng (iI (c) >>> (iI (2) &&& 31))
    obtain ⟨v94, ev94⟩ : ∃ y_ : Int, y_ = (iI (c) >>> (iI (2) &&& 31)).toInt := ⟨_, rfl⟩
    rw [← ev94] at rv94 ⊢
    refine g_iconst hC dL_makes_27 rfl ?_
    refine g_callS (rest := []) hC (kL_low hl v94 3 rv94 (by omega) gh ) gc_RL_90 rfl ⟨by decide, by decide⟩ ⟨by decide, by decide⟩ (Nat.le_of_ble_eq_true rfl) rfl dL_makes_28 (fun r g_ hp => ?_)
    obtain ⟨rfl, hgh⟩ := hp
    rw [hgh]
    clear hgh
    obtain ⟨w95, ew95⟩ : ∃ y_ : Int, y_ = v94 % 2147483648 % 3 := ⟨_, rfl⟩
    have rw95 : 0 ≤ w95 ∧ w95 < 3 := by rw [ew95]; exact ⟨Int.emod_nonneg _ (by omega), Int.emod_lt_of_pos _ (by omega)⟩
    rw [← ew95]
    refine gV.eqs (st' := [vi (w95)]) rfl rfl rfl ?_
    refine g_iconst hC dL_makes_31 rfl ?_
    refine g_imul hC dL_makes_32 ?_
    refine g_iconst hC dL_makes_33 rfl ?_
    refine g_isub hC dL_makes_34 ?_
    obtain ⟨u96, eu96⟩ : ∃ y_ : Int, y_ = ((w95) * (5)) - (5) := ⟨_, rfl⟩
    rw [← eu96]
    refine g_istore (lv' := [some (.ref oa), some (.ref ga), some (.ref pa), some (.ref qa), some (vi (a)), some (vi (c)), some (vi (u93)), some (vi (u96)), none, none]) hC dL_makes_35 (by decide) rfl ?_
    refine g_iload hC dL_makes_37 rfl ?_
    refine g_iconst hC dL_makes_39 rfl ?_
    refine g_ishrT hC dL_makes_40 ?_
    have rv97 := iI_rng (iI (c) >>> (iI (4) &&& 31))
    obtain ⟨v97, ev97⟩ : ∃ y_ : Int, y_ = (iI (c) >>> (iI (4) &&& 31)).toInt := ⟨_, rfl⟩
    rw [← ev97] at rv97 ⊢
    refine g_iconst hC dL_makes_41 rfl ?_
    refine g_callS (rest := []) hC (kL_low hl v97 2 rv97 (by omega) gh ) gc_RL_90 rfl ⟨by decide, by decide⟩ ⟨by decide, by decide⟩ (Nat.le_of_ble_eq_true rfl) rfl dL_makes_42 (fun r g_ hp => ?_)
    obtain ⟨rfl, hgh⟩ := hp
    rw [hgh]
    clear hgh
    obtain ⟨w98, ew98⟩ : ∃ y_ : Int, y_ = v97 % 2147483648 % 2 := ⟨_, rfl⟩
    have rw98 : 0 ≤ w98 ∧ w98 < 2 := by rw [ew98]; exact ⟨Int.emod_nonneg _ (by omega), Int.emod_lt_of_pos _ (by omega)⟩
    rw [← ew98]
    refine gV.eqs (st' := [vi (w98)]) rfl rfl rfl ?_
    refine g_istore (lv' := [some (.ref oa), some (.ref ga), some (.ref pa), some (.ref qa), some (vi (a)), some (vi (c)), some (vi (u93)), some (vi (u96)), some (vi (w98)), none]) hC dL_makes_45 (by decide) rfl ?_
    refine g_ald_n hC dL_makes_47 rfl ?_
    refine g_iload hC dL_makes_48 rfl ?_
    refine g_iload hC dL_makes_50 rfl ?_
    refine g_iload hC dL_makes_52 rfl ?_
    refine g_callSW (rest := []) hC (kL_sheet hl hCI hA.1 u93 u96 w98 (by omega) (by omega) (by omega) gh hR) gcw_98 rfl ⟨by decide, by decide⟩ ⟨by decide, by decide⟩ (Nat.le_of_ble_eq_true rfl) rfl dL_makes_54 (fun r g2_ hp => ?_)
    rcases hp with ⟨h4, rfl, hx⟩ | ⟨h4, rfl, hgh⟩
    · refine gV.eqs (st' := [vi (z 11)]) rfl rfl rfl ?_
      obtain ⟨ad99, ct100, hR101, hS102, hx103⟩ := hx
      have hA104 := hA.x hx103
      have hCI105 : CI ad99 (gup z 11 (z 11 + 1)) (shF z F u93 u96 w98) ct100 := ⟨hS102, ci_sheet hI hE hQ h10 h4 (by omega) (by omega) (by omega)⟩
      have c106 := (hx103.1 (30, 0, 0) (Or.inr (by decide))).1.trans c30
      have c107 := (hx103.1 (31, 0, 0) (Or.inr (by decide))).1.trans c31
      have c108 := (hx103.1 (32, 0, 0) (Or.inr (by decide))).1.trans c32
      have c109 := (hx103.1 (33, 0, 0) (Or.inr (by decide))).1.trans c33
      have f110 : g2_ ga = some (gI 1 6 (G)) := by have h9_ := hR101.1 (30, 0, 0) _ c106; rw [hA104.2.1] at h9_; exact h9_
      have f111 : g2_ pa = some (gI 1 50 (P)) := by have h9_ := hR101.1 (31, 0, 0) _ c107; rw [hA104.2.2.1] at h9_; exact h9_
      have f112 : g2_ qa = some (gI 1 12 (Q)) := by have h9_ := hR101.1 (32, 0, 0) _ c108; rw [hA104.2.2.2.1] at h9_; exact h9_
      have f113 : g2_ ea = some (gI 1 20 (E)) := by have h9_ := hR101.1 (33, 0, 0) _ c109; rw [hA104.2.2.2.2] at h9_; exact h9_
      refine g_istore (lv' := [some (.ref oa), some (.ref ga), some (.ref pa), some (.ref qa), some (vi (a)), some (vi (c)), some (vi (u93)), some (vi (u96)), some (vi (w98)), some (vi (z 11))]) hC dL_makes_57 (by decide) rfl ?_
      refine g_ald_n hC dL_makes_59 rfl ?_
      refine g_iconst hC dL_makes_60 rfl ?_
      refine g_ialdK hC (1) dL_makes_61 f110 (by omega) (by omega) (by omega) ?_
      refine g_top (b := (n : Int)) (g1.trans hn) ?_
      refine g_iconst hC dL_makes_62 rfl ?_
      refine g_icmp_ne (tgt := 79) hC dL_makes_63 (by decide) (by omega) (by omega) (fun c_63 => ?_) (fun c_63 => False.elim (by omega))
      refine g_ald_n hC dL_makes_79 rfl ?_
      refine g_iconst hC dL_makes_80 rfl ?_
      refine g_ald_n hC dL_makes_81 rfl ?_
      refine g_iconst hC dL_makes_82 rfl ?_
      refine g_ialdK hC (1) dL_makes_83 f110 (by omega) (by omega) (by omega) ?_
      refine g_top (b := (n : Int)) (g1.trans hn) ?_
      refine g_imul hC dL_makes_84 ?_
      refine g_iload hC dL_makes_85 rfl ?_
      refine g_iastK hC (3 * n) dL_makes_87 f112 (by omega) (by omega) (by omega) ?_
      obtain ⟨Q114, eQ114⟩ : ∃ y_, y_ = gup (Q) (3 * n) (u93) := ⟨_, rfl⟩
      rw [← eQ114]
      obtain ⟨gh115, egh115⟩ : ∃ g_, g_ = gset g2_ qa (gI 1 12 Q114) := ⟨_, rfl⟩
      rw [← egh115]
      have hR116 := hR101.put c108 (gI 1 12 Q114)
      rw [hA104.2.2.2.1, ← egh115] at hR116
      have hCI117 := hCI105.put (32, 0, 0) (by decide) (gI 1 12 Q114)
      obtain ⟨ct118, ect118⟩ : ∃ y_, y_ = cup ct100 (32, 0, 0) (gI 1 12 Q114) := ⟨_, rfl⟩
      rw [← ect118] at hR116 hCI117
      have c119 : ct118 (30, 0, 0) = some (gI 1 6 G) := by rw [ect118, cup_ne (by simp)]; exact c106
      have c120 : ct118 (31, 0, 0) = some (gI 1 50 P) := by rw [ect118, cup_ne (by simp)]; exact c107
      have c121 : ct118 (32, 0, 0) = some (gI 1 12 Q114) := by rw [ect118]; exact cup_eq
      have c122 : ct118 (33, 0, 0) = some (gI 1 20 E) := by rw [ect118, cup_ne (by simp)]; exact c109
      have n123 : Q114 (3 * n) = u93 := by rw [eQ114]; exact gup_eq
      have f124 : gh115 ga = some (gI 1 6 (G)) := by have h9_ := hR116.1 (30, 0, 0) _ c119; rw [hA104.2.1] at h9_; exact h9_
      have f125 : gh115 pa = some (gI 1 50 (P)) := by have h9_ := hR116.1 (31, 0, 0) _ c120; rw [hA104.2.2.1] at h9_; exact h9_
      have f126 : gh115 qa = some (gI 1 12 (Q114)) := by have h9_ := hR116.1 (32, 0, 0) _ c121; rw [hA104.2.2.2.1] at h9_; exact h9_
      have f127 : gh115 ea = some (gI 1 20 (E)) := by have h9_ := hR116.1 (33, 0, 0) _ c122; rw [hA104.2.2.2.2] at h9_; exact h9_
      refine g_ald_n hC dL_makes_88 rfl ?_
      refine g_iconst hC dL_makes_89 rfl ?_
      refine g_ald_n hC dL_makes_90 rfl ?_
      refine g_iconst hC dL_makes_91 rfl ?_
      refine g_ialdK hC (1) dL_makes_92 f124 (by omega) (by omega) (by omega) ?_
      refine g_top (b := (n : Int)) (g1.trans hn) ?_
      refine g_imul hC dL_makes_93 ?_
      refine g_iconst hC dL_makes_94 rfl ?_
      refine g_iadd hC dL_makes_95 ?_
      refine g_iload hC dL_makes_96 rfl ?_
      refine g_iastK hC (3 * n + 1) dL_makes_98 f126 (by omega) (by omega) (by omega) ?_
      obtain ⟨Q128, eQ128⟩ : ∃ y_, y_ = gup (Q114) (3 * n + 1) (u96) := ⟨_, rfl⟩
      rw [← eQ128]
      obtain ⟨gh129, egh129⟩ : ∃ g_, g_ = gset gh115 qa (gI 1 12 Q128) := ⟨_, rfl⟩
      rw [← egh129]
      have hR130 := hR116.put c121 (gI 1 12 Q128)
      rw [hA104.2.2.2.1, ← egh129] at hR130
      have hCI131 := hCI117.put (32, 0, 0) (by decide) (gI 1 12 Q128)
      obtain ⟨ct132, ect132⟩ : ∃ y_, y_ = cup ct118 (32, 0, 0) (gI 1 12 Q128) := ⟨_, rfl⟩
      rw [← ect132] at hR130 hCI131
      have c133 : ct132 (30, 0, 0) = some (gI 1 6 G) := by rw [ect132, cup_ne (by simp)]; exact c119
      have c134 : ct132 (31, 0, 0) = some (gI 1 50 P) := by rw [ect132, cup_ne (by simp)]; exact c120
      have c135 : ct132 (32, 0, 0) = some (gI 1 12 Q128) := by rw [ect132]; exact cup_eq
      have c136 : ct132 (33, 0, 0) = some (gI 1 20 E) := by rw [ect132, cup_ne (by simp)]; exact c122
      have n137 : Q128 (3 * n) = u93 := by rw [eQ128]; exact (gup_ne (by omega)).trans (n123)
      have n138 : Q128 (3 * n + 1) = u96 := by rw [eQ128]; exact gup_eq
      have f139 : gh129 ga = some (gI 1 6 (G)) := by have h9_ := hR130.1 (30, 0, 0) _ c133; rw [hA104.2.1] at h9_; exact h9_
      have f140 : gh129 pa = some (gI 1 50 (P)) := by have h9_ := hR130.1 (31, 0, 0) _ c134; rw [hA104.2.2.1] at h9_; exact h9_
      have f141 : gh129 qa = some (gI 1 12 (Q128)) := by have h9_ := hR130.1 (32, 0, 0) _ c135; rw [hA104.2.2.2.1] at h9_; exact h9_
      have f142 : gh129 ea = some (gI 1 20 (E)) := by have h9_ := hR130.1 (33, 0, 0) _ c136; rw [hA104.2.2.2.2] at h9_; exact h9_
      refine g_ald_n hC dL_makes_99 rfl ?_
      refine g_iconst hC dL_makes_100 rfl ?_
      refine g_ald_n hC dL_makes_101 rfl ?_
      refine g_iconst hC dL_makes_102 rfl ?_
      refine g_ialdK hC (1) dL_makes_103 f139 (by omega) (by omega) (by omega) ?_
      refine g_top (b := (n : Int)) (g1.trans hn) ?_
      refine g_imul hC dL_makes_104 ?_
      refine g_iconst hC dL_makes_105 rfl ?_
      refine g_iadd hC dL_makes_106 ?_
      refine g_iload hC dL_makes_107 rfl ?_
      refine g_iastK hC (3 * n + 2) dL_makes_109 f141 (by omega) (by omega) (by omega) ?_
      obtain ⟨Q143, eQ143⟩ : ∃ y_, y_ = gup (Q128) (3 * n + 2) (w98) := ⟨_, rfl⟩
      rw [← eQ143]
      obtain ⟨gh144, egh144⟩ : ∃ g_, g_ = gset gh129 qa (gI 1 12 Q143) := ⟨_, rfl⟩
      rw [← egh144]
      have hR145 := hR130.put c135 (gI 1 12 Q143)
      rw [hA104.2.2.2.1, ← egh144] at hR145
      have hCI146 := hCI131.put (32, 0, 0) (by decide) (gI 1 12 Q143)
      obtain ⟨ct147, ect147⟩ : ∃ y_, y_ = cup ct132 (32, 0, 0) (gI 1 12 Q143) := ⟨_, rfl⟩
      rw [← ect147] at hR145 hCI146
      have c148 : ct147 (30, 0, 0) = some (gI 1 6 G) := by rw [ect147, cup_ne (by simp)]; exact c133
      have c149 : ct147 (31, 0, 0) = some (gI 1 50 P) := by rw [ect147, cup_ne (by simp)]; exact c134
      have c150 : ct147 (32, 0, 0) = some (gI 1 12 Q143) := by rw [ect147]; exact cup_eq
      have c151 : ct147 (33, 0, 0) = some (gI 1 20 E) := by rw [ect147, cup_ne (by simp)]; exact c136
      have n152 : Q143 (3 * n) = u93 := by rw [eQ143]; exact (gup_ne (by omega)).trans (n137)
      have n153 : Q143 (3 * n + 1) = u96 := by rw [eQ143]; exact (gup_ne (by omega)).trans (n138)
      have n154 : Q143 (3 * n + 2) = w98 := by rw [eQ143]; exact gup_eq
      have f155 : gh144 ga = some (gI 1 6 (G)) := by have h9_ := hR145.1 (30, 0, 0) _ c148; rw [hA104.2.1] at h9_; exact h9_
      have f156 : gh144 pa = some (gI 1 50 (P)) := by have h9_ := hR145.1 (31, 0, 0) _ c149; rw [hA104.2.2.1] at h9_; exact h9_
      have f157 : gh144 qa = some (gI 1 12 (Q143)) := by have h9_ := hR145.1 (32, 0, 0) _ c150; rw [hA104.2.2.2.1] at h9_; exact h9_
      have f158 : gh144 ea = some (gI 1 20 (E)) := by have h9_ := hR145.1 (33, 0, 0) _ c151; rw [hA104.2.2.2.2] at h9_; exact h9_
      refine g_ald_n hC dL_makes_110 rfl ?_
      refine g_iconst hC dL_makes_111 rfl ?_
      refine g_dup2 hC dL_makes_112 rfl rfl ?_
      refine g_ialdK hC (1) dL_makes_113 f155 (by omega) (by omega) (by omega) ?_
      refine g_top (b := (n : Int)) (g1.trans hn) ?_
      refine g_iconst hC dL_makes_114 rfl ?_
      refine g_iadd hC dL_makes_115 ?_
      refine g_iastK hC (1) dL_makes_116 f155 (by omega) (by omega) (by omega) ?_
      obtain ⟨G159, eG159⟩ : ∃ y_, y_ = gup (G) (1) (((n : Int)) + (1)) := ⟨_, rfl⟩
      rw [← eG159]
      obtain ⟨gh160, egh160⟩ : ∃ g_, g_ = gset gh144 ga (gI 1 6 G159) := ⟨_, rfl⟩
      rw [← egh160]
      have hR161 := hR145.put c148 (gI 1 6 G159)
      rw [hA104.2.1, ← egh160] at hR161
      have hCI162 := hCI146.put (30, 0, 0) (by decide) (gI 1 6 G159)
      obtain ⟨ct163, ect163⟩ : ∃ y_, y_ = cup ct147 (30, 0, 0) (gI 1 6 G159) := ⟨_, rfl⟩
      rw [← ect163] at hR161 hCI162
      have c164 : ct163 (30, 0, 0) = some (gI 1 6 G159) := by rw [ect163]; exact cup_eq
      have c165 : ct163 (31, 0, 0) = some (gI 1 50 P) := by rw [ect163, cup_ne (by simp)]; exact c149
      have c166 : ct163 (32, 0, 0) = some (gI 1 12 Q143) := by rw [ect163, cup_ne (by simp)]; exact c150
      have c167 : ct163 (33, 0, 0) = some (gI 1 20 E) := by rw [ect163, cup_ne (by simp)]; exact c151
      have n168 : G159 (0) = z 3 := by rw [eG159]; exact (gup_ne (by omega)).trans (g0)
      have n169 : G159 (2) = z 22 := by rw [eG159]; exact (gup_ne (by omega)).trans (g2)
      have n170 : G159 (3) = z 0 := by rw [eG159]; exact (gup_ne (by omega)).trans (g3)
      have n171 : G159 (4) = z 1 := by rw [eG159]; exact (gup_ne (by omega)).trans (g4)
      have n172 : G159 (5) = G 5 := by rw [eG159]; exact (gup_ne (by omega)).trans (rfl)
      have n173 : G159 (1) = ((n : Int)) + (1) := by rw [eG159]; exact gup_eq
      have f174 : gh160 ga = some (gI 1 6 (G159)) := by have h9_ := hR161.1 (30, 0, 0) _ c164; rw [hA104.2.1] at h9_; exact h9_
      have f175 : gh160 pa = some (gI 1 50 (P)) := by have h9_ := hR161.1 (31, 0, 0) _ c165; rw [hA104.2.2.1] at h9_; exact h9_
      have f176 : gh160 qa = some (gI 1 12 (Q143)) := by have h9_ := hR161.1 (32, 0, 0) _ c166; rw [hA104.2.2.2.1] at h9_; exact h9_
      have f177 : gh160 ea = some (gI 1 20 (E)) := by have h9_ := hR161.1 (33, 0, 0) _ c167; rw [hA104.2.2.2.2] at h9_; exact h9_
      refine g_iload hC dL_makes_117 rfl ?_
      refine g_ald_n hC dL_makes_119 rfl ?_
      refine g_iconst hC dL_makes_120 rfl ?_
      refine g_ialdK hC (1) dL_makes_121 f174 (by omega) (by omega) (by omega) ?_
      refine g_top (b := ((n : Int)) + (1)) (n173) ?_
      refine g_iconst hC dL_makes_122 rfl ?_
      refine g_isub hC dL_makes_123 ?_
      refine g_icmp_ne (tgt := 131) hC dL_makes_124 (by decide) (by omega) (by omega) (fun c_124 => False.elim (by omega)) (fun c_124 => ?_)
      refine g_iconst hC dL_makes_127 rfl ?_
      refine g_goto (tgt := 132) hC dL_makes_128 (by decide) ?_
      exact g_bret (b := true) hC hq dL_makes_132 (by decide) (by decide) ⟨rfl, ad99, ct163, _, _, G159, P, Q143, E, hR161, ⟨hCI162, ⟨c164, c165, c166, c167⟩, by rw [eG159, eQ143, eQ128, eQ114]; exact lw_sheet hI hE hQ hLI.2.2 hn⟩, hA104, (by show zb 3 ≤ z 3; omega), (by show zb 11 ≤ z 11 + 1; omega), Int.le_refl (z 0), by rw [n172]; exact Int.le_refl _⟩
    · rw [hgh]
      refine gV.eqs (st' := [vi ((-1000003))]) rfl rfl rfl ?_
      refine g_istore (lv' := [some (.ref oa), some (.ref ga), some (.ref pa), some (.ref qa), some (vi (a)), some (vi (c)), some (vi (u93)), some (vi (u96)), some (vi (w98)), some (vi ((-1000003)))]) hC dL_makes_57 (by decide) rfl ?_
      refine g_ald_n hC dL_makes_59 rfl ?_
      refine g_iconst hC dL_makes_60 rfl ?_
      refine g_ialdK hC (1) dL_makes_61 f1 (by omega) (by omega) (by omega) ?_
      refine g_top (b := (n : Int)) (g1.trans hn) ?_
      refine g_iconst hC dL_makes_62 rfl ?_
      refine g_icmp_ne (tgt := 79) hC dL_makes_63 (by decide) (by omega) (by omega) (fun c_63 => False.elim (by omega)) (fun c_63 => ?_)
      refine g_iload hC dL_makes_66 rfl ?_
      refine g_ldcI (z := (-1000003)) hC dL_makes_68 gk_RL_21 (by decide +kernel) ?_
      refine g_icmp_ne (tgt := 77) hC dL_makes_70 (by decide) (by omega) (by omega) (fun c_70 => False.elim (by omega)) (fun c_70 => ?_)
      refine g_iconst hC dL_makes_73 rfl ?_
      refine g_goto (tgt := 78) hC dL_makes_74 (by decide) ?_
      exact g_bret (b := true) hC hq dL_makes_78 (by decide) (by decide) ⟨rfl, ad, ct, z, F, G, P, Q, E, hR, hLI, hA, by omega, by omega, Int.le_refl _, Int.le_refl _⟩

end Q8
