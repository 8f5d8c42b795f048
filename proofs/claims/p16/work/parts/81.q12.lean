/-! p16: names stand beside their dots, on no dot, met by none; the worth is theirs, the best no less -/
section Q12
set_option maxHeartbeats 4000000 in
set_option maxRecDepth 100000 in
theorem kL_isSheet {l : Launch} (hl : l.stackTraces = false) {D : gD} {base : Nat} {oa ga pa qa ea : Nat} {ad : Tg → Nat} {z : Nat → Int} {F : Nat → Nat → Int} {ct : Tg → Option gC} {G P Q E : Nat → Int} (hLI : LI ad z F ct G P Q E) (hA : lA ad oa ga pa qa ea) (s : Nat) (hs : (s : Int) < z 11) (gh : gH) (hR : cR ad ct gh) : gM l D base yL_isSheet cL_isSheet 18 (some Jvm.ClassFile.FieldType.boolean) 13 307 105 688 [.ref oa, .ref ga, .ref pa, .ref qa, vi ((s : Int))] gh (fun r gh' => r = some (vi 1) ∧ LO oa ga pa qa ea z (z 0) (G 5) gh') gNo := by
  refine gM.of hl (by decide) (by simp [Value.category]) (Nat.le_of_ble_eq_true rfl) [some (.ref oa), some (.ref ga), some (.ref pa), some (.ref qa), some (vi ((s : Int))), none, none, none, none, none, none, none, none, none, none, none, none, none] rfl (fun x hC hq => ?_)
  obtain ⟨hCI, ⟨c30, c31, c32, c33⟩, ⟨g0, g1, g2, g3, g4, g5⟩, lP, lQ, lE⟩ := id hLI
  obtain ⟨hS, hI, hE, hQ, h10⟩ := id hCI
  obtain ⟨i0, i1, i3, i11, i22, iw, ip, inn, inm, ish⟩ := id hI
  have f1 : gh ga = some (gI 1 6 (G)) := by have h9_ := hR.1 (30, 0, 0) _ c30; rw [hA.2.1] at h9_; exact h9_
  have f2 : gh pa = some (gI 1 50 (P)) := by have h9_ := hR.1 (31, 0, 0) _ c31; rw [hA.2.2.1] at h9_; exact h9_
  have f3 : gh qa = some (gI 1 12 (Q)) := by have h9_ := hR.1 (32, 0, 0) _ c32; rw [hA.2.2.2.1] at h9_; exact h9_
  have f4 : gh ea = some (gI 1 20 (E)) := by have h9_ := hR.1 (33, 0, 0) _ c33; rw [hA.2.2.2.2] at h9_; exact h9_
  obtain ⟨q0, q1, q2⟩ := lQ s hs
  have hq9 := ish s hs
  have hnp : (((z 3).toNat : Nat) : Int) ≤ z 3 := by omega
  refine g_bipush (z := 64) hC dL_isSheet_0 rfl ?_
  refine g_newI (n := 64) hC dL_isSheet_2 ga_int rfl (by decide) (by decide) (by decide) (fun ma hma => ?_)
  have hRn := hR.new (t := (34, 0, 0)) hma (gI 1 64 (fun _ => 0))
  obtain ⟨gA, egA⟩ : ∃ g_, g_ = gset gh ma (gI 1 64 (fun _ => 0)) := ⟨_, rfl⟩
  rw [← egA] at hRn ⊢
  obtain ⟨adn, ead⟩ : ∃ y_, y_ = aup ad (34, 0, 0) ma := ⟨_, rfl⟩
  rw [← ead] at hRn
  have hCn : CI adn z F ct := by rw [ead]; exact hCI.ad (aup_lo (by decide))
  have hAn : lA adn oa ga pa qa ea := by rw [ead]; exact ⟨(aup_ne (by simp)).trans hA.1, (aup_ne (by simp)).trans hA.2.1, (aup_ne (by simp)).trans hA.2.2.1, (aup_ne (by simp)).trans hA.2.2.2.1, (aup_ne (by simp)).trans hA.2.2.2.2⟩
  have am : adn (34, 0, 0) = ma := by rw [ead]; exact aup_eq
  refine g_ast (lv' := [some (.ref oa), some (.ref ga), some (.ref pa), some (.ref qa), some (vi ((s : Int))), some (.ref ma), none, none, none, none, none, none, none, none, none, none, none, none]) hC dL_isSheet_4 (by decide) rfl ?_
  refine g_iconst hC dL_isSheet_6 rfl ?_
  refine g_istore (lv' := [some (.ref oa), some (.ref ga), some (.ref pa), some (.ref qa), some (vi ((s : Int))), some (.ref ma), some (vi (0)), none, none, none, none, none, none, none, none, none, none, none]) hC dL_isSheet_7 (by decide) rfl ?_
  refine g_iconst hC dL_isSheet_9 rfl ?_
  refine g_istore (lv' := [some (.ref oa), some (.ref ga), some (.ref pa), some (.ref qa), some (vi ((s : Int))), some (.ref ma), some (vi (0)), some (vi (0)), none, none, none, none, none, none, none, none, none, none]) hC dL_isSheet_10 (by decide) rfl ?_
  refine g_iconst hC dL_isSheet_12 rfl ?_
  refine g_istore (lv' := [some (.ref oa), some (.ref ga), some (.ref pa), some (.ref qa), some (vi ((s : Int))), some (.ref ma), some (vi (0)), some (vi (0)), some (vi (1)), none, none, none, none, none, none, none, none, none]) hC dL_isSheet_13 (by decide) rfl ?_
  refine g_iconst hC dL_isSheet_15 rfl ?_
  refine g_istore (lv' := [some (.ref oa), some (.ref ga), some (.ref pa), some (.ref qa), some (vi ((s : Int))), some (.ref ma), some (vi (0)), some (vi (0)), some (vi (1)), some (vi (0)), none, none, none, none, none, none, none, none]) hC dL_isSheet_16 (by decide) rfl ?_
  have lp : ∀ k : Nat, k ≤ (z 3).toNat → ∀ (M : Nat → Int) (gh1 : gH), cR adn (cup ct (34, 0, 0) (gI 1 64 M)) gh1 → IM F s (z 0) (lay0 F s (z 3).toNat (z 0)).1 k M → gV x D base 18 18 [some (.ref oa), some (.ref ga), some (.ref pa), some (.ref qa), some (vi ((s : Int))), some (.ref ma), some (vi (sumW (lay0 F s (z 3).toNat (z 0)).1 (F 6) k)), some (vi (((nmL F s (z 0) k).length : Int))), some (vi (1)), some (vi ((k : Int))), none, none, none, none, none, none, none, none] [] gh1 (1 + 6 * k) (64 + 36 * k) := by
    refine g_for _ (fun k hk ih => ?_) ?_
    · intro M gh1 hR1 hIM
      have hR0 := hR1
      have hk3 : (k : Int) < z 3 := by omega
      obtain ⟨ct1, ect1⟩ : ∃ y_, y_ = cup ct (34, 0, 0) (gI 1 64 M) := ⟨_, rfl⟩
      rw [← ect1] at hR1
      have hCI1 : CI adn z F ct1 := by rw [ect1]; exact hCn.put (34, 0, 0) (by decide) _
      have d301 : ct1 (30, 0, 0) = some (gI 1 6 G) := by rw [ect1, cup_ne (by simp)]; exact c30
      have d311 : ct1 (31, 0, 0) = some (gI 1 50 P) := by rw [ect1, cup_ne (by simp)]; exact c31
      have d321 : ct1 (32, 0, 0) = some (gI 1 12 Q) := by rw [ect1, cup_ne (by simp)]; exact c32
      have d331 : ct1 (33, 0, 0) = some (gI 1 20 E) := by rw [ect1, cup_ne (by simp)]; exact c33
      have d341 : ct1 (34, 0, 0) = some (gI 1 64 M) := by rw [ect1]; exact cup_eq
      have hLI1 : LI adn z F ct1 G P Q E := ⟨hCI1, ⟨d301, d311, d321, d331⟩, hLI.2.2⟩
      have f5 : gh1 ga = some (gI 1 6 (G)) := by have h9_ := hR1.1 (30, 0, 0) _ d301; rw [hAn.2.1] at h9_; exact h9_
      have f6 : gh1 pa = some (gI 1 50 (P)) := by have h9_ := hR1.1 (31, 0, 0) _ d311; rw [hAn.2.2.1] at h9_; exact h9_
      have f7 : gh1 qa = some (gI 1 12 (Q)) := by have h9_ := hR1.1 (32, 0, 0) _ d321; rw [hAn.2.2.2.1] at h9_; exact h9_
      have f8 : gh1 ea = some (gI 1 20 (E)) := by have h9_ := hR1.1 (33, 0, 0) _ d331; rw [hAn.2.2.2.2] at h9_; exact h9_
      have fm1 : gh1 ma = some (gI 1 64 (M)) := by have h9_ := hR1.1 (34, 0, 0) _ d341; rw [am] at h9_; exact h9_
      obtain ⟨-, p4, p5⟩ := lP k (by omega)
      obtain ⟨p0, p1, p2⟩ := p5 hk3
      have hl9 := lnF_rng (on := z 0) hI (i := k) (by omega)
      have hp6 := ip k hk3
      refine g_iload hC dL_isSheet_18 rfl ?_
      refine g_ald_n hC dL_isSheet_20 rfl ?_
      refine g_iconst hC dL_isSheet_21 rfl ?_
      refine g_ialdK hC (0) dL_isSheet_22 f5 (by omega) (by omega) (by omega) ?_
      refine g_top (b := z 3) (g0) ?_
      refine g_icmp_ge (tgt := 477) hC dL_isSheet_23 (by decide) (by omega) (by omega) (fun c_23 => False.elim (by omega)) (fun c_23 => ?_)
      refine g_iload hC dL_isSheet_26 rfl ?_
      refine g_if_eq (tgt := 477) hC dL_isSheet_28 (by decide) (by omega) (fun c_28 => False.elim (by revert c_28; decide)) (fun c_28 => ?_)
      refine g_ald_n hC dL_isSheet_31 rfl ?_
      refine g_iload hC dL_isSheet_32 rfl ?_
      refine g_iload hC dL_isSheet_34 rfl ?_
      refine g_iconst hC dL_isSheet_36 rfl ?_
      by_cases hon : qOn F s k = true
      · have hr := qRow_rng hon
        have hc := qCol_rng hon
        have d1 : dotV F s k true = qRow F s k := by unfold dotV; rw [if_pos hon, if_pos rfl]
        have d0 : dotV F s k false = qCol F s k := by unfold dotV; rw [if_pos hon, if_neg (by decide)]
        have d2 : F 14 s ≠ 1 → qCol F s k = 40 * (F 4 k - F 12 s) / 30 := fun h => by have := hq9.2.2.2.2; unfold qCol; rw [if_pos (by omega)]
        have hq4 : 0 ≤ F 4 k - F 12 s ∧ F 4 k - F 12 s ≤ 29 := by have h9_ := hon; unfold qOn at h9_; exact inB_t ((Bool.and_eq_true _ _).mp h9_).1
        refine g_callSW (rest := []) hC (kL_dot hl hCI1 hAn.1 s k hs hk3 false gh1 hR1) gcw_68 rfl ⟨by decide, by decide⟩ ⟨by show 1 + 6 * k + 2 ≤ 105; omega, by show 64 + 36 * k + 12 ≤ 688; omega⟩ (Nat.le_of_ble_eq_true rfl) rfl dL_isSheet_37 (fun r g_ hp => ?_)
        obtain ⟨rfl, hgh⟩ := hp
        rw [hgh]
        clear hgh
        refine gV.eqs (st' := [vi (dotV F s k false)]) rfl rfl rfl ?_
        refine g_top (b := qCol F s k) d0 ?_
        refine g_istore (lv' := [some (.ref oa), some (.ref ga), some (.ref pa), some (.ref qa), some (vi ((s : Int))), some (.ref ma), some (vi (sumW (lay0 F s (z 3).toNat (z 0)).1 (F 6) k)), some (vi (((nmL F s (z 0) k).length : Int))), some (vi (1)), some (vi ((k : Int))), some (vi (qCol F s k)), none, none, none, none, none, none, none]) hC dL_isSheet_40 (by decide) rfl ?_
        refine g_ald_n hC dL_isSheet_42 rfl ?_
        refine g_iload hC dL_isSheet_43 rfl ?_
        refine g_iload hC dL_isSheet_45 rfl ?_
        refine g_iconst hC dL_isSheet_47 rfl ?_
        refine g_callSW (rest := []) hC (kL_dot hl hCI1 hAn.1 s k hs hk3 true gh1 hR1) gcw_68 rfl ⟨by decide, by decide⟩ ⟨by show 1 + 6 * k + 2 + 2 ≤ 105; omega, by show 64 + 36 * k + 12 + 12 ≤ 688; omega⟩ (Nat.le_of_ble_eq_true rfl) rfl dL_isSheet_48 (fun r g_ hp => ?_)
        obtain ⟨rfl, hgh⟩ := hp
        rw [hgh]
        clear hgh
        refine gV.eqs (st' := [vi (dotV F s k true)]) rfl rfl rfl ?_
        refine g_top (b := qRow F s k) d1 ?_
        refine g_istore (lv' := [some (.ref oa), some (.ref ga), some (.ref pa), some (.ref qa), some (vi ((s : Int))), some (.ref ma), some (vi (sumW (lay0 F s (z 3).toNat (z 0)).1 (F 6) k)), some (vi (((nmL F s (z 0) k).length : Int))), some (vi (1)), some (vi ((k : Int))), some (vi (qCol F s k)), some (vi (qRow F s k)), none, none, none, none, none, none]) hC dL_isSheet_51 (by decide) rfl ?_
        refine g_ald_n hC dL_isSheet_53 rfl ?_
        refine g_iload hC dL_isSheet_54 rfl ?_
        refine g_iload hC dL_isSheet_56 rfl ?_
        refine g_callSW (rest := []) hC (kL_side hl hCI1 hAn.1 s k hs hk3 gh1 hR1) gcw_73 rfl ⟨by decide, by decide⟩ ⟨by show 1 + 6 * k + 2 + 2 + 2 ≤ 105; omega, by show 64 + 36 * k + 12 + 12 + 12 ≤ 688; omega⟩ (Nat.le_of_ble_eq_true rfl) rfl dL_isSheet_58 (fun r g_ hp => ?_)
        obtain ⟨rfl, hgh⟩ := hp
        rw [hgh]
        clear hgh
        refine gV.eqs (st' := [vi ((lay0 F s (z 3).toNat (z 0)).1 k)]) rfl rfl rfl ?_
        have hsr := lay0_side (F := F) (s := s) (np := (z 3).toNat) (on := z 0) (j := k)
        obtain ⟨sd, esd⟩ : ∃ y_ : Int, (lay0 F s (z 3).toNat (z 0)).1 k = y_ := ⟨_, rfl⟩
        rw [esd] at hsr ⊢
        refine g_istore (lv' := [some (.ref oa), some (.ref ga), some (.ref pa), some (.ref qa), some (vi ((s : Int))), some (.ref ma), some (vi (sumW (lay0 F s (z 3).toNat (z 0)).1 (F 6) k)), some (vi (((nmL F s (z 0) k).length : Int))), some (vi (1)), some (vi ((k : Int))), some (vi (qCol F s k)), some (vi (qRow F s k)), some (vi (sd)), none, none, none, none, none]) hC dL_isSheet_61 (by decide) rfl ?_
        refine g_ald_n hC dL_isSheet_63 rfl ?_
        refine g_ald_n hC dL_isSheet_64 rfl ?_
        refine g_iload hC dL_isSheet_65 rfl ?_
        refine g_iload hC dL_isSheet_67 rfl ?_
        refine g_callS (rest := []) hC (kL_isOn hl hLI1 hAn s k hs hk3 gh1 hR1) gc_RL_76 rfl ⟨by decide, by decide⟩ ⟨by show 1 + 6 * k + 2 + 2 + 2 + 0 ≤ 105; omega, by show 64 + 36 * k + 12 + 12 + 12 + 0 ≤ 688; omega⟩ (Nat.le_of_ble_eq_true rfl) rfl dL_isSheet_69 (fun r g2_ hp => ?_)
        obtain ⟨rfl, hgh⟩ := hp
        rw [hgh]
        clear hgh
        refine gV.eqs (st' := [vi (b2i (qOn F s k))]) rfl rfl rfl ?_
        refine g_top (b := 1) (by rw [hon]; rfl) ?_
        refine g_istore (lv' := [some (.ref oa), some (.ref ga), some (.ref pa), some (.ref qa), some (vi ((s : Int))), some (.ref ma), some (vi (sumW (lay0 F s (z 3).toNat (z 0)).1 (F 6) k)), some (vi (((nmL F s (z 0) k).length : Int))), some (vi (1)), some (vi ((k : Int))), some (vi (qCol F s k)), some (vi (qRow F s k)), some (vi (sd)), some (vi (1)), none, none, none, none]) hC dL_isSheet_72 (by decide) rfl ?_
        refine g_cut (A := gV x D base 18 98 [some (.ref oa), some (.ref ga), some (.ref pa), some (.ref qa), some (vi ((s : Int))), some (.ref ma), some (vi (sumW (lay0 F s (z 3).toNat (z 0)).1 (F 6) k)), some (vi (((nmL F s (z 0) k).length : Int))), some (vi (1)), some (vi ((k : Int))), some (vi (qCol F s k)), some (vi (qRow F s k)), some (vi (sd)), some (vi (1)), none, none, none, none] [vi (((nmL F s (z 0) (k + 1)).length : Int))] (gh1) (1 + 6 * k + 2 + 2 + 2 + 0) (64 + 36 * k + 12 + 12 + 12 + 0)) ?_ (fun j_98 => ?_)
        · refine g_istore (lv' := [some (.ref oa), some (.ref ga), some (.ref pa), some (.ref qa), some (vi ((s : Int))), some (.ref ma), some (vi (sumW (lay0 F s (z 3).toNat (z 0)).1 (F 6) k)), some (vi (((nmL F s (z 0) (k + 1)).length : Int))), some (vi (1)), some (vi ((k : Int))), some (vi (qCol F s k)), some (vi (qRow F s k)), some (vi (sd)), some (vi (1)), none, none, none, none]) hC dL_isSheet_98 (by decide) rfl ?_
          refine g_cut (A := gV x D base 18 194 [some (.ref oa), some (.ref ga), some (.ref pa), some (.ref qa), some (vi ((s : Int))), some (.ref ma), some (vi (sumW (lay0 F s (z 3).toNat (z 0)).1 (F 6) k)), some (vi (((nmL F s (z 0) (k + 1)).length : Int))), some (vi (1)), some (vi ((k : Int))), some (vi (qCol F s k)), some (vi (qRow F s k)), some (vi (sd)), some (vi (1)), none, none, none, none] [vi (1)] (gh1) (1 + 6 * k + 2 + 2 + 2 + 0) (64 + 36 * k + 12 + 12 + 12 + 0)) ?_ (fun j_194 => ?_)
          · refine g_istore (lv' := [some (.ref oa), some (.ref ga), some (.ref pa), some (.ref qa), some (vi ((s : Int))), some (.ref ma), some (vi (sumW (lay0 F s (z 3).toNat (z 0)).1 (F 6) k)), some (vi (((nmL F s (z 0) (k + 1)).length : Int))), some (vi (1)), some (vi ((k : Int))), some (vi (qCol F s k)), some (vi (qRow F s k)), some (vi (sd)), some (vi (1)), none, none, none, none]) hC dL_isSheet_194 (by decide) rfl ?_
            refine g_iload hC dL_isSheet_196 rfl ?_
            refine g_if_eq (tgt := 233) hC dL_isSheet_198 (by decide) (by omega) (fun c_198 => False.elim (by revert c_198; decide)) (fun c_198 => ?_)
            refine g_iload hC dL_isSheet_201 rfl ?_
            refine g_iconst hC dL_isSheet_203 rfl ?_
            refine g_icmp_lt (tgt := 233) hC dL_isSheet_204 (by decide) (by omega) (by omega) (fun c_204 => False.elim (by omega)) (fun c_204 => ?_)
            refine g_iload hC dL_isSheet_207 rfl ?_
            refine g_iconst hC dL_isSheet_209 rfl ?_
            refine g_icmp_ge (tgt := 233) hC dL_isSheet_210 (by decide) (by omega) (by omega) (fun c_210 => False.elim (by omega)) (fun c_210 => ?_)
            refine g_iload hC dL_isSheet_213 rfl ?_
            by_cases hsd : sd = -1
            · refine g_if_lt (tgt := 229) hC dL_isSheet_215 (by decide) (by omega) (fun c_215 => ?_) (fun c_215 => False.elim (by omega))
              refine g_iconst hC dL_isSheet_229 rfl ?_
              refine g_goto (tgt := 234) hC dL_isSheet_230 (by decide) ?_
              refine g_istore (lv' := [some (.ref oa), some (.ref ga), some (.ref pa), some (.ref qa), some (vi ((s : Int))), some (.ref ma), some (vi (sumW (lay0 F s (z 3).toNat (z 0)).1 (F 6) k)), some (vi (((nmL F s (z 0) (k + 1)).length : Int))), some (vi (1)), some (vi ((k : Int))), some (vi (qCol F s k)), some (vi (qRow F s k)), some (vi (sd)), some (vi (1)), none, none, none, none]) hC dL_isSheet_234 (by decide) rfl ?_
              refine g_iload hC dL_isSheet_236 rfl ?_
              refine g_iload hC dL_isSheet_238 rfl ?_
              refine g_if_ge (tgt := 247) hC dL_isSheet_240 (by decide) (by omega) (fun c_240 => False.elim (by omega)) (fun c_240 => ?_)
              refine g_iconst hC dL_isSheet_243 rfl ?_
              refine g_goto (tgt := 255) hC dL_isSheet_244 (by decide) ?_
              refine g_iadd hC dL_isSheet_255 ?_
              refine g_istore (lv' := [some (.ref oa), some (.ref ga), some (.ref pa), some (.ref qa), some (vi ((s : Int))), some (.ref ma), some (vi ((sumW (lay0 F s (z 3).toNat (z 0)).1 (F 6) k) + (0))), some (vi (((nmL F s (z 0) (k + 1)).length : Int))), some (vi (1)), some (vi ((k : Int))), some (vi (qCol F s k)), some (vi (qRow F s k)), some (vi (sd)), some (vi (1)), none, none, none, none]) hC dL_isSheet_256 (by decide) rfl ?_
              refine g_iload hC dL_isSheet_258 rfl ?_
              refine g_iconst hC dL_isSheet_260 rfl ?_
              refine g_icmp_ne (tgt := 271) hC dL_isSheet_261 (by decide) (by omega) (by omega) (fun c_261 => ?_) (fun c_261 => False.elim (by omega))
              refine g_iload hC dL_isSheet_271 rfl ?_
              refine g_iconst hC dL_isSheet_273 rfl ?_
              refine g_icmp_ne (tgt := 284) hC dL_isSheet_274 (by decide) (by omega) (by omega) (fun c_274 => ?_) (fun c_274 => False.elim (by omega))
              refine g_iload hC dL_isSheet_284 rfl ?_
              refine g_istore (lv' := [some (.ref oa), some (.ref ga), some (.ref pa), some (.ref qa), some (vi ((s : Int))), some (.ref ma), some (vi ((sumW (lay0 F s (z 3).toNat (z 0)).1 (F 6) k) + (0))), some (vi (((nmL F s (z 0) (k + 1)).length : Int))), some (vi (1)), some (vi ((k : Int))), some (vi (qCol F s k)), some (vi (qRow F s k)), some (vi (sd)), some (vi (1)), some (vi (qRow F s k)), none, none, none]) hC dL_isSheet_286 (by decide) rfl ?_
              refine g_iload hC dL_isSheet_288 rfl ?_
              refine g_if_ne (tgt := 300) hC dL_isSheet_290 (by decide) (by omega) (fun c_290 => ?_) (fun c_290 => False.elim (by omega))
              refine g_iload hC dL_isSheet_300 rfl ?_
              refine g_iconst hC dL_isSheet_302 rfl ?_
              refine g_icmp_ne (tgt := 320) hC dL_isSheet_303 (by decide) (by omega) (by omega) (fun c_303 => ?_) (fun c_303 => False.elim (by omega))
              refine g_iload hC dL_isSheet_320 rfl ?_
              refine g_ald_n hC dL_isSheet_322 rfl ?_
              refine g_iconst hC dL_isSheet_323 rfl ?_
              refine g_iload hC dL_isSheet_324 rfl ?_
              refine g_imul hC dL_isSheet_326 ?_
              refine g_iconst hC dL_isSheet_327 rfl ?_
              refine g_iadd hC dL_isSheet_328 ?_
              refine g_ialdK hC (5 * k + 4) dL_isSheet_329 f6 (by omega) (by omega) (by omega) ?_
              refine g_top (b := lnF F (z 0) k) (p4) ?_
              refine g_iconst hC dL_isSheet_330 rfl ?_
              refine g_idiv hC dL_isSheet_331 (by omega) (by omega) ?_
              refine g_isub hC dL_isSheet_332 ?_
              refine g_istore (lv' := [some (.ref oa), some (.ref ga), some (.ref pa), some (.ref qa), some (vi ((s : Int))), some (.ref ma), some (vi ((sumW (lay0 F s (z 3).toNat (z 0)).1 (F 6) k) + (0))), some (vi (((nmL F s (z 0) (k + 1)).length : Int))), some (vi (1)), some (vi ((k : Int))), some (vi (qCol F s k)), some (vi (qRow F s k)), some (vi (sd)), some (vi (1)), some (vi (qRow F s k)), some (vi ((qCol F s k) - ((lnF F (z 0) k) / (2)))), none, none]) hC dL_isSheet_333 (by decide) rfl ?_
              refine g_iconst hC dL_isSheet_335 rfl ?_
              refine g_istore (lv' := [some (.ref oa), some (.ref ga), some (.ref pa), some (.ref qa), some (vi ((s : Int))), some (.ref ma), some (vi ((sumW (lay0 F s (z 3).toNat (z 0)).1 (F 6) k) + (0))), some (vi (((nmL F s (z 0) (k + 1)).length : Int))), some (vi (1)), some (vi ((k : Int))), some (vi (qCol F s k)), some (vi (qRow F s k)), some (vi (sd)), some (vi (1)), some (vi (qRow F s k)), some (vi ((qCol F s k) - ((lnF F (z 0) k) / (2)))), some (vi (0)), none]) hC dL_isSheet_336 (by decide) rfl ?_
              refine g_iload hC dL_isSheet_338 rfl ?_
              refine g_ald_n hC dL_isSheet_340 rfl ?_
              refine g_iconst hC dL_isSheet_341 rfl ?_
              refine g_iload hC dL_isSheet_342 rfl ?_
              refine g_imul hC dL_isSheet_344 ?_
              refine g_iconst hC dL_isSheet_345 rfl ?_
              refine g_iadd hC dL_isSheet_346 ?_
              refine g_ialdK hC (5 * k + 4) dL_isSheet_347 f6 (by omega) (by omega) (by omega) ?_
              refine g_top (b := lnF F (z 0) k) (p4) ?_
              refine g_icmp_ge (tgt := 471) hC dL_isSheet_348 (by decide) (by omega) (by omega) (fun hz2 => ?_) (fun hz2 => ?_)
              · refine g_iinc (lv' := [some (.ref oa), some (.ref ga), some (.ref pa), some (.ref qa), some (vi ((s : Int))), some (.ref ma), some (vi ((sumW (lay0 F s (z 3).toNat (z 0)).1 (F 6) k) + (0))), some (vi (((nmL F s (z 0) (k + 1)).length : Int))), some (vi (1)), some (vi ((k : Int) + 1)), some (vi (qCol F s k)), some (vi (qRow F s k)), some (vi (sd)), some (vi (1)), some (vi (qRow F s k)), some (vi ((qCol F s k) - ((lnF F (z 0) k) / (2)))), some (vi (0)), none]) hC dL_isSheet_471 (by decide) rfl rfl ?_
                refine g_goto (tgt := 18) hC dL_isSheet_474 (by decide) ?_
                refine gV.drop (lv' := [some (.ref oa), some (.ref ga), some (.ref pa), some (.ref qa), some (vi ((s : Int))), some (.ref ma), some (vi ((sumW (lay0 F s (z 3).toNat (z 0)).1 (F 6) k) + (0))), some (vi (((nmL F s (z 0) (k + 1)).length : Int))), some (vi (1)), some (vi ((k : Int) + 1)), none, none, none, none, none, none, none, none]) (by intro k v hk; match k, hk with | 0, hk => exact hk | 1, hk => exact hk | 2, hk => exact hk | 3, hk => exact hk | 4, hk => exact hk | 5, hk => exact hk | 6, hk => exact hk | 7, hk => exact hk | 8, hk => exact hk | 9, hk => exact hk | 10, hk => exact absurd hk (by simp) | 11, hk => exact absurd hk (by simp) | 12, hk => exact absurd hk (by simp) | 13, hk => exact absurd hk (by simp) | 14, hk => exact absurd hk (by simp) | 15, hk => exact absurd hk (by simp) | 16, hk => exact absurd hk (by simp) | 17, hk => exact absurd hk (by simp) | k + 18, hk => exact absurd hk (by simp)) ?_
                refine gV.widen (k := 1 + 6 * (k + 1)) (n := 64 + 36 * (k + 1)) (by omega) (by omega) ?_
                exact gV.eqs (lv' := [some (.ref oa), some (.ref ga), some (.ref pa), some (.ref qa), some (vi ((s : Int))), some (.ref ma), some (vi (sumW (lay0 F s (z 3).toNat (z 0)).1 (F 6) (k + 1))), some (vi (((nmL F s (z 0) (k + 1)).length : Int))), some (vi (1)), some (vi (((k + 1 : Nat) : Int))), none, none, none, none, none, none, none, none]) (lcons rfl (lcons rfl (lcons rfl (lcons rfl (lcons rfl (lcons rfl (lcons (svi (by show sumW (lay0 F s (z 3).toNat (z 0)).1 (F 6) k + 0 = sumW (lay0 F s (z 3).toNat (z 0)).1 (F 6) (k + 1); rw [sumW_s, if_pos (by rw [esd]; exact hsd)])) (lcons rfl (lcons rfl (lcons (svi (by omega)) (lcons rfl (lcons rfl (lcons rfl (lcons rfl (lcons rfl (lcons rfl (lcons rfl (lcons rfl rfl)))))))))))))))))) rfl rfl (ih _ _ hR0 (IM_s hIM))
              · refine g_iload hC dL_isSheet_351 rfl ?_
                refine g_if_lt (tgt := 471) hC dL_isSheet_353 (by decide) (by omega) (fun c_353 => ?_) (fun c_353 => False.elim (by omega))
                refine g_iinc (lv' := [some (.ref oa), some (.ref ga), some (.ref pa), some (.ref qa), some (vi ((s : Int))), some (.ref ma), some (vi ((sumW (lay0 F s (z 3).toNat (z 0)).1 (F 6) k) + (0))), some (vi (((nmL F s (z 0) (k + 1)).length : Int))), some (vi (1)), some (vi ((k : Int) + 1)), some (vi (qCol F s k)), some (vi (qRow F s k)), some (vi (sd)), some (vi (1)), some (vi (qRow F s k)), some (vi ((qCol F s k) - ((lnF F (z 0) k) / (2)))), some (vi (0)), none]) hC dL_isSheet_471 (by decide) rfl rfl ?_
                refine g_goto (tgt := 18) hC dL_isSheet_474 (by decide) ?_
                refine gV.drop (lv' := [some (.ref oa), some (.ref ga), some (.ref pa), some (.ref qa), some (vi ((s : Int))), some (.ref ma), some (vi ((sumW (lay0 F s (z 3).toNat (z 0)).1 (F 6) k) + (0))), some (vi (((nmL F s (z 0) (k + 1)).length : Int))), some (vi (1)), some (vi ((k : Int) + 1)), none, none, none, none, none, none, none, none]) (by intro k v hk; match k, hk with | 0, hk => exact hk | 1, hk => exact hk | 2, hk => exact hk | 3, hk => exact hk | 4, hk => exact hk | 5, hk => exact hk | 6, hk => exact hk | 7, hk => exact hk | 8, hk => exact hk | 9, hk => exact hk | 10, hk => exact absurd hk (by simp) | 11, hk => exact absurd hk (by simp) | 12, hk => exact absurd hk (by simp) | 13, hk => exact absurd hk (by simp) | 14, hk => exact absurd hk (by simp) | 15, hk => exact absurd hk (by simp) | 16, hk => exact absurd hk (by simp) | 17, hk => exact absurd hk (by simp) | k + 18, hk => exact absurd hk (by simp)) ?_
                refine gV.widen (k := 1 + 6 * (k + 1)) (n := 64 + 36 * (k + 1)) (by omega) (by omega) ?_
                exact gV.eqs (lv' := [some (.ref oa), some (.ref ga), some (.ref pa), some (.ref qa), some (vi ((s : Int))), some (.ref ma), some (vi (sumW (lay0 F s (z 3).toNat (z 0)).1 (F 6) (k + 1))), some (vi (((nmL F s (z 0) (k + 1)).length : Int))), some (vi (1)), some (vi (((k + 1 : Nat) : Int))), none, none, none, none, none, none, none, none]) (lcons rfl (lcons rfl (lcons rfl (lcons rfl (lcons rfl (lcons rfl (lcons (svi (by show sumW (lay0 F s (z 3).toNat (z 0)).1 (F 6) k + 0 = sumW (lay0 F s (z 3).toNat (z 0)).1 (F 6) (k + 1); rw [sumW_s, if_pos (by rw [esd]; exact hsd)])) (lcons rfl (lcons rfl (lcons (svi (by omega)) (lcons rfl (lcons rfl (lcons rfl (lcons rfl (lcons rfl (lcons rfl (lcons rfl (lcons rfl rfl)))))))))))))))))) rfl rfl (ih _ _ hR0 (IM_s hIM))
            · obtain ⟨⟨st1, st2⟩, st3, st4, st5, st6, st7⟩ := st_at (s := s) (d := z 0) hI hnp hk esd hsd
              refine g_if_lt (tgt := 229) hC dL_isSheet_215 (by decide) (by omega) (fun c_215 => False.elim (by omega)) (fun c_215 => ?_)
              refine g_ald_n hC dL_isSheet_218 rfl ?_
              refine g_iconst hC dL_isSheet_219 rfl ?_
              refine g_iload hC dL_isSheet_220 rfl ?_
              refine g_imul hC dL_isSheet_222 ?_
              refine g_iconst hC dL_isSheet_223 rfl ?_
              refine g_iadd hC dL_isSheet_224 ?_
              refine g_ialdK hC (5 * k + 4) dL_isSheet_225 f6 (by omega) (by omega) (by omega) ?_
              refine g_top (b := lnF F (z 0) k) (p4) ?_
              refine g_if_le (tgt := 233) hC dL_isSheet_226 (by decide) (by omega) (fun c_226 => False.elim (by omega)) (fun c_226 => ?_)
              refine g_iconst hC dL_isSheet_229 rfl ?_
              refine g_goto (tgt := 234) hC dL_isSheet_230 (by decide) ?_
              refine g_istore (lv' := [some (.ref oa), some (.ref ga), some (.ref pa), some (.ref qa), some (vi ((s : Int))), some (.ref ma), some (vi (sumW (lay0 F s (z 3).toNat (z 0)).1 (F 6) k)), some (vi (((nmL F s (z 0) (k + 1)).length : Int))), some (vi (1)), some (vi ((k : Int))), some (vi (qCol F s k)), some (vi (qRow F s k)), some (vi (sd)), some (vi (1)), none, none, none, none]) hC dL_isSheet_234 (by decide) rfl ?_
              refine g_iload hC dL_isSheet_236 rfl ?_
              refine g_iload hC dL_isSheet_238 rfl ?_
              refine g_if_ge (tgt := 247) hC dL_isSheet_240 (by decide) (by omega) (fun c_240 => ?_) (fun c_240 => False.elim (by omega))
              refine g_ald_n hC dL_isSheet_247 rfl ?_
              refine g_iconst hC dL_isSheet_248 rfl ?_
              refine g_iload hC dL_isSheet_249 rfl ?_
              refine g_imul hC dL_isSheet_251 ?_
              refine g_iconst hC dL_isSheet_252 rfl ?_
              refine g_iadd hC dL_isSheet_253 ?_
              refine g_ialdK hC (5 * k + 2) dL_isSheet_254 f6 (by omega) (by omega) (by omega) ?_
              refine g_top (b := F 6 k) (p2) ?_
              refine g_iadd hC dL_isSheet_255 ?_
              refine g_istore (lv' := [some (.ref oa), some (.ref ga), some (.ref pa), some (.ref qa), some (vi ((s : Int))), some (.ref ma), some (vi ((sumW (lay0 F s (z 3).toNat (z 0)).1 (F 6) k) + (F 6 k))), some (vi (((nmL F s (z 0) (k + 1)).length : Int))), some (vi (1)), some (vi ((k : Int))), some (vi (qCol F s k)), some (vi (qRow F s k)), some (vi (sd)), some (vi (1)), none, none, none, none]) hC dL_isSheet_256 (by decide) rfl ?_
              refine g_cut (A := gV x D base 18 335 [some (.ref oa), some (.ref ga), some (.ref pa), some (.ref qa), some (vi ((s : Int))), some (.ref ma), some (vi ((sumW (lay0 F s (z 3).toNat (z 0)).1 (F 6) k) + (F 6 k))), some (vi (((nmL F s (z 0) (k + 1)).length : Int))), some (vi (1)), some (vi ((k : Int))), some (vi (qCol F s k)), some (vi (qRow F s k)), some (vi (sd)), some (vi (1)), some (vi (rowAtN (qRow F s k) sd)), some (vi (colAtN (qCol F s k) sd (lnF F (z 0) k))), none, none] [] (gh1) (1 + 6 * k + 2 + 2 + 2 + 0) (64 + 36 * k + 12 + 12 + 12 + 0)) ?_ (fun j_335 => ?_)
              · refine g_iconst hC dL_isSheet_335 rfl ?_
                refine g_istore (lv' := [some (.ref oa), some (.ref ga), some (.ref pa), some (.ref qa), some (vi ((s : Int))), some (.ref ma), some (vi ((sumW (lay0 F s (z 3).toNat (z 0)).1 (F 6) k) + (F 6 k))), some (vi (((nmL F s (z 0) (k + 1)).length : Int))), some (vi (1)), some (vi ((k : Int))), some (vi (qCol F s k)), some (vi (qRow F s k)), some (vi (sd)), some (vi (1)), some (vi (rowAtN (qRow F s k) sd)), some (vi (colAtN (qCol F s k) sd (lnF F (z 0) k))), some (vi (0)), none]) hC dL_isSheet_336 (by decide) rfl ?_
                obtain ⟨ln, hln⟩ : ∃ y_ : Nat, lnF F (z 0) k = (y_ : Int) := ⟨(lnF F (z 0) k).toNat, by omega⟩
                have li : ∀ t : Nat, t ≤ ln → ∀ (M3 : Nat → Int) (gh3 : gH), cR adn (cup ct (34, 0, 0) (gI 1 64 M3)) gh3 → IN F s (z 0) (lay0 F s (z 3).toNat (z 0)).1 k (40 * rowAtN (qRow F s k) sd + colAtN (qCol F s k) sd (lnF F (z 0) k)).toNat t M3 → gV x D base 18 338 [some (.ref oa), some (.ref ga), some (.ref pa), some (.ref qa), some (vi ((s : Int))), some (.ref ma), some (vi ((sumW (lay0 F s (z 3).toNat (z 0)).1 (F 6) k) + (F 6 k))), some (vi (((nmL F s (z 0) (k + 1)).length : Int))), some (vi (1)), some (vi ((k : Int))), some (vi (qCol F s k)), some (vi (qRow F s k)), some (vi (sd)), some (vi (1)), some (vi (rowAtN (qRow F s k) sd)), some (vi (colAtN (qCol F s k) sd (lnF F (z 0) k))), some (vi ((t : Int))), none] [] gh3 (1 + 6 * k + 2 + 2 + 2 + 0) (64 + 36 * k + 12 + 12 + 12 + 0) := by
                  refine g_for _ (fun t ht ih2 => ?_) ?_
                  · intro M3 gh3 hR3 hIN
                    obtain ⟨ct3, ect3⟩ : ∃ y_, y_ = cup ct (34, 0, 0) (gI 1 64 M3) := ⟨_, rfl⟩
                    rw [← ect3] at hR3
                    have hCI3 : CI adn z F ct3 := by rw [ect3]; exact hCn.put (34, 0, 0) (by decide) _
                    have d303 : ct3 (30, 0, 0) = some (gI 1 6 G) := by rw [ect3, cup_ne (by simp)]; exact c30
                    have d313 : ct3 (31, 0, 0) = some (gI 1 50 P) := by rw [ect3, cup_ne (by simp)]; exact c31
                    have d323 : ct3 (32, 0, 0) = some (gI 1 12 Q) := by rw [ect3, cup_ne (by simp)]; exact c32
                    have d333 : ct3 (33, 0, 0) = some (gI 1 20 E) := by rw [ect3, cup_ne (by simp)]; exact c33
                    have d343 : ct3 (34, 0, 0) = some (gI 1 64 M3) := by rw [ect3]; exact cup_eq
                    have hLI3 : LI adn z F ct3 G P Q E := ⟨hCI3, ⟨d303, d313, d323, d333⟩, hLI.2.2⟩
                    have f9 : gh3 ga = some (gI 1 6 (G)) := by have h9_ := hR3.1 (30, 0, 0) _ d303; rw [hAn.2.1] at h9_; exact h9_
                    have f10 : gh3 pa = some (gI 1 50 (P)) := by have h9_ := hR3.1 (31, 0, 0) _ d313; rw [hAn.2.2.1] at h9_; exact h9_
                    have f11 : gh3 qa = some (gI 1 12 (Q)) := by have h9_ := hR3.1 (32, 0, 0) _ d323; rw [hAn.2.2.2.1] at h9_; exact h9_
                    have f12 : gh3 ea = some (gI 1 20 (E)) := by have h9_ := hR3.1 (33, 0, 0) _ d333; rw [hAn.2.2.2.2] at h9_; exact h9_
                    have fm3 : gh3 ma = some (gI 1 64 (M3)) := by have h9_ := hR3.1 (34, 0, 0) _ d343; rw [am] at h9_; exact h9_
                    have hix := ix_at (r := rowAtN (qRow F s k) sd) (c := colAtN (qCol F s k) sd (lnF F (z 0) k) + (t : Int)) st5 (by omega)
                    obtain ⟨j0, ej0⟩ : ∃ y_ : Nat, y_ = (40 * rowAtN (qRow F s k) sd + (colAtN (qCol F s k) sd (lnF F (z 0) k) + (t : Int))).toNat := ⟨_, rfl⟩
                    rw [← ej0] at hix
                    obtain ⟨hj0, hix, hbi⟩ := hix
                    have hclr : mB M3 j0 = false := by rw [show j0 = (40 * rowAtN (qRow F s k) sd + colAtN (qCol F s k) sd (lnF F (z 0) k)).toNat + t by omega]; exact IN_clear hI hnp hk esd hsd (by omega) hIN
                    refine g_iload hC dL_isSheet_338 rfl ?_
                    refine g_ald_n hC dL_isSheet_340 rfl ?_
                    refine g_iconst hC dL_isSheet_341 rfl ?_
                    refine g_iload hC dL_isSheet_342 rfl ?_
                    refine g_imul hC dL_isSheet_344 ?_
                    refine g_iconst hC dL_isSheet_345 rfl ?_
                    refine g_iadd hC dL_isSheet_346 ?_
                    refine g_ialdK hC (5 * k + 4) dL_isSheet_347 f10 (by omega) (by omega) (by omega) ?_
                    refine g_top (b := (ln : Int)) (p4.trans hln) ?_
                    refine g_icmp_ge (tgt := 471) hC dL_isSheet_348 (by decide) (by omega) (by omega) (fun c_348 => False.elim (by omega)) (fun c_348 => ?_)
                    refine g_iload hC dL_isSheet_351 rfl ?_
                    refine g_if_lt (tgt := 471) hC dL_isSheet_353 (by decide) (by omega) (fun c_353 => False.elim (by omega)) (fun c_353 => ?_)
                    refine g_iload hC dL_isSheet_356 rfl ?_
                    refine g_if_eq (tgt := 471) hC dL_isSheet_358 (by decide) (by omega) (fun c_358 => False.elim (by revert c_358; decide)) (fun c_358 => ?_)
                    refine g_iload hC dL_isSheet_361 rfl ?_
                    refine g_iload hC dL_isSheet_363 rfl ?_
                    refine g_iload hC dL_isSheet_365 rfl ?_
                    refine g_iadd hC dL_isSheet_367 ?_
                    refine g_bipush (z := 31) hC dL_isSheet_368 rfl ?_
                    refine g_icmp_le (tgt := 378) hC dL_isSheet_370 (by decide) (by omega) (by omega) (fun h31 => ?_) (fun h31 => ?_)
                    · rw [if_neg (by omega)] at hix
                      refine g_iconst hC dL_isSheet_378 rfl ?_
                      refine g_iadd hC dL_isSheet_379 ?_
                      refine g_istore (lv' := [some (.ref oa), some (.ref ga), some (.ref pa), some (.ref qa), some (vi ((s : Int))), some (.ref ma), some (vi ((sumW (lay0 F s (z 3).toNat (z 0)).1 (F 6) k) + (F 6 k))), some (vi (((nmL F s (z 0) (k + 1)).length : Int))), some (vi (1)), some (vi ((k : Int))), some (vi (qCol F s k)), some (vi (qRow F s k)), some (vi (sd)), some (vi (1)), some (vi (rowAtN (qRow F s k) sd)), some (vi (colAtN (qCol F s k) sd (lnF F (z 0) k))), some (vi ((t : Int))), some (vi ((rowAtN (qRow F s k) sd) + (0)))]) hC dL_isSheet_380 (by decide) rfl ?_
                      refine g_iload hC dL_isSheet_382 rfl ?_
                      refine g_if_lt (tgt := 435) hC dL_isSheet_384 (by decide) (by omega) (fun c_384 => False.elim (by omega)) (fun c_384 => ?_)
                      refine g_iload hC dL_isSheet_387 rfl ?_
                      refine g_bipush (z := 24) hC dL_isSheet_389 rfl ?_
                      refine g_icmp_ge (tgt := 435) hC dL_isSheet_391 (by decide) (by omega) (by omega) (fun c_391 => False.elim (by omega)) (fun c_391 => ?_)
                      refine g_iload hC dL_isSheet_394 rfl ?_
                      refine g_iload hC dL_isSheet_396 rfl ?_
                      refine g_iadd hC dL_isSheet_398 ?_
                      refine g_if_lt (tgt := 435) hC dL_isSheet_399 (by decide) (by omega) (fun c_399 => False.elim (by omega)) (fun c_399 => ?_)
                      refine g_iload hC dL_isSheet_402 rfl ?_
                      refine g_iload hC dL_isSheet_404 rfl ?_
                      refine g_iadd hC dL_isSheet_406 ?_
                      refine g_bipush (z := 40) hC dL_isSheet_407 rfl ?_
                      refine g_icmp_ge (tgt := 435) hC dL_isSheet_409 (by decide) (by omega) (by omega) (fun c_409 => False.elim (by omega)) (fun c_409 => ?_)
                      refine g_ald hC dL_isSheet_412 rfl ?_
                      refine g_iload hC dL_isSheet_414 rfl ?_
                      refine g_ialdK hC (ixM j0) dL_isSheet_416 fm3 (by omega) (ixM_lt hj0) (by omega) ?_
                      refine g_iload hC dL_isSheet_417 rfl ?_
                      refine g_iload hC dL_isSheet_419 rfl ?_
                      refine g_iadd hC dL_isSheet_421 ?_
                      refine g_bipush (z := 31) hC dL_isSheet_422 rfl ?_
                      refine g_iandR (c0 := ((colAtN (qCol F s k) sd (lnF F (z 0) k)) + ((t : Int))) % 32) hC dL_isSheet_424 (iI_and31 (by omega)) ?_
                      refine g_ishrT hC dL_isSheet_425 ?_
                      refine g_iconst hC dL_isSheet_426 rfl ?_
                      refine g_iandR (c0 := b2i (bt (iI (M3 (ixM j0))) (((colAtN (qCol F s k) sd (lnF F (z 0) k)) + ((t : Int))) % 32).toNat)) hC dL_isSheet_427 (ib_rdT (by omega)) ?_
                      have hbt : bt (iI (M3 (ixM j0))) (((colAtN (qCol F s k) sd (lnF F (z 0) k)) + ((t : Int))) % 32).toNat = false := by rw [← hbi]; exact hclr
                      refine g_ifne_b (tgt := 435) hC dL_isSheet_428 (by decide)  (fun c_428 => False.elim (by rw [hbt] at c_428; cases c_428)) (fun c_428 => ?_)
                      refine g_iconst hC dL_isSheet_431 rfl ?_
                      refine g_goto (tgt := 436) hC dL_isSheet_432 (by decide) ?_
                      refine g_istore (lv' := [some (.ref oa), some (.ref ga), some (.ref pa), some (.ref qa), some (vi ((s : Int))), some (.ref ma), some (vi ((sumW (lay0 F s (z 3).toNat (z 0)).1 (F 6) k) + (F 6 k))), some (vi (((nmL F s (z 0) (k + 1)).length : Int))), some (vi (1)), some (vi ((k : Int))), some (vi (qCol F s k)), some (vi (qRow F s k)), some (vi (sd)), some (vi (1)), some (vi (rowAtN (qRow F s k) sd)), some (vi (colAtN (qCol F s k) sd (lnF F (z 0) k))), some (vi ((t : Int))), some (vi ((rowAtN (qRow F s k) sd) + (0)))]) hC dL_isSheet_436 (by decide) rfl ?_
                      refine g_ald hC dL_isSheet_438 rfl ?_
                      refine g_iload hC dL_isSheet_440 rfl ?_
                      refine g_dup2 hC dL_isSheet_442 rfl rfl ?_
                      refine g_ialdK hC (ixM j0) dL_isSheet_443 fm3 (by omega) (ixM_lt hj0) (by omega) ?_
                      refine g_iload hC dL_isSheet_444 rfl ?_
                      refine g_if_eq (tgt := 462) hC dL_isSheet_446 (by decide) (by omega) (fun c_446 => False.elim (by revert c_446; decide)) (fun c_446 => ?_)
                      refine g_iconst hC dL_isSheet_449 rfl ?_
                      refine g_iload hC dL_isSheet_450 rfl ?_
                      refine g_iload hC dL_isSheet_452 rfl ?_
                      refine g_iadd hC dL_isSheet_454 ?_
                      refine g_bipush (z := 31) hC dL_isSheet_455 rfl ?_
                      refine g_iandR (c0 := ((colAtN (qCol F s k) sd (lnF F (z 0) k)) + ((t : Int))) % 32) hC dL_isSheet_457 (iI_and31 (by omega)) ?_
                      refine g_ishlT hC dL_isSheet_458 ?_
                      refine g_goto (tgt := 463) hC dL_isSheet_459 (by decide) ?_
                      refine g_iorT hC dL_isSheet_463 ?_
                      refine g_iastK hC (ixM j0) dL_isSheet_464 fm3 (by omega) (ixM_lt hj0) (by omega) ?_
                      have hR4 := hR3.put d343 (gI 1 64 (gup M3 (ixM j0) ((iI (M3 (ixM j0)) ||| iI ((iI (1) <<< (iI (((colAtN (qCol F s k) sd (lnF F (z 0) k)) + ((t : Int))) % 32) &&& 31)).toInt)).toInt)))
                      rw [am, ect3, cup_cup] at hR4
                      refine g_iinc (lv' := [some (.ref oa), some (.ref ga), some (.ref pa), some (.ref qa), some (vi ((s : Int))), some (.ref ma), some (vi ((sumW (lay0 F s (z 3).toNat (z 0)).1 (F 6) k) + (F 6 k))), some (vi (((nmL F s (z 0) (k + 1)).length : Int))), some (vi (1)), some (vi ((k : Int))), some (vi (qCol F s k)), some (vi (qRow F s k)), some (vi (sd)), some (vi (1)), some (vi (rowAtN (qRow F s k) sd)), some (vi (colAtN (qCol F s k) sd (lnF F (z 0) k))), some (vi ((t : Int) + 1)), some (vi ((rowAtN (qRow F s k) sd) + (0)))]) hC dL_isSheet_465 (by decide) rfl rfl ?_
                      refine g_goto (tgt := 338) hC dL_isSheet_468 (by decide) ?_
                      refine gV.drop (lv' := [some (.ref oa), some (.ref ga), some (.ref pa), some (.ref qa), some (vi ((s : Int))), some (.ref ma), some (vi ((sumW (lay0 F s (z 3).toNat (z 0)).1 (F 6) k) + (F 6 k))), some (vi (((nmL F s (z 0) (k + 1)).length : Int))), some (vi (1)), some (vi ((k : Int))), some (vi (qCol F s k)), some (vi (qRow F s k)), some (vi (sd)), some (vi (1)), some (vi (rowAtN (qRow F s k) sd)), some (vi (colAtN (qCol F s k) sd (lnF F (z 0) k))), some (vi ((t : Int) + 1)), none]) (by intro k v hk; match k, hk with | 0, hk => exact hk | 1, hk => exact hk | 2, hk => exact hk | 3, hk => exact hk | 4, hk => exact hk | 5, hk => exact hk | 6, hk => exact hk | 7, hk => exact hk | 8, hk => exact hk | 9, hk => exact hk | 10, hk => exact hk | 11, hk => exact hk | 12, hk => exact hk | 13, hk => exact hk | 14, hk => exact hk | 15, hk => exact hk | 16, hk => exact hk | 17, hk => exact absurd hk (by simp) | k + 18, hk => exact absurd hk (by simp)) ?_
                      exact gV.eqs (lv' := [some (.ref oa), some (.ref ga), some (.ref pa), some (.ref qa), some (vi ((s : Int))), some (.ref ma), some (vi ((sumW (lay0 F s (z 3).toNat (z 0)).1 (F 6) k) + (F 6 k))), some (vi (((nmL F s (z 0) (k + 1)).length : Int))), some (vi (1)), some (vi ((k : Int))), some (vi (qCol F s k)), some (vi (qRow F s k)), some (vi (sd)), some (vi (1)), some (vi (rowAtN (qRow F s k) sd)), some (vi (colAtN (qCol F s k) sd (lnF F (z 0) k))), some (vi (((t + 1 : Nat) : Int))), none]) (lcons rfl (lcons rfl (lcons rfl (lcons rfl (lcons rfl (lcons rfl (lcons rfl (lcons rfl (lcons rfl (lcons rfl (lcons rfl (lcons rfl (lcons rfl (lcons rfl (lcons rfl (lcons rfl (lcons (svi (by omega)) (lcons rfl rfl)))))))))))))))))) rfl rfl (ih2 _ _ hR4 (IN_s hIN hj0 (by omega) (by omega) hbi))
                    · rw [if_pos (by omega)] at hix
                      refine g_bipush (z := 24) hC dL_isSheet_373 rfl ?_
                      refine g_goto (tgt := 379) hC dL_isSheet_375 (by decide) ?_
                      refine g_iadd hC dL_isSheet_379 ?_
                      refine g_istore (lv' := [some (.ref oa), some (.ref ga), some (.ref pa), some (.ref qa), some (vi ((s : Int))), some (.ref ma), some (vi ((sumW (lay0 F s (z 3).toNat (z 0)).1 (F 6) k) + (F 6 k))), some (vi (((nmL F s (z 0) (k + 1)).length : Int))), some (vi (1)), some (vi ((k : Int))), some (vi (qCol F s k)), some (vi (qRow F s k)), some (vi (sd)), some (vi (1)), some (vi (rowAtN (qRow F s k) sd)), some (vi (colAtN (qCol F s k) sd (lnF F (z 0) k))), some (vi ((t : Int))), some (vi ((rowAtN (qRow F s k) sd) + (24)))]) hC dL_isSheet_380 (by decide) rfl ?_
                      refine g_iload hC dL_isSheet_382 rfl ?_
                      refine g_if_lt (tgt := 435) hC dL_isSheet_384 (by decide) (by omega) (fun c_384 => False.elim (by omega)) (fun c_384 => ?_)
                      refine g_iload hC dL_isSheet_387 rfl ?_
                      refine g_bipush (z := 24) hC dL_isSheet_389 rfl ?_
                      refine g_icmp_ge (tgt := 435) hC dL_isSheet_391 (by decide) (by omega) (by omega) (fun c_391 => False.elim (by omega)) (fun c_391 => ?_)
                      refine g_iload hC dL_isSheet_394 rfl ?_
                      refine g_iload hC dL_isSheet_396 rfl ?_
                      refine g_iadd hC dL_isSheet_398 ?_
                      refine g_if_lt (tgt := 435) hC dL_isSheet_399 (by decide) (by omega) (fun c_399 => False.elim (by omega)) (fun c_399 => ?_)
                      refine g_iload hC dL_isSheet_402 rfl ?_
                      refine g_iload hC dL_isSheet_404 rfl ?_
                      refine g_iadd hC dL_isSheet_406 ?_
                      refine g_bipush (z := 40) hC dL_isSheet_407 rfl ?_
                      refine g_icmp_ge (tgt := 435) hC dL_isSheet_409 (by decide) (by omega) (by omega) (fun c_409 => False.elim (by omega)) (fun c_409 => ?_)
                      refine g_ald hC dL_isSheet_412 rfl ?_
                      refine g_iload hC dL_isSheet_414 rfl ?_
                      refine g_ialdK hC (ixM j0) dL_isSheet_416 fm3 (by omega) (ixM_lt hj0) (by omega) ?_
                      refine g_iload hC dL_isSheet_417 rfl ?_
                      refine g_iload hC dL_isSheet_419 rfl ?_
                      refine g_iadd hC dL_isSheet_421 ?_
                      refine g_bipush (z := 31) hC dL_isSheet_422 rfl ?_
                      refine g_iandR (c0 := ((colAtN (qCol F s k) sd (lnF F (z 0) k)) + ((t : Int))) % 32) hC dL_isSheet_424 (iI_and31 (by omega)) ?_
                      refine g_ishrT hC dL_isSheet_425 ?_
                      refine g_iconst hC dL_isSheet_426 rfl ?_
                      refine g_iandR (c0 := b2i (bt (iI (M3 (ixM j0))) (((colAtN (qCol F s k) sd (lnF F (z 0) k)) + ((t : Int))) % 32).toNat)) hC dL_isSheet_427 (ib_rdT (by omega)) ?_
                      have hbt : bt (iI (M3 (ixM j0))) (((colAtN (qCol F s k) sd (lnF F (z 0) k)) + ((t : Int))) % 32).toNat = false := by rw [← hbi]; exact hclr
                      refine g_ifne_b (tgt := 435) hC dL_isSheet_428 (by decide)  (fun c_428 => False.elim (by rw [hbt] at c_428; cases c_428)) (fun c_428 => ?_)
                      refine g_iconst hC dL_isSheet_431 rfl ?_
                      refine g_goto (tgt := 436) hC dL_isSheet_432 (by decide) ?_
                      refine g_istore (lv' := [some (.ref oa), some (.ref ga), some (.ref pa), some (.ref qa), some (vi ((s : Int))), some (.ref ma), some (vi ((sumW (lay0 F s (z 3).toNat (z 0)).1 (F 6) k) + (F 6 k))), some (vi (((nmL F s (z 0) (k + 1)).length : Int))), some (vi (1)), some (vi ((k : Int))), some (vi (qCol F s k)), some (vi (qRow F s k)), some (vi (sd)), some (vi (1)), some (vi (rowAtN (qRow F s k) sd)), some (vi (colAtN (qCol F s k) sd (lnF F (z 0) k))), some (vi ((t : Int))), some (vi ((rowAtN (qRow F s k) sd) + (24)))]) hC dL_isSheet_436 (by decide) rfl ?_
                      refine g_ald hC dL_isSheet_438 rfl ?_
                      refine g_iload hC dL_isSheet_440 rfl ?_
                      refine g_dup2 hC dL_isSheet_442 rfl rfl ?_
                      refine g_ialdK hC (ixM j0) dL_isSheet_443 fm3 (by omega) (ixM_lt hj0) (by omega) ?_
                      refine g_iload hC dL_isSheet_444 rfl ?_
                      refine g_if_eq (tgt := 462) hC dL_isSheet_446 (by decide) (by omega) (fun c_446 => False.elim (by revert c_446; decide)) (fun c_446 => ?_)
                      refine g_iconst hC dL_isSheet_449 rfl ?_
                      refine g_iload hC dL_isSheet_450 rfl ?_
                      refine g_iload hC dL_isSheet_452 rfl ?_
                      refine g_iadd hC dL_isSheet_454 ?_
                      refine g_bipush (z := 31) hC dL_isSheet_455 rfl ?_
                      refine g_iandR (c0 := ((colAtN (qCol F s k) sd (lnF F (z 0) k)) + ((t : Int))) % 32) hC dL_isSheet_457 (iI_and31 (by omega)) ?_
                      refine g_ishlT hC dL_isSheet_458 ?_
                      refine g_goto (tgt := 463) hC dL_isSheet_459 (by decide) ?_
                      refine g_iorT hC dL_isSheet_463 ?_
                      refine g_iastK hC (ixM j0) dL_isSheet_464 fm3 (by omega) (ixM_lt hj0) (by omega) ?_
                      have hR4 := hR3.put d343 (gI 1 64 (gup M3 (ixM j0) ((iI (M3 (ixM j0)) ||| iI ((iI (1) <<< (iI (((colAtN (qCol F s k) sd (lnF F (z 0) k)) + ((t : Int))) % 32) &&& 31)).toInt)).toInt)))
                      rw [am, ect3, cup_cup] at hR4
                      refine g_iinc (lv' := [some (.ref oa), some (.ref ga), some (.ref pa), some (.ref qa), some (vi ((s : Int))), some (.ref ma), some (vi ((sumW (lay0 F s (z 3).toNat (z 0)).1 (F 6) k) + (F 6 k))), some (vi (((nmL F s (z 0) (k + 1)).length : Int))), some (vi (1)), some (vi ((k : Int))), some (vi (qCol F s k)), some (vi (qRow F s k)), some (vi (sd)), some (vi (1)), some (vi (rowAtN (qRow F s k) sd)), some (vi (colAtN (qCol F s k) sd (lnF F (z 0) k))), some (vi ((t : Int) + 1)), some (vi ((rowAtN (qRow F s k) sd) + (24)))]) hC dL_isSheet_465 (by decide) rfl rfl ?_
                      refine g_goto (tgt := 338) hC dL_isSheet_468 (by decide) ?_
                      refine gV.drop (lv' := [some (.ref oa), some (.ref ga), some (.ref pa), some (.ref qa), some (vi ((s : Int))), some (.ref ma), some (vi ((sumW (lay0 F s (z 3).toNat (z 0)).1 (F 6) k) + (F 6 k))), some (vi (((nmL F s (z 0) (k + 1)).length : Int))), some (vi (1)), some (vi ((k : Int))), some (vi (qCol F s k)), some (vi (qRow F s k)), some (vi (sd)), some (vi (1)), some (vi (rowAtN (qRow F s k) sd)), some (vi (colAtN (qCol F s k) sd (lnF F (z 0) k))), some (vi ((t : Int) + 1)), none]) (by intro k v hk; match k, hk with | 0, hk => exact hk | 1, hk => exact hk | 2, hk => exact hk | 3, hk => exact hk | 4, hk => exact hk | 5, hk => exact hk | 6, hk => exact hk | 7, hk => exact hk | 8, hk => exact hk | 9, hk => exact hk | 10, hk => exact hk | 11, hk => exact hk | 12, hk => exact hk | 13, hk => exact hk | 14, hk => exact hk | 15, hk => exact hk | 16, hk => exact hk | 17, hk => exact absurd hk (by simp) | k + 18, hk => exact absurd hk (by simp)) ?_
                      exact gV.eqs (lv' := [some (.ref oa), some (.ref ga), some (.ref pa), some (.ref qa), some (vi ((s : Int))), some (.ref ma), some (vi ((sumW (lay0 F s (z 3).toNat (z 0)).1 (F 6) k) + (F 6 k))), some (vi (((nmL F s (z 0) (k + 1)).length : Int))), some (vi (1)), some (vi ((k : Int))), some (vi (qCol F s k)), some (vi (qRow F s k)), some (vi (sd)), some (vi (1)), some (vi (rowAtN (qRow F s k) sd)), some (vi (colAtN (qCol F s k) sd (lnF F (z 0) k))), some (vi (((t + 1 : Nat) : Int))), none]) (lcons rfl (lcons rfl (lcons rfl (lcons rfl (lcons rfl (lcons rfl (lcons rfl (lcons rfl (lcons rfl (lcons rfl (lcons rfl (lcons rfl (lcons rfl (lcons rfl (lcons rfl (lcons rfl (lcons (svi (by omega)) (lcons rfl rfl)))))))))))))))))) rfl rfl (ih2 _ _ hR4 (IN_s hIN hj0 (by omega) (by omega) hbi))
                  · intro M3 gh3 hR3 hIN
                    have hR4 := hR3
                    obtain ⟨ct3, ect3⟩ : ∃ y_, y_ = cup ct (34, 0, 0) (gI 1 64 M3) := ⟨_, rfl⟩
                    rw [← ect3] at hR3
                    have hCI3 : CI adn z F ct3 := by rw [ect3]; exact hCn.put (34, 0, 0) (by decide) _
                    have d303 : ct3 (30, 0, 0) = some (gI 1 6 G) := by rw [ect3, cup_ne (by simp)]; exact c30
                    have d313 : ct3 (31, 0, 0) = some (gI 1 50 P) := by rw [ect3, cup_ne (by simp)]; exact c31
                    have d323 : ct3 (32, 0, 0) = some (gI 1 12 Q) := by rw [ect3, cup_ne (by simp)]; exact c32
                    have d333 : ct3 (33, 0, 0) = some (gI 1 20 E) := by rw [ect3, cup_ne (by simp)]; exact c33
                    have d343 : ct3 (34, 0, 0) = some (gI 1 64 M3) := by rw [ect3]; exact cup_eq
                    have hLI3 : LI adn z F ct3 G P Q E := ⟨hCI3, ⟨d303, d313, d323, d333⟩, hLI.2.2⟩
                    have f13 : gh3 ga = some (gI 1 6 (G)) := by have h9_ := hR3.1 (30, 0, 0) _ d303; rw [hAn.2.1] at h9_; exact h9_
                    have f14 : gh3 pa = some (gI 1 50 (P)) := by have h9_ := hR3.1 (31, 0, 0) _ d313; rw [hAn.2.2.1] at h9_; exact h9_
                    have f15 : gh3 qa = some (gI 1 12 (Q)) := by have h9_ := hR3.1 (32, 0, 0) _ d323; rw [hAn.2.2.2.1] at h9_; exact h9_
                    have f16 : gh3 ea = some (gI 1 20 (E)) := by have h9_ := hR3.1 (33, 0, 0) _ d333; rw [hAn.2.2.2.2] at h9_; exact h9_
                    have fm3 : gh3 ma = some (gI 1 64 (M3)) := by have h9_ := hR3.1 (34, 0, 0) _ d343; rw [am] at h9_; exact h9_
                    refine g_iload hC dL_isSheet_338 rfl ?_
                    refine g_ald_n hC dL_isSheet_340 rfl ?_
                    refine g_iconst hC dL_isSheet_341 rfl ?_
                    refine g_iload hC dL_isSheet_342 rfl ?_
                    refine g_imul hC dL_isSheet_344 ?_
                    refine g_iconst hC dL_isSheet_345 rfl ?_
                    refine g_iadd hC dL_isSheet_346 ?_
                    refine g_ialdK hC (5 * k + 4) dL_isSheet_347 f14 (by omega) (by omega) (by omega) ?_
                    refine g_top (b := (ln : Int)) (p4.trans hln) ?_
                    refine g_icmp_ge (tgt := 471) hC dL_isSheet_348 (by decide) (by omega) (by omega) (fun c_348 => ?_) (fun c_348 => False.elim (by omega))
                    refine g_iinc (lv' := [some (.ref oa), some (.ref ga), some (.ref pa), some (.ref qa), some (vi ((s : Int))), some (.ref ma), some (vi ((sumW (lay0 F s (z 3).toNat (z 0)).1 (F 6) k) + (F 6 k))), some (vi (((nmL F s (z 0) (k + 1)).length : Int))), some (vi (1)), some (vi ((k : Int) + 1)), some (vi (qCol F s k)), some (vi (qRow F s k)), some (vi (sd)), some (vi (1)), some (vi (rowAtN (qRow F s k) sd)), some (vi (colAtN (qCol F s k) sd (lnF F (z 0) k))), some (vi ((ln : Int))), none]) hC dL_isSheet_471 (by decide) rfl rfl ?_
                    refine g_goto (tgt := 18) hC dL_isSheet_474 (by decide) ?_
                    refine gV.drop (lv' := [some (.ref oa), some (.ref ga), some (.ref pa), some (.ref qa), some (vi ((s : Int))), some (.ref ma), some (vi ((sumW (lay0 F s (z 3).toNat (z 0)).1 (F 6) k) + (F 6 k))), some (vi (((nmL F s (z 0) (k + 1)).length : Int))), some (vi (1)), some (vi ((k : Int) + 1)), none, none, none, none, none, none, none, none]) (by intro k v hk; match k, hk with | 0, hk => exact hk | 1, hk => exact hk | 2, hk => exact hk | 3, hk => exact hk | 4, hk => exact hk | 5, hk => exact hk | 6, hk => exact hk | 7, hk => exact hk | 8, hk => exact hk | 9, hk => exact hk | 10, hk => exact absurd hk (by simp) | 11, hk => exact absurd hk (by simp) | 12, hk => exact absurd hk (by simp) | 13, hk => exact absurd hk (by simp) | 14, hk => exact absurd hk (by simp) | 15, hk => exact absurd hk (by simp) | 16, hk => exact absurd hk (by simp) | 17, hk => exact absurd hk (by simp) | k + 18, hk => exact absurd hk (by simp)) ?_
                    refine gV.widen (k := 1 + 6 * (k + 1)) (n := 64 + 36 * (k + 1)) (by omega) (by omega) ?_
                    exact gV.eqs (lv' := [some (.ref oa), some (.ref ga), some (.ref pa), some (.ref qa), some (vi ((s : Int))), some (.ref ma), some (vi (sumW (lay0 F s (z 3).toNat (z 0)).1 (F 6) (k + 1))), some (vi (((nmL F s (z 0) (k + 1)).length : Int))), some (vi (1)), some (vi (((k + 1 : Nat) : Int))), none, none, none, none, none, none, none, none]) (lcons rfl (lcons rfl (lcons rfl (lcons rfl (lcons rfl (lcons rfl (lcons (svi (by show sumW (lay0 F s (z 3).toNat (z 0)).1 (F 6) k + F 6 k = sumW (lay0 F s (z 3).toNat (z 0)).1 (F 6) (k + 1); rw [sumW_s, if_neg (by rw [esd]; exact hsd)])) (lcons rfl (lcons rfl (lcons (svi (by omega)) (lcons rfl (lcons rfl (lcons rfl (lcons rfl (lcons rfl (lcons rfl (lcons rfl (lcons rfl rfl)))))))))))))))))) rfl rfl (ih _ _ hR4 (IN_e hI hnp hk esd hsd hln hIN))
                refine gV.drop (lv' := [some (.ref oa), some (.ref ga), some (.ref pa), some (.ref qa), some (vi ((s : Int))), some (.ref ma), some (vi ((sumW (lay0 F s (z 3).toNat (z 0)).1 (F 6) k) + (F 6 k))), some (vi (((nmL F s (z 0) (k + 1)).length : Int))), some (vi (1)), some (vi ((k : Int))), some (vi (qCol F s k)), some (vi (qRow F s k)), some (vi (sd)), some (vi (1)), some (vi (rowAtN (qRow F s k) sd)), some (vi (colAtN (qCol F s k) sd (lnF F (z 0) k))), some (vi (0)), none]) (by intro k v hk; match k, hk with | 0, hk => exact hk | 1, hk => exact hk | 2, hk => exact hk | 3, hk => exact hk | 4, hk => exact hk | 5, hk => exact hk | 6, hk => exact hk | 7, hk => exact hk | 8, hk => exact hk | 9, hk => exact hk | 10, hk => exact hk | 11, hk => exact hk | 12, hk => exact hk | 13, hk => exact hk | 14, hk => exact hk | 15, hk => exact hk | 16, hk => exact hk | 17, hk => exact absurd hk (by simp) | k + 18, hk => exact absurd hk (by simp)) ?_
                exact gV.eqs (lv' := [some (.ref oa), some (.ref ga), some (.ref pa), some (.ref qa), some (vi ((s : Int))), some (.ref ma), some (vi ((sumW (lay0 F s (z 3).toNat (z 0)).1 (F 6) k) + (F 6 k))), some (vi (((nmL F s (z 0) (k + 1)).length : Int))), some (vi (1)), some (vi ((k : Int))), some (vi (qCol F s k)), some (vi (qRow F s k)), some (vi (sd)), some (vi (1)), some (vi (rowAtN (qRow F s k) sd)), some (vi (colAtN (qCol F s k) sd (lnF F (z 0) k))), some (vi (((0 : Nat) : Int))), none]) (lcons rfl (lcons rfl (lcons rfl (lcons rfl (lcons rfl (lcons rfl (lcons rfl (lcons rfl (lcons rfl (lcons rfl (lcons rfl (lcons rfl (lcons rfl (lcons rfl (lcons rfl (lcons rfl (lcons (svi (rfl)) (lcons rfl rfl)))))))))))))))))) rfl rfl (li 0 (Nat.zero_le _) M gh1 hR0 (IN_0 hIM))
              · rcases (show sd = 0 ∨ sd = 1 ∨ sd = 2 ∨ sd = 3 by omega) with h | h | h | h
                · refine g_iload hC dL_isSheet_258 rfl ?_
                  refine g_iconst hC dL_isSheet_260 rfl ?_
                  refine g_icmp_ne (tgt := 271) hC dL_isSheet_261 (by decide) (by omega) (by omega) (fun c_261 => ?_) (fun c_261 => False.elim (by omega))
                  refine g_iload hC dL_isSheet_271 rfl ?_
                  refine g_iconst hC dL_isSheet_273 rfl ?_
                  refine g_icmp_ne (tgt := 284) hC dL_isSheet_274 (by decide) (by omega) (by omega) (fun c_274 => ?_) (fun c_274 => False.elim (by omega))
                  refine g_iload hC dL_isSheet_284 rfl ?_
                  refine g_istore (lv' := [some (.ref oa), some (.ref ga), some (.ref pa), some (.ref qa), some (vi ((s : Int))), some (.ref ma), some (vi ((sumW (lay0 F s (z 3).toNat (z 0)).1 (F 6) k) + (F 6 k))), some (vi (((nmL F s (z 0) (k + 1)).length : Int))), some (vi (1)), some (vi ((k : Int))), some (vi (qCol F s k)), some (vi (qRow F s k)), some (vi (sd)), some (vi (1)), some (vi (qRow F s k)), none, none, none]) hC dL_isSheet_286 (by decide) rfl ?_
                  refine g_iload hC dL_isSheet_288 rfl ?_
                  refine g_if_ne (tgt := 300) hC dL_isSheet_290 (by decide) (by omega) (fun c_290 => False.elim (by omega)) (fun c_290 => ?_)
                  refine g_iload hC dL_isSheet_293 rfl ?_
                  refine g_iconst hC dL_isSheet_295 rfl ?_
                  refine g_iadd hC dL_isSheet_296 ?_
                  refine g_goto (tgt := 333) hC dL_isSheet_297 (by decide) ?_
                  refine g_istore (lv' := [some (.ref oa), some (.ref ga), some (.ref pa), some (.ref qa), some (vi ((s : Int))), some (.ref ma), some (vi ((sumW (lay0 F s (z 3).toNat (z 0)).1 (F 6) k) + (F 6 k))), some (vi (((nmL F s (z 0) (k + 1)).length : Int))), some (vi (1)), some (vi ((k : Int))), some (vi (qCol F s k)), some (vi (qRow F s k)), some (vi (sd)), some (vi (1)), some (vi (qRow F s k)), some (vi ((qCol F s k) + (1))), none, none]) hC dL_isSheet_333 (by decide) rfl ?_
                  exact gV.eqs (lv' := [some (.ref oa), some (.ref ga), some (.ref pa), some (.ref qa), some (vi ((s : Int))), some (.ref ma), some (vi ((sumW (lay0 F s (z 3).toNat (z 0)).1 (F 6) k) + (F 6 k))), some (vi (((nmL F s (z 0) (k + 1)).length : Int))), some (vi (1)), some (vi ((k : Int))), some (vi (qCol F s k)), some (vi (qRow F s k)), some (vi (sd)), some (vi (1)), some (vi (rowAtN (qRow F s k) sd)), some (vi (colAtN (qCol F s k) sd (lnF F (z 0) k))), none, none]) (lcons rfl (lcons rfl (lcons rfl (lcons rfl (lcons rfl (lcons rfl (lcons rfl (lcons rfl (lcons rfl (lcons rfl (lcons rfl (lcons rfl (lcons rfl (lcons rfl (lcons (svi (by rw [h]; rfl)) (lcons (svi (by rw [h]; rfl)) (lcons rfl (lcons rfl rfl)))))))))))))))))) rfl rfl j_335
                · refine g_iload hC dL_isSheet_258 rfl ?_
                  refine g_iconst hC dL_isSheet_260 rfl ?_
                  refine g_icmp_ne (tgt := 271) hC dL_isSheet_261 (by decide) (by omega) (by omega) (fun c_261 => ?_) (fun c_261 => False.elim (by omega))
                  refine g_iload hC dL_isSheet_271 rfl ?_
                  refine g_iconst hC dL_isSheet_273 rfl ?_
                  refine g_icmp_ne (tgt := 284) hC dL_isSheet_274 (by decide) (by omega) (by omega) (fun c_274 => ?_) (fun c_274 => False.elim (by omega))
                  refine g_iload hC dL_isSheet_284 rfl ?_
                  refine g_istore (lv' := [some (.ref oa), some (.ref ga), some (.ref pa), some (.ref qa), some (vi ((s : Int))), some (.ref ma), some (vi ((sumW (lay0 F s (z 3).toNat (z 0)).1 (F 6) k) + (F 6 k))), some (vi (((nmL F s (z 0) (k + 1)).length : Int))), some (vi (1)), some (vi ((k : Int))), some (vi (qCol F s k)), some (vi (qRow F s k)), some (vi (sd)), some (vi (1)), some (vi (qRow F s k)), none, none, none]) hC dL_isSheet_286 (by decide) rfl ?_
                  refine g_iload hC dL_isSheet_288 rfl ?_
                  refine g_if_ne (tgt := 300) hC dL_isSheet_290 (by decide) (by omega) (fun c_290 => ?_) (fun c_290 => False.elim (by omega))
                  refine g_iload hC dL_isSheet_300 rfl ?_
                  refine g_iconst hC dL_isSheet_302 rfl ?_
                  refine g_icmp_ne (tgt := 320) hC dL_isSheet_303 (by decide) (by omega) (by omega) (fun c_303 => False.elim (by omega)) (fun c_303 => ?_)
                  refine g_iload hC dL_isSheet_306 rfl ?_
                  refine g_ald_n hC dL_isSheet_308 rfl ?_
                  refine g_iconst hC dL_isSheet_309 rfl ?_
                  refine g_iload hC dL_isSheet_310 rfl ?_
                  refine g_imul hC dL_isSheet_312 ?_
                  refine g_iconst hC dL_isSheet_313 rfl ?_
                  refine g_iadd hC dL_isSheet_314 ?_
                  refine g_ialdK hC (5 * k + 4) dL_isSheet_315 f6 (by omega) (by omega) (by omega) ?_
                  refine g_top (b := lnF F (z 0) k) (p4) ?_
                  refine g_isub hC dL_isSheet_316 ?_
                  refine g_goto (tgt := 333) hC dL_isSheet_317 (by decide) ?_
                  refine g_istore (lv' := [some (.ref oa), some (.ref ga), some (.ref pa), some (.ref qa), some (vi ((s : Int))), some (.ref ma), some (vi ((sumW (lay0 F s (z 3).toNat (z 0)).1 (F 6) k) + (F 6 k))), some (vi (((nmL F s (z 0) (k + 1)).length : Int))), some (vi (1)), some (vi ((k : Int))), some (vi (qCol F s k)), some (vi (qRow F s k)), some (vi (sd)), some (vi (1)), some (vi (qRow F s k)), some (vi ((qCol F s k) - (lnF F (z 0) k))), none, none]) hC dL_isSheet_333 (by decide) rfl ?_
                  exact gV.eqs (lv' := [some (.ref oa), some (.ref ga), some (.ref pa), some (.ref qa), some (vi ((s : Int))), some (.ref ma), some (vi ((sumW (lay0 F s (z 3).toNat (z 0)).1 (F 6) k) + (F 6 k))), some (vi (((nmL F s (z 0) (k + 1)).length : Int))), some (vi (1)), some (vi ((k : Int))), some (vi (qCol F s k)), some (vi (qRow F s k)), some (vi (sd)), some (vi (1)), some (vi (rowAtN (qRow F s k) sd)), some (vi (colAtN (qCol F s k) sd (lnF F (z 0) k))), none, none]) (lcons rfl (lcons rfl (lcons rfl (lcons rfl (lcons rfl (lcons rfl (lcons rfl (lcons rfl (lcons rfl (lcons rfl (lcons rfl (lcons rfl (lcons rfl (lcons rfl (lcons (svi (by rw [h]; rfl)) (lcons (svi (by rw [h]; rfl)) (lcons rfl (lcons rfl rfl)))))))))))))))))) rfl rfl j_335
                · refine g_iload hC dL_isSheet_258 rfl ?_
                  refine g_iconst hC dL_isSheet_260 rfl ?_
                  refine g_icmp_ne (tgt := 271) hC dL_isSheet_261 (by decide) (by omega) (by omega) (fun c_261 => False.elim (by omega)) (fun c_261 => ?_)
                  refine g_iload hC dL_isSheet_264 rfl ?_
                  refine g_iconst hC dL_isSheet_266 rfl ?_
                  refine g_iadd hC dL_isSheet_267 ?_
                  refine g_goto (tgt := 286) hC dL_isSheet_268 (by decide) ?_
                  refine g_istore (lv' := [some (.ref oa), some (.ref ga), some (.ref pa), some (.ref qa), some (vi ((s : Int))), some (.ref ma), some (vi ((sumW (lay0 F s (z 3).toNat (z 0)).1 (F 6) k) + (F 6 k))), some (vi (((nmL F s (z 0) (k + 1)).length : Int))), some (vi (1)), some (vi ((k : Int))), some (vi (qCol F s k)), some (vi (qRow F s k)), some (vi (sd)), some (vi (1)), some (vi ((qRow F s k) + (1))), none, none, none]) hC dL_isSheet_286 (by decide) rfl ?_
                  refine g_iload hC dL_isSheet_288 rfl ?_
                  refine g_if_ne (tgt := 300) hC dL_isSheet_290 (by decide) (by omega) (fun c_290 => ?_) (fun c_290 => False.elim (by omega))
                  refine g_iload hC dL_isSheet_300 rfl ?_
                  refine g_iconst hC dL_isSheet_302 rfl ?_
                  refine g_icmp_ne (tgt := 320) hC dL_isSheet_303 (by decide) (by omega) (by omega) (fun c_303 => ?_) (fun c_303 => False.elim (by omega))
                  refine g_iload hC dL_isSheet_320 rfl ?_
                  refine g_ald_n hC dL_isSheet_322 rfl ?_
                  refine g_iconst hC dL_isSheet_323 rfl ?_
                  refine g_iload hC dL_isSheet_324 rfl ?_
                  refine g_imul hC dL_isSheet_326 ?_
                  refine g_iconst hC dL_isSheet_327 rfl ?_
                  refine g_iadd hC dL_isSheet_328 ?_
                  refine g_ialdK hC (5 * k + 4) dL_isSheet_329 f6 (by omega) (by omega) (by omega) ?_
                  refine g_top (b := lnF F (z 0) k) (p4) ?_
                  refine g_iconst hC dL_isSheet_330 rfl ?_
                  refine g_idiv hC dL_isSheet_331 (by omega) (by omega) ?_
                  refine g_isub hC dL_isSheet_332 ?_
                  refine g_istore (lv' := [some (.ref oa), some (.ref ga), some (.ref pa), some (.ref qa), some (vi ((s : Int))), some (.ref ma), some (vi ((sumW (lay0 F s (z 3).toNat (z 0)).1 (F 6) k) + (F 6 k))), some (vi (((nmL F s (z 0) (k + 1)).length : Int))), some (vi (1)), some (vi ((k : Int))), some (vi (qCol F s k)), some (vi (qRow F s k)), some (vi (sd)), some (vi (1)), some (vi ((qRow F s k) + (1))), some (vi ((qCol F s k) - ((lnF F (z 0) k) / (2)))), none, none]) hC dL_isSheet_333 (by decide) rfl ?_
                  exact gV.eqs (lv' := [some (.ref oa), some (.ref ga), some (.ref pa), some (.ref qa), some (vi ((s : Int))), some (.ref ma), some (vi ((sumW (lay0 F s (z 3).toNat (z 0)).1 (F 6) k) + (F 6 k))), some (vi (((nmL F s (z 0) (k + 1)).length : Int))), some (vi (1)), some (vi ((k : Int))), some (vi (qCol F s k)), some (vi (qRow F s k)), some (vi (sd)), some (vi (1)), some (vi (rowAtN (qRow F s k) sd)), some (vi (colAtN (qCol F s k) sd (lnF F (z 0) k))), none, none]) (lcons rfl (lcons rfl (lcons rfl (lcons rfl (lcons rfl (lcons rfl (lcons rfl (lcons rfl (lcons rfl (lcons rfl (lcons rfl (lcons rfl (lcons rfl (lcons rfl (lcons (svi (by rw [h]; rfl)) (lcons (svi (by rw [h]; rfl)) (lcons rfl (lcons rfl rfl)))))))))))))))))) rfl rfl j_335
                · refine g_iload hC dL_isSheet_258 rfl ?_
                  refine g_iconst hC dL_isSheet_260 rfl ?_
                  refine g_icmp_ne (tgt := 271) hC dL_isSheet_261 (by decide) (by omega) (by omega) (fun c_261 => ?_) (fun c_261 => False.elim (by omega))
                  refine g_iload hC dL_isSheet_271 rfl ?_
                  refine g_iconst hC dL_isSheet_273 rfl ?_
                  refine g_icmp_ne (tgt := 284) hC dL_isSheet_274 (by decide) (by omega) (by omega) (fun c_274 => False.elim (by omega)) (fun c_274 => ?_)
                  refine g_iload hC dL_isSheet_277 rfl ?_
                  refine g_iconst hC dL_isSheet_279 rfl ?_
                  refine g_isub hC dL_isSheet_280 ?_
                  refine g_goto (tgt := 286) hC dL_isSheet_281 (by decide) ?_
                  refine g_istore (lv' := [some (.ref oa), some (.ref ga), some (.ref pa), some (.ref qa), some (vi ((s : Int))), some (.ref ma), some (vi ((sumW (lay0 F s (z 3).toNat (z 0)).1 (F 6) k) + (F 6 k))), some (vi (((nmL F s (z 0) (k + 1)).length : Int))), some (vi (1)), some (vi ((k : Int))), some (vi (qCol F s k)), some (vi (qRow F s k)), some (vi (sd)), some (vi (1)), some (vi ((qRow F s k) - (1))), none, none, none]) hC dL_isSheet_286 (by decide) rfl ?_
                  refine g_iload hC dL_isSheet_288 rfl ?_
                  refine g_if_ne (tgt := 300) hC dL_isSheet_290 (by decide) (by omega) (fun c_290 => ?_) (fun c_290 => False.elim (by omega))
                  refine g_iload hC dL_isSheet_300 rfl ?_
                  refine g_iconst hC dL_isSheet_302 rfl ?_
                  refine g_icmp_ne (tgt := 320) hC dL_isSheet_303 (by decide) (by omega) (by omega) (fun c_303 => ?_) (fun c_303 => False.elim (by omega))
                  refine g_iload hC dL_isSheet_320 rfl ?_
                  refine g_ald_n hC dL_isSheet_322 rfl ?_
                  refine g_iconst hC dL_isSheet_323 rfl ?_
                  refine g_iload hC dL_isSheet_324 rfl ?_
                  refine g_imul hC dL_isSheet_326 ?_
                  refine g_iconst hC dL_isSheet_327 rfl ?_
                  refine g_iadd hC dL_isSheet_328 ?_
                  refine g_ialdK hC (5 * k + 4) dL_isSheet_329 f6 (by omega) (by omega) (by omega) ?_
                  refine g_top (b := lnF F (z 0) k) (p4) ?_
                  refine g_iconst hC dL_isSheet_330 rfl ?_
                  refine g_idiv hC dL_isSheet_331 (by omega) (by omega) ?_
                  refine g_isub hC dL_isSheet_332 ?_
                  refine g_istore (lv' := [some (.ref oa), some (.ref ga), some (.ref pa), some (.ref qa), some (vi ((s : Int))), some (.ref ma), some (vi ((sumW (lay0 F s (z 3).toNat (z 0)).1 (F 6) k) + (F 6 k))), some (vi (((nmL F s (z 0) (k + 1)).length : Int))), some (vi (1)), some (vi ((k : Int))), some (vi (qCol F s k)), some (vi (qRow F s k)), some (vi (sd)), some (vi (1)), some (vi ((qRow F s k) - (1))), some (vi ((qCol F s k) - ((lnF F (z 0) k) / (2)))), none, none]) hC dL_isSheet_333 (by decide) rfl ?_
                  exact gV.eqs (lv' := [some (.ref oa), some (.ref ga), some (.ref pa), some (.ref qa), some (vi ((s : Int))), some (.ref ma), some (vi ((sumW (lay0 F s (z 3).toNat (z 0)).1 (F 6) k) + (F 6 k))), some (vi (((nmL F s (z 0) (k + 1)).length : Int))), some (vi (1)), some (vi ((k : Int))), some (vi (qCol F s k)), some (vi (qRow F s k)), some (vi (sd)), some (vi (1)), some (vi (rowAtN (qRow F s k) sd)), some (vi (colAtN (qCol F s k) sd (lnF F (z 0) k))), none, none]) (lcons rfl (lcons rfl (lcons rfl (lcons rfl (lcons rfl (lcons rfl (lcons rfl (lcons rfl (lcons rfl (lcons rfl (lcons rfl (lcons rfl (lcons rfl (lcons rfl (lcons (svi (by rw [h]; rfl)) (lcons (svi (by rw [h]; rfl)) (lcons rfl (lcons rfl rfl)))))))))))))))))) rfl rfl j_335
          · refine g_iload hC dL_isSheet_100 rfl ?_
            refine g_if_eq (tgt := 171) hC dL_isSheet_102 (by decide) (by omega) (fun c_102 => False.elim (by revert c_102; decide)) (fun c_102 => ?_)
            refine g_iload hC dL_isSheet_105 rfl ?_
            refine g_if_lt (tgt := 167) hC dL_isSheet_107 (by decide) (by omega) (fun c_107 => False.elim (by omega)) (fun c_107 => ?_)
            refine g_iload hC dL_isSheet_110 rfl ?_
            refine g_bipush (z := 40) hC dL_isSheet_112 rfl ?_
            refine g_icmp_ge (tgt := 167) hC dL_isSheet_114 (by decide) (by omega) (by omega) (fun c_114 => False.elim (by omega)) (fun c_114 => ?_)
            refine g_iload hC dL_isSheet_117 rfl ?_
            refine g_if_lt (tgt := 167) hC dL_isSheet_119 (by decide) (by omega) (fun c_119 => False.elim (by omega)) (fun c_119 => ?_)
            refine g_iload hC dL_isSheet_122 rfl ?_
            refine g_bipush (z := 24) hC dL_isSheet_124 rfl ?_
            refine g_icmp_ge (tgt := 167) hC dL_isSheet_126 (by decide) (by omega) (by omega) (fun c_126 => False.elim (by omega)) (fun c_126 => ?_)
            refine g_ald_n hC dL_isSheet_129 rfl ?_
            refine g_iconst hC dL_isSheet_130 rfl ?_
            refine g_iload hC dL_isSheet_131 rfl ?_
            refine g_imul hC dL_isSheet_133 ?_
            refine g_iconst hC dL_isSheet_134 rfl ?_
            refine g_iadd hC dL_isSheet_135 ?_
            refine g_ialdK hC (3 * s + 2) dL_isSheet_136 f7 (by omega) (by omega) (by omega) ?_
            refine g_top (b := F 14 s) (q2) ?_
            refine g_iconst hC dL_isSheet_137 rfl ?_
            refine g_icmp_eq (tgt := 163) hC dL_isSheet_138 (by decide) (by omega) (by omega) (fun c_138 => ?_) (fun c_138 => ?_)
            · refine g_iconst hC dL_isSheet_163 rfl ?_
              refine g_goto (tgt := 194) hC dL_isSheet_164 (by decide) ?_
              exact j_194
            · have qc := d2 c_138
              refine g_iload hC dL_isSheet_141 rfl ?_
              refine g_ald_n hC dL_isSheet_143 rfl ?_
              refine g_iconst hC dL_isSheet_144 rfl ?_
              refine g_iload hC dL_isSheet_145 rfl ?_
              refine g_imul hC dL_isSheet_147 ?_
              refine g_ialdK hC (5 * k) dL_isSheet_148 f6 (by omega) (by omega) (by omega) ?_
              refine g_top (b := F 4 k) (p0) ?_
              refine g_ald_n hC dL_isSheet_149 rfl ?_
              refine g_iconst hC dL_isSheet_150 rfl ?_
              refine g_iload hC dL_isSheet_151 rfl ?_
              refine g_imul hC dL_isSheet_153 ?_
              refine g_ialdK hC (3 * s) dL_isSheet_154 f7 (by omega) (by omega) (by omega) ?_
              refine g_top (b := F 12 s) (q0) ?_
              refine g_isub hC dL_isSheet_155 ?_
              refine g_iconst hC dL_isSheet_156 rfl ?_
              refine g_imul hC dL_isSheet_157 ?_
              refine g_iconst hC dL_isSheet_158 rfl ?_
              refine g_idiv hC dL_isSheet_159 (by omega) (by omega) ?_
              refine g_icmp_ne (tgt := 167) hC dL_isSheet_160 (by decide) (by omega) (by omega) (fun c_160 => False.elim (by omega)) (fun c_160 => ?_)
              refine g_iconst hC dL_isSheet_163 rfl ?_
              refine g_goto (tgt := 194) hC dL_isSheet_164 (by decide) ?_
              exact j_194
        · refine g_iload hC dL_isSheet_74 rfl ?_
          refine g_iload hC dL_isSheet_76 rfl ?_
          refine g_if_eq (tgt := 96) hC dL_isSheet_78 (by decide) (by omega) (fun c_78 => False.elim (by revert c_78; decide)) (fun c_78 => ?_)
          refine g_ald_n hC dL_isSheet_81 rfl ?_
          refine g_iconst hC dL_isSheet_82 rfl ?_
          refine g_iload hC dL_isSheet_83 rfl ?_
          refine g_imul hC dL_isSheet_85 ?_
          refine g_iconst hC dL_isSheet_86 rfl ?_
          refine g_iadd hC dL_isSheet_87 ?_
          refine g_ialdK hC (5 * k + 4) dL_isSheet_88 f6 (by omega) (by omega) (by omega) ?_
          refine g_top (b := lnF F (z 0) k) (p4) ?_
          refine g_if_le (tgt := 96) hC dL_isSheet_89 (by decide) (by omega) (fun hz => ?_) (fun hz => ?_)
          · refine g_iconst hC dL_isSheet_96 rfl ?_
            refine g_iadd hC dL_isSheet_97 ?_
            refine g_top (b := ((nmL F s (z 0) (k + 1)).length : Int)) (by have e_ := nl_no (F := F) (s := s) (d := z 0) (k := k) (Or.inr (Classical.byContradiction (fun q => by have := hl9.2.2.1.mpr q; omega))); omega) ?_
            exact j_98
          · refine g_iconst hC dL_isSheet_92 rfl ?_
            refine g_goto (tgt := 97) hC dL_isSheet_93 (by decide) ?_
            refine g_iadd hC dL_isSheet_97 ?_
            refine g_top (b := ((nmL F s (z 0) (k + 1)).length : Int)) (by have e_ := nl_yes (F := F) (s := s) (d := z 0) (k := k) hon (hl9.2.2.1.mp (by omega)); omega) ?_
            exact j_98
      · have hof : qOn F s k = false := by cases e_ : qOn F s k with | false => rfl | true => exact absurd e_ hon
        have d9 : ∀ b : Bool, dotV F s k b = -1 := fun b => by unfold dotV; rw [if_neg hon]
        have hC0 : (lay0 F s (z 3).toNat (z 0)).1 k = -1 := Classical.byContradiction (fun q => hon ((sh_all (s := s) (on := z 0) hI hnp).2.2 k hk q).1.1)
        refine g_callSW (rest := []) hC (kL_dot hl hCI1 hAn.1 s k hs hk3 false gh1 hR1) gcw_68 rfl ⟨by decide, by decide⟩ ⟨by show 1 + 6 * k + 2 ≤ 105; omega, by show 64 + 36 * k + 12 ≤ 688; omega⟩ (Nat.le_of_ble_eq_true rfl) rfl dL_isSheet_37 (fun r g_ hp => ?_)
        obtain ⟨rfl, hgh⟩ := hp
        rw [hgh]
        clear hgh
        refine gV.eqs (st' := [vi (dotV F s k false)]) rfl rfl rfl ?_
        refine g_top (b := -1) (d9 false) ?_
        refine g_istore (lv' := [some (.ref oa), some (.ref ga), some (.ref pa), some (.ref qa), some (vi ((s : Int))), some (.ref ma), some (vi (sumW (lay0 F s (z 3).toNat (z 0)).1 (F 6) k)), some (vi (((nmL F s (z 0) k).length : Int))), some (vi (1)), some (vi ((k : Int))), some (vi ((-1))), none, none, none, none, none, none, none]) hC dL_isSheet_40 (by decide) rfl ?_
        refine g_ald_n hC dL_isSheet_42 rfl ?_
        refine g_iload hC dL_isSheet_43 rfl ?_
        refine g_iload hC dL_isSheet_45 rfl ?_
        refine g_iconst hC dL_isSheet_47 rfl ?_
        refine g_callSW (rest := []) hC (kL_dot hl hCI1 hAn.1 s k hs hk3 true gh1 hR1) gcw_68 rfl ⟨by decide, by decide⟩ ⟨by show 1 + 6 * k + 2 + 2 ≤ 105; omega, by show 64 + 36 * k + 12 + 12 ≤ 688; omega⟩ (Nat.le_of_ble_eq_true rfl) rfl dL_isSheet_48 (fun r g_ hp => ?_)
        obtain ⟨rfl, hgh⟩ := hp
        rw [hgh]
        clear hgh
        refine gV.eqs (st' := [vi (dotV F s k true)]) rfl rfl rfl ?_
        refine g_top (b := -1) (d9 true) ?_
        refine g_istore (lv' := [some (.ref oa), some (.ref ga), some (.ref pa), some (.ref qa), some (vi ((s : Int))), some (.ref ma), some (vi (sumW (lay0 F s (z 3).toNat (z 0)).1 (F 6) k)), some (vi (((nmL F s (z 0) k).length : Int))), some (vi (1)), some (vi ((k : Int))), some (vi ((-1))), some (vi ((-1))), none, none, none, none, none, none]) hC dL_isSheet_51 (by decide) rfl ?_
        refine g_ald_n hC dL_isSheet_53 rfl ?_
        refine g_iload hC dL_isSheet_54 rfl ?_
        refine g_iload hC dL_isSheet_56 rfl ?_
        refine g_callSW (rest := []) hC (kL_side hl hCI1 hAn.1 s k hs hk3 gh1 hR1) gcw_73 rfl ⟨by decide, by decide⟩ ⟨by show 1 + 6 * k + 2 + 2 + 2 ≤ 105; omega, by show 64 + 36 * k + 12 + 12 + 12 ≤ 688; omega⟩ (Nat.le_of_ble_eq_true rfl) rfl dL_isSheet_58 (fun r g_ hp => ?_)
        obtain ⟨rfl, hgh⟩ := hp
        rw [hgh]
        clear hgh
        refine gV.eqs (st' := [vi ((lay0 F s (z 3).toNat (z 0)).1 k)]) rfl rfl rfl ?_
        refine g_top (b := -1) hC0 ?_
        refine g_istore (lv' := [some (.ref oa), some (.ref ga), some (.ref pa), some (.ref qa), some (vi ((s : Int))), some (.ref ma), some (vi (sumW (lay0 F s (z 3).toNat (z 0)).1 (F 6) k)), some (vi (((nmL F s (z 0) k).length : Int))), some (vi (1)), some (vi ((k : Int))), some (vi ((-1))), some (vi ((-1))), some (vi ((-1))), none, none, none, none, none]) hC dL_isSheet_61 (by decide) rfl ?_
        refine g_ald_n hC dL_isSheet_63 rfl ?_
        refine g_ald_n hC dL_isSheet_64 rfl ?_
        refine g_iload hC dL_isSheet_65 rfl ?_
        refine g_iload hC dL_isSheet_67 rfl ?_
        refine g_callS (rest := []) hC (kL_isOn hl hLI1 hAn s k hs hk3 gh1 hR1) gc_RL_76 rfl ⟨by decide, by decide⟩ ⟨by show 1 + 6 * k + 2 + 2 + 2 + 0 ≤ 105; omega, by show 64 + 36 * k + 12 + 12 + 12 + 0 ≤ 688; omega⟩ (Nat.le_of_ble_eq_true rfl) rfl dL_isSheet_69 (fun r g2_ hp => ?_)
        obtain ⟨rfl, hgh⟩ := hp
        rw [hgh]
        clear hgh
        refine gV.eqs (st' := [vi (b2i (qOn F s k))]) rfl rfl rfl ?_
        refine g_top (b := 0) (by rw [hof]; rfl) ?_
        refine g_istore (lv' := [some (.ref oa), some (.ref ga), some (.ref pa), some (.ref qa), some (vi ((s : Int))), some (.ref ma), some (vi (sumW (lay0 F s (z 3).toNat (z 0)).1 (F 6) k)), some (vi (((nmL F s (z 0) k).length : Int))), some (vi (1)), some (vi ((k : Int))), some (vi ((-1))), some (vi ((-1))), some (vi ((-1))), some (vi (0)), none, none, none, none]) hC dL_isSheet_72 (by decide) rfl ?_
        refine g_iload hC dL_isSheet_74 rfl ?_
        refine g_iload hC dL_isSheet_76 rfl ?_
        refine g_if_eq (tgt := 96) hC dL_isSheet_78 (by decide) (by omega) (fun c_78 => ?_) (fun c_78 => False.elim (by revert c_78; decide))
        refine g_iconst hC dL_isSheet_96 rfl ?_
        refine g_iadd hC dL_isSheet_97 ?_
        refine g_istore (lv' := [some (.ref oa), some (.ref ga), some (.ref pa), some (.ref qa), some (vi ((s : Int))), some (.ref ma), some (vi (sumW (lay0 F s (z 3).toNat (z 0)).1 (F 6) k)), some (vi ((((nmL F s (z 0) k).length : Int)) + (0))), some (vi (1)), some (vi ((k : Int))), some (vi ((-1))), some (vi ((-1))), some (vi ((-1))), some (vi (0)), none, none, none, none]) hC dL_isSheet_98 (by decide) rfl ?_
        refine g_iload hC dL_isSheet_100 rfl ?_
        refine g_if_eq (tgt := 171) hC dL_isSheet_102 (by decide) (by omega) (fun c_102 => ?_) (fun c_102 => False.elim (by revert c_102; decide))
        refine g_iload hC dL_isSheet_171 rfl ?_
        refine g_iconst hC dL_isSheet_173 rfl ?_
        refine g_icmp_ne (tgt := 193) hC dL_isSheet_174 (by decide) (by omega) (by omega) (fun c_174 => False.elim (by omega)) (fun c_174 => ?_)
        refine g_iload hC dL_isSheet_177 rfl ?_
        refine g_iconst hC dL_isSheet_179 rfl ?_
        refine g_icmp_ne (tgt := 193) hC dL_isSheet_180 (by decide) (by omega) (by omega) (fun c_180 => False.elim (by omega)) (fun c_180 => ?_)
        refine g_iload hC dL_isSheet_183 rfl ?_
        refine g_iconst hC dL_isSheet_185 rfl ?_
        refine g_icmp_ne (tgt := 193) hC dL_isSheet_186 (by decide) (by omega) (by omega) (fun c_186 => False.elim (by omega)) (fun c_186 => ?_)
        refine g_iconst hC dL_isSheet_189 rfl ?_
        refine g_goto (tgt := 194) hC dL_isSheet_190 (by decide) ?_
        refine g_istore (lv' := [some (.ref oa), some (.ref ga), some (.ref pa), some (.ref qa), some (vi ((s : Int))), some (.ref ma), some (vi (sumW (lay0 F s (z 3).toNat (z 0)).1 (F 6) k)), some (vi ((((nmL F s (z 0) k).length : Int)) + (0))), some (vi (1)), some (vi ((k : Int))), some (vi ((-1))), some (vi ((-1))), some (vi ((-1))), some (vi (0)), none, none, none, none]) hC dL_isSheet_194 (by decide) rfl ?_
        refine g_iload hC dL_isSheet_196 rfl ?_
        refine g_if_eq (tgt := 233) hC dL_isSheet_198 (by decide) (by omega) (fun c_198 => False.elim (by revert c_198; decide)) (fun c_198 => ?_)
        refine g_iload hC dL_isSheet_201 rfl ?_
        refine g_iconst hC dL_isSheet_203 rfl ?_
        refine g_icmp_lt (tgt := 233) hC dL_isSheet_204 (by decide) (by omega) (by omega) (fun c_204 => False.elim (by omega)) (fun c_204 => ?_)
        refine g_iload hC dL_isSheet_207 rfl ?_
        refine g_iconst hC dL_isSheet_209 rfl ?_
        refine g_icmp_ge (tgt := 233) hC dL_isSheet_210 (by decide) (by omega) (by omega) (fun c_210 => False.elim (by omega)) (fun c_210 => ?_)
        refine g_iload hC dL_isSheet_213 rfl ?_
        refine g_if_lt (tgt := 229) hC dL_isSheet_215 (by decide) (by omega) (fun c_215 => ?_) (fun c_215 => False.elim (by omega))
        refine g_iconst hC dL_isSheet_229 rfl ?_
        refine g_goto (tgt := 234) hC dL_isSheet_230 (by decide) ?_
        refine g_istore (lv' := [some (.ref oa), some (.ref ga), some (.ref pa), some (.ref qa), some (vi ((s : Int))), some (.ref ma), some (vi (sumW (lay0 F s (z 3).toNat (z 0)).1 (F 6) k)), some (vi ((((nmL F s (z 0) k).length : Int)) + (0))), some (vi (1)), some (vi ((k : Int))), some (vi ((-1))), some (vi ((-1))), some (vi ((-1))), some (vi (0)), none, none, none, none]) hC dL_isSheet_234 (by decide) rfl ?_
        refine g_iload hC dL_isSheet_236 rfl ?_
        refine g_iload hC dL_isSheet_238 rfl ?_
        refine g_if_ge (tgt := 247) hC dL_isSheet_240 (by decide) (by omega) (fun c_240 => False.elim (by omega)) (fun c_240 => ?_)
        refine g_iconst hC dL_isSheet_243 rfl ?_
        refine g_goto (tgt := 255) hC dL_isSheet_244 (by decide) ?_
        refine g_iadd hC dL_isSheet_255 ?_
        refine g_istore (lv' := [some (.ref oa), some (.ref ga), some (.ref pa), some (.ref qa), some (vi ((s : Int))), some (.ref ma), some (vi ((sumW (lay0 F s (z 3).toNat (z 0)).1 (F 6) k) + (0))), some (vi ((((nmL F s (z 0) k).length : Int)) + (0))), some (vi (1)), some (vi ((k : Int))), some (vi ((-1))), some (vi ((-1))), some (vi ((-1))), some (vi (0)), none, none, none, none]) hC dL_isSheet_256 (by decide) rfl ?_
        refine g_iload hC dL_isSheet_258 rfl ?_
        refine g_iconst hC dL_isSheet_260 rfl ?_
        refine g_icmp_ne (tgt := 271) hC dL_isSheet_261 (by decide) (by omega) (by omega) (fun c_261 => ?_) (fun c_261 => False.elim (by omega))
        refine g_iload hC dL_isSheet_271 rfl ?_
        refine g_iconst hC dL_isSheet_273 rfl ?_
        refine g_icmp_ne (tgt := 284) hC dL_isSheet_274 (by decide) (by omega) (by omega) (fun c_274 => ?_) (fun c_274 => False.elim (by omega))
        refine g_iload hC dL_isSheet_284 rfl ?_
        refine g_istore (lv' := [some (.ref oa), some (.ref ga), some (.ref pa), some (.ref qa), some (vi ((s : Int))), some (.ref ma), some (vi ((sumW (lay0 F s (z 3).toNat (z 0)).1 (F 6) k) + (0))), some (vi ((((nmL F s (z 0) k).length : Int)) + (0))), some (vi (1)), some (vi ((k : Int))), some (vi ((-1))), some (vi ((-1))), some (vi ((-1))), some (vi (0)), some (vi ((-1))), none, none, none]) hC dL_isSheet_286 (by decide) rfl ?_
        refine g_iload hC dL_isSheet_288 rfl ?_
        refine g_if_ne (tgt := 300) hC dL_isSheet_290 (by decide) (by omega) (fun c_290 => ?_) (fun c_290 => False.elim (by omega))
        refine g_iload hC dL_isSheet_300 rfl ?_
        refine g_iconst hC dL_isSheet_302 rfl ?_
        refine g_icmp_ne (tgt := 320) hC dL_isSheet_303 (by decide) (by omega) (by omega) (fun c_303 => ?_) (fun c_303 => False.elim (by omega))
        refine g_iload hC dL_isSheet_320 rfl ?_
        refine g_ald_n hC dL_isSheet_322 rfl ?_
        refine g_iconst hC dL_isSheet_323 rfl ?_
        refine g_iload hC dL_isSheet_324 rfl ?_
        refine g_imul hC dL_isSheet_326 ?_
        refine g_iconst hC dL_isSheet_327 rfl ?_
        refine g_iadd hC dL_isSheet_328 ?_
        refine g_ialdK hC (5 * k + 4) dL_isSheet_329 f6 (by omega) (by omega) (by omega) ?_
        refine g_top (b := lnF F (z 0) k) (p4) ?_
        refine g_iconst hC dL_isSheet_330 rfl ?_
        refine g_idiv hC dL_isSheet_331 (by omega) (by omega) ?_
        refine g_isub hC dL_isSheet_332 ?_
        refine g_istore (lv' := [some (.ref oa), some (.ref ga), some (.ref pa), some (.ref qa), some (vi ((s : Int))), some (.ref ma), some (vi ((sumW (lay0 F s (z 3).toNat (z 0)).1 (F 6) k) + (0))), some (vi ((((nmL F s (z 0) k).length : Int)) + (0))), some (vi (1)), some (vi ((k : Int))), some (vi ((-1))), some (vi ((-1))), some (vi ((-1))), some (vi (0)), some (vi ((-1))), some (vi (((-1)) - ((lnF F (z 0) k) / (2)))), none, none]) hC dL_isSheet_333 (by decide) rfl ?_
        refine g_iconst hC dL_isSheet_335 rfl ?_
        refine g_istore (lv' := [some (.ref oa), some (.ref ga), some (.ref pa), some (.ref qa), some (vi ((s : Int))), some (.ref ma), some (vi ((sumW (lay0 F s (z 3).toNat (z 0)).1 (F 6) k) + (0))), some (vi ((((nmL F s (z 0) k).length : Int)) + (0))), some (vi (1)), some (vi ((k : Int))), some (vi ((-1))), some (vi ((-1))), some (vi ((-1))), some (vi (0)), some (vi ((-1))), some (vi (((-1)) - ((lnF F (z 0) k) / (2)))), some (vi (0)), none]) hC dL_isSheet_336 (by decide) rfl ?_
        refine g_iload hC dL_isSheet_338 rfl ?_
        refine g_ald_n hC dL_isSheet_340 rfl ?_
        refine g_iconst hC dL_isSheet_341 rfl ?_
        refine g_iload hC dL_isSheet_342 rfl ?_
        refine g_imul hC dL_isSheet_344 ?_
        refine g_iconst hC dL_isSheet_345 rfl ?_
        refine g_iadd hC dL_isSheet_346 ?_
        refine g_ialdK hC (5 * k + 4) dL_isSheet_347 f6 (by omega) (by omega) (by omega) ?_
        refine g_top (b := lnF F (z 0) k) (p4) ?_
        refine g_icmp_ge (tgt := 471) hC dL_isSheet_348 (by decide) (by omega) (by omega) (fun hz2 => ?_) (fun hz2 => ?_)
        · refine g_iinc (lv' := [some (.ref oa), some (.ref ga), some (.ref pa), some (.ref qa), some (vi ((s : Int))), some (.ref ma), some (vi ((sumW (lay0 F s (z 3).toNat (z 0)).1 (F 6) k) + (0))), some (vi ((((nmL F s (z 0) k).length : Int)) + (0))), some (vi (1)), some (vi ((k : Int) + 1)), some (vi ((-1))), some (vi ((-1))), some (vi ((-1))), some (vi (0)), some (vi ((-1))), some (vi (((-1)) - ((lnF F (z 0) k) / (2)))), some (vi (0)), none]) hC dL_isSheet_471 (by decide) rfl rfl ?_
          refine g_goto (tgt := 18) hC dL_isSheet_474 (by decide) ?_
          refine gV.drop (lv' := [some (.ref oa), some (.ref ga), some (.ref pa), some (.ref qa), some (vi ((s : Int))), some (.ref ma), some (vi ((sumW (lay0 F s (z 3).toNat (z 0)).1 (F 6) k) + (0))), some (vi ((((nmL F s (z 0) k).length : Int)) + (0))), some (vi (1)), some (vi ((k : Int) + 1)), none, none, none, none, none, none, none, none]) (by intro k v hk; match k, hk with | 0, hk => exact hk | 1, hk => exact hk | 2, hk => exact hk | 3, hk => exact hk | 4, hk => exact hk | 5, hk => exact hk | 6, hk => exact hk | 7, hk => exact hk | 8, hk => exact hk | 9, hk => exact hk | 10, hk => exact absurd hk (by simp) | 11, hk => exact absurd hk (by simp) | 12, hk => exact absurd hk (by simp) | 13, hk => exact absurd hk (by simp) | 14, hk => exact absurd hk (by simp) | 15, hk => exact absurd hk (by simp) | 16, hk => exact absurd hk (by simp) | 17, hk => exact absurd hk (by simp) | k + 18, hk => exact absurd hk (by simp)) ?_
          refine gV.widen (k := 1 + 6 * (k + 1)) (n := 64 + 36 * (k + 1)) (by omega) (by omega) ?_
          exact gV.eqs (lv' := [some (.ref oa), some (.ref ga), some (.ref pa), some (.ref qa), some (vi ((s : Int))), some (.ref ma), some (vi (sumW (lay0 F s (z 3).toNat (z 0)).1 (F 6) (k + 1))), some (vi (((nmL F s (z 0) (k + 1)).length : Int))), some (vi (1)), some (vi (((k + 1 : Nat) : Int))), none, none, none, none, none, none, none, none]) (lcons rfl (lcons rfl (lcons rfl (lcons rfl (lcons rfl (lcons rfl (lcons (svi (by show sumW (lay0 F s (z 3).toNat (z 0)).1 (F 6) k + 0 = sumW (lay0 F s (z 3).toNat (z 0)).1 (F 6) (k + 1); rw [sumW_s, if_pos hC0])) (lcons (svi (by have e_ := nl_no (F := F) (s := s) (d := z 0) (k := k) (Or.inl hof); omega)) (lcons rfl (lcons (svi (by omega)) (lcons rfl (lcons rfl (lcons rfl (lcons rfl (lcons rfl (lcons rfl (lcons rfl (lcons rfl rfl)))))))))))))))))) rfl rfl (ih _ _ hR0 (IM_s hIM))
        · refine g_iload hC dL_isSheet_351 rfl ?_
          refine g_if_lt (tgt := 471) hC dL_isSheet_353 (by decide) (by omega) (fun c_353 => ?_) (fun c_353 => False.elim (by omega))
          refine g_iinc (lv' := [some (.ref oa), some (.ref ga), some (.ref pa), some (.ref qa), some (vi ((s : Int))), some (.ref ma), some (vi ((sumW (lay0 F s (z 3).toNat (z 0)).1 (F 6) k) + (0))), some (vi ((((nmL F s (z 0) k).length : Int)) + (0))), some (vi (1)), some (vi ((k : Int) + 1)), some (vi ((-1))), some (vi ((-1))), some (vi ((-1))), some (vi (0)), some (vi ((-1))), some (vi (((-1)) - ((lnF F (z 0) k) / (2)))), some (vi (0)), none]) hC dL_isSheet_471 (by decide) rfl rfl ?_
          refine g_goto (tgt := 18) hC dL_isSheet_474 (by decide) ?_
          refine gV.drop (lv' := [some (.ref oa), some (.ref ga), some (.ref pa), some (.ref qa), some (vi ((s : Int))), some (.ref ma), some (vi ((sumW (lay0 F s (z 3).toNat (z 0)).1 (F 6) k) + (0))), some (vi ((((nmL F s (z 0) k).length : Int)) + (0))), some (vi (1)), some (vi ((k : Int) + 1)), none, none, none, none, none, none, none, none]) (by intro k v hk; match k, hk with | 0, hk => exact hk | 1, hk => exact hk | 2, hk => exact hk | 3, hk => exact hk | 4, hk => exact hk | 5, hk => exact hk | 6, hk => exact hk | 7, hk => exact hk | 8, hk => exact hk | 9, hk => exact hk | 10, hk => exact absurd hk (by simp) | 11, hk => exact absurd hk (by simp) | 12, hk => exact absurd hk (by simp) | 13, hk => exact absurd hk (by simp) | 14, hk => exact absurd hk (by simp) | 15, hk => exact absurd hk (by simp) | 16, hk => exact absurd hk (by simp) | 17, hk => exact absurd hk (by simp) | k + 18, hk => exact absurd hk (by simp)) ?_
          refine gV.widen (k := 1 + 6 * (k + 1)) (n := 64 + 36 * (k + 1)) (by omega) (by omega) ?_
          exact gV.eqs (lv' := [some (.ref oa), some (.ref ga), some (.ref pa), some (.ref qa), some (vi ((s : Int))), some (.ref ma), some (vi (sumW (lay0 F s (z 3).toNat (z 0)).1 (F 6) (k + 1))), some (vi (((nmL F s (z 0) (k + 1)).length : Int))), some (vi (1)), some (vi (((k + 1 : Nat) : Int))), none, none, none, none, none, none, none, none]) (lcons rfl (lcons rfl (lcons rfl (lcons rfl (lcons rfl (lcons rfl (lcons (svi (by show sumW (lay0 F s (z 3).toNat (z 0)).1 (F 6) k + 0 = sumW (lay0 F s (z 3).toNat (z 0)).1 (F 6) (k + 1); rw [sumW_s, if_pos hC0])) (lcons (svi (by have e_ := nl_no (F := F) (s := s) (d := z 0) (k := k) (Or.inl hof); omega)) (lcons rfl (lcons (svi (by omega)) (lcons rfl (lcons rfl (lcons rfl (lcons rfl (lcons rfl (lcons rfl (lcons rfl (lcons rfl rfl)))))))))))))))))) rfl rfl (ih _ _ hR0 (IM_s hIM))
    · intro M gh1 hR1 hIM
      obtain ⟨ct1, ect1⟩ : ∃ y_, y_ = cup ct (34, 0, 0) (gI 1 64 M) := ⟨_, rfl⟩
      rw [← ect1] at hR1
      have hCI1 : CI adn z F ct1 := by rw [ect1]; exact hCn.put (34, 0, 0) (by decide) _
      have d301 : ct1 (30, 0, 0) = some (gI 1 6 G) := by rw [ect1, cup_ne (by simp)]; exact c30
      have d311 : ct1 (31, 0, 0) = some (gI 1 50 P) := by rw [ect1, cup_ne (by simp)]; exact c31
      have d321 : ct1 (32, 0, 0) = some (gI 1 12 Q) := by rw [ect1, cup_ne (by simp)]; exact c32
      have d331 : ct1 (33, 0, 0) = some (gI 1 20 E) := by rw [ect1, cup_ne (by simp)]; exact c33
      have d341 : ct1 (34, 0, 0) = some (gI 1 64 M) := by rw [ect1]; exact cup_eq
      have hLI1 : LI adn z F ct1 G P Q E := ⟨hCI1, ⟨d301, d311, d321, d331⟩, hLI.2.2⟩
      have f17 : gh1 ga = some (gI 1 6 (G)) := by have h9_ := hR1.1 (30, 0, 0) _ d301; rw [hAn.2.1] at h9_; exact h9_
      have f18 : gh1 pa = some (gI 1 50 (P)) := by have h9_ := hR1.1 (31, 0, 0) _ d311; rw [hAn.2.2.1] at h9_; exact h9_
      have f19 : gh1 qa = some (gI 1 12 (Q)) := by have h9_ := hR1.1 (32, 0, 0) _ d321; rw [hAn.2.2.2.1] at h9_; exact h9_
      have f20 : gh1 ea = some (gI 1 20 (E)) := by have h9_ := hR1.1 (33, 0, 0) _ d331; rw [hAn.2.2.2.2] at h9_; exact h9_
      have fm1 : gh1 ma = some (gI 1 64 (M)) := by have h9_ := hR1.1 (34, 0, 0) _ d341; rw [am] at h9_; exact h9_
      refine g_iload hC dL_isSheet_18 rfl ?_
      refine g_ald_n hC dL_isSheet_20 rfl ?_
      refine g_iconst hC dL_isSheet_21 rfl ?_
      refine g_ialdK hC (0) dL_isSheet_22 f17 (by omega) (by omega) (by omega) ?_
      refine g_top (b := z 3) (g0) ?_
      refine g_icmp_ge (tgt := 477) hC dL_isSheet_23 (by decide) (by omega) (by omega) (fun c_23 => ?_) (fun c_23 => False.elim (by omega))
      refine g_iconst hC dL_isSheet_477 rfl ?_
      refine g_istore (lv' := [some (.ref oa), some (.ref ga), some (.ref pa), some (.ref qa), some (vi ((s : Int))), some (.ref ma), some (vi (sumW (lay0 F s (z 3).toNat (z 0)).1 (F 6) ((z 3).toNat))), some (vi (((nmL F s (z 0) ((z 3).toNat)).length : Int))), some (vi (1)), some (vi (0)), none, none, none, none, none, none, none, none]) hC dL_isSheet_478 (by decide) rfl ?_
      have l2 : ∀ k : Nat, k ≤ (z 3).toNat → gV x D base 18 480 [some (.ref oa), some (.ref ga), some (.ref pa), some (.ref qa), some (vi ((s : Int))), some (.ref ma), some (vi (sumW (lay0 F s (z 3).toNat (z 0)).1 (F 6) ((z 3).toNat))), some (vi (((nmL F s (z 0) ((z 3).toNat)).length : Int))), some (vi (1)), some (vi ((k : Int))), none, none, none, none, none, none, none, none] [] gh1 (1 + 6 * (z 3).toNat + 4 * k) (64 + 36 * (z 3).toNat + 24 * k) := by
        refine g_for _ (fun k hk ih => ?_) ?_
        · have hk3 : (k : Int) < z 3 := by omega
          refine g_iload hC dL_isSheet_480 rfl ?_
          refine g_ald_n hC dL_isSheet_482 rfl ?_
          refine g_iconst hC dL_isSheet_483 rfl ?_
          refine g_ialdK hC (0) dL_isSheet_484 f17 (by omega) (by omega) (by omega) ?_
          refine g_top (b := z 3) (g0) ?_
          refine g_icmp_ge (tgt := 563) hC dL_isSheet_485 (by decide) (by omega) (by omega) (fun c_485 => False.elim (by omega)) (fun c_485 => ?_)
          refine g_iload hC dL_isSheet_488 rfl ?_
          refine g_if_eq (tgt := 563) hC dL_isSheet_490 (by decide) (by omega) (fun c_490 => False.elim (by revert c_490; decide)) (fun c_490 => ?_)
          refine g_ald_n hC dL_isSheet_493 rfl ?_
          refine g_iload hC dL_isSheet_494 rfl ?_
          refine g_iload hC dL_isSheet_496 rfl ?_
          refine g_iconst hC dL_isSheet_498 rfl ?_
          by_cases hon : qOn F s k = true
          · have hr := qRow_rng hon
            have hc := qCol_rng hon
            have d1 : dotV F s k true = qRow F s k := by unfold dotV; rw [if_pos hon, if_pos rfl]
            have d0 : dotV F s k false = qCol F s k := by unfold dotV; rw [if_pos hon, if_neg (by decide)]
            refine g_callSW (rest := []) hC (kL_dot hl hCI1 hAn.1 s k hs hk3 false gh1 hR1) gcw_68 rfl ⟨by decide, by decide⟩ ⟨by show 1 + 6 * (z 3).toNat + 4 * k + 2 ≤ 105; omega, by show 64 + 36 * (z 3).toNat + 24 * k + 12 ≤ 688; omega⟩ (Nat.le_of_ble_eq_true rfl) rfl dL_isSheet_499 (fun r g_ hp => ?_)
            obtain ⟨rfl, hgh⟩ := hp
            rw [hgh]
            clear hgh
            refine gV.eqs (st' := [vi (dotV F s k false)]) rfl rfl rfl ?_
            refine g_top (b := qCol F s k) d0 ?_
            refine g_istore (lv' := [some (.ref oa), some (.ref ga), some (.ref pa), some (.ref qa), some (vi ((s : Int))), some (.ref ma), some (vi (sumW (lay0 F s (z 3).toNat (z 0)).1 (F 6) ((z 3).toNat))), some (vi (((nmL F s (z 0) ((z 3).toNat)).length : Int))), some (vi (1)), some (vi ((k : Int))), some (vi (qCol F s k)), none, none, none, none, none, none, none]) hC dL_isSheet_502 (by decide) rfl ?_
            refine g_ald_n hC dL_isSheet_504 rfl ?_
            refine g_iload hC dL_isSheet_505 rfl ?_
            refine g_iload hC dL_isSheet_507 rfl ?_
            refine g_iconst hC dL_isSheet_509 rfl ?_
            refine g_callSW (rest := []) hC (kL_dot hl hCI1 hAn.1 s k hs hk3 true gh1 hR1) gcw_68 rfl ⟨by decide, by decide⟩ ⟨by show 1 + 6 * (z 3).toNat + 4 * k + 2 + 2 ≤ 105; omega, by show 64 + 36 * (z 3).toNat + 24 * k + 12 + 12 ≤ 688; omega⟩ (Nat.le_of_ble_eq_true rfl) rfl dL_isSheet_510 (fun r g_ hp => ?_)
            obtain ⟨rfl, hgh⟩ := hp
            rw [hgh]
            clear hgh
            refine gV.eqs (st' := [vi (dotV F s k true)]) rfl rfl rfl ?_
            refine g_top (b := qRow F s k) d1 ?_
            have hix := ix_at (r := qRow F s k) (c := qCol F s k) hr hc
            obtain ⟨j0, ej0⟩ : ∃ y_ : Nat, y_ = (40 * qRow F s k + qCol F s k).toNat := ⟨_, rfl⟩
            rw [← ej0] at hix
            obtain ⟨hj0, hix, hbi⟩ := hix
            have hclr : mB M j0 = false := by rw [ej0]; exact dot_clear hI hnp hk hon hIM
            refine g_istore (lv' := [some (.ref oa), some (.ref ga), some (.ref pa), some (.ref qa), some (vi ((s : Int))), some (.ref ma), some (vi (sumW (lay0 F s (z 3).toNat (z 0)).1 (F 6) ((z 3).toNat))), some (vi (((nmL F s (z 0) ((z 3).toNat)).length : Int))), some (vi (1)), some (vi ((k : Int))), some (vi (qCol F s k)), some (vi (qRow F s k)), none, none, none, none, none, none]) hC dL_isSheet_513 (by decide) rfl ?_
            refine g_iload hC dL_isSheet_515 rfl ?_
            refine g_if_lt (tgt := 550) hC dL_isSheet_517 (by decide) (by omega) (fun c_517 => False.elim (by omega)) (fun c_517 => ?_)
            refine g_ald hC dL_isSheet_520 rfl ?_
            refine g_iload hC dL_isSheet_522 rfl ?_
            refine g_iload hC dL_isSheet_524 rfl ?_
            refine g_bipush (z := 31) hC dL_isSheet_526 rfl ?_
            refine g_icmp_le (tgt := 536) hC dL_isSheet_528 (by decide) (by omega) (by omega) (fun h31 => ?_) (fun h31 => ?_)
            · rw [if_neg (by omega)] at hix
              refine g_iconst hC dL_isSheet_536 rfl ?_
              refine g_iadd hC dL_isSheet_537 ?_
              refine g_ialdK hC (ixM j0) dL_isSheet_538 fm1 (by omega) (ixM_lt hj0) (by omega) ?_
              refine g_iload hC dL_isSheet_539 rfl ?_
              refine g_bipush (z := 31) hC dL_isSheet_541 rfl ?_
              refine g_iandR (c0 := (qCol F s k) % 32) hC dL_isSheet_543 (iI_and31 (by omega)) ?_
              refine g_ishrT hC dL_isSheet_544 ?_
              refine g_iconst hC dL_isSheet_545 rfl ?_
              refine g_iandR (c0 := b2i (bt (iI (M (ixM j0))) ((qCol F s k) % 32).toNat)) hC dL_isSheet_546 (ib_rdT (by omega)) ?_
              have hbt : bt (iI (M (ixM j0))) ((qCol F s k) % 32).toNat = false := by rw [← hbi]; exact hclr
              refine g_ifne_b (tgt := 554) hC dL_isSheet_547 (by decide)  (fun c_547 => False.elim (by rw [hbt] at c_547; cases c_547)) (fun c_547 => ?_)
              refine g_iconst hC dL_isSheet_550 rfl ?_
              refine g_goto (tgt := 555) hC dL_isSheet_551 (by decide) ?_
              refine g_istore (lv' := [some (.ref oa), some (.ref ga), some (.ref pa), some (.ref qa), some (vi ((s : Int))), some (.ref ma), some (vi (sumW (lay0 F s (z 3).toNat (z 0)).1 (F 6) ((z 3).toNat))), some (vi (((nmL F s (z 0) ((z 3).toNat)).length : Int))), some (vi (1)), some (vi ((k : Int))), some (vi (qCol F s k)), some (vi (qRow F s k)), none, none, none, none, none, none]) hC dL_isSheet_555 (by decide) rfl ?_
              refine g_iinc (lv' := [some (.ref oa), some (.ref ga), some (.ref pa), some (.ref qa), some (vi ((s : Int))), some (.ref ma), some (vi (sumW (lay0 F s (z 3).toNat (z 0)).1 (F 6) ((z 3).toNat))), some (vi (((nmL F s (z 0) ((z 3).toNat)).length : Int))), some (vi (1)), some (vi ((k : Int) + 1)), some (vi (qCol F s k)), some (vi (qRow F s k)), none, none, none, none, none, none]) hC dL_isSheet_557 (by decide) rfl rfl ?_
              refine g_goto (tgt := 480) hC dL_isSheet_560 (by decide) ?_
              refine gV.drop (lv' := [some (.ref oa), some (.ref ga), some (.ref pa), some (.ref qa), some (vi ((s : Int))), some (.ref ma), some (vi (sumW (lay0 F s (z 3).toNat (z 0)).1 (F 6) ((z 3).toNat))), some (vi (((nmL F s (z 0) ((z 3).toNat)).length : Int))), some (vi (1)), some (vi ((k : Int) + 1)), none, none, none, none, none, none, none, none]) (by intro k v hk; match k, hk with | 0, hk => exact hk | 1, hk => exact hk | 2, hk => exact hk | 3, hk => exact hk | 4, hk => exact hk | 5, hk => exact hk | 6, hk => exact hk | 7, hk => exact hk | 8, hk => exact hk | 9, hk => exact hk | 10, hk => exact absurd hk (by simp) | 11, hk => exact absurd hk (by simp) | 12, hk => exact absurd hk (by simp) | 13, hk => exact absurd hk (by simp) | 14, hk => exact absurd hk (by simp) | 15, hk => exact absurd hk (by simp) | 16, hk => exact absurd hk (by simp) | 17, hk => exact absurd hk (by simp) | k + 18, hk => exact absurd hk (by simp)) ?_
              refine gV.widen (k := 1 + 6 * (z 3).toNat + 4 * (k + 1)) (n := 64 + 36 * (z 3).toNat + 24 * (k + 1)) (by omega) (by omega) ?_
              exact gV.eqs (lv' := [some (.ref oa), some (.ref ga), some (.ref pa), some (.ref qa), some (vi ((s : Int))), some (.ref ma), some (vi (sumW (lay0 F s (z 3).toNat (z 0)).1 (F 6) ((z 3).toNat))), some (vi (((nmL F s (z 0) ((z 3).toNat)).length : Int))), some (vi (1)), some (vi (((k + 1 : Nat) : Int))), none, none, none, none, none, none, none, none]) (lcons rfl (lcons rfl (lcons rfl (lcons rfl (lcons rfl (lcons rfl (lcons rfl (lcons rfl (lcons rfl (lcons (svi (by omega)) (lcons rfl (lcons rfl (lcons rfl (lcons rfl (lcons rfl (lcons rfl (lcons rfl (lcons rfl rfl)))))))))))))))))) rfl rfl ih
            · rw [if_pos (by omega)] at hix
              refine g_bipush (z := 24) hC dL_isSheet_531 rfl ?_
              refine g_goto (tgt := 537) hC dL_isSheet_533 (by decide) ?_
              refine g_iadd hC dL_isSheet_537 ?_
              refine g_ialdK hC (ixM j0) dL_isSheet_538 fm1 (by omega) (ixM_lt hj0) (by omega) ?_
              refine g_iload hC dL_isSheet_539 rfl ?_
              refine g_bipush (z := 31) hC dL_isSheet_541 rfl ?_
              refine g_iandR (c0 := (qCol F s k) % 32) hC dL_isSheet_543 (iI_and31 (by omega)) ?_
              refine g_ishrT hC dL_isSheet_544 ?_
              refine g_iconst hC dL_isSheet_545 rfl ?_
              refine g_iandR (c0 := b2i (bt (iI (M (ixM j0))) ((qCol F s k) % 32).toNat)) hC dL_isSheet_546 (ib_rdT (by omega)) ?_
              have hbt : bt (iI (M (ixM j0))) ((qCol F s k) % 32).toNat = false := by rw [← hbi]; exact hclr
              refine g_ifne_b (tgt := 554) hC dL_isSheet_547 (by decide)  (fun c_547 => False.elim (by rw [hbt] at c_547; cases c_547)) (fun c_547 => ?_)
              refine g_iconst hC dL_isSheet_550 rfl ?_
              refine g_goto (tgt := 555) hC dL_isSheet_551 (by decide) ?_
              refine g_istore (lv' := [some (.ref oa), some (.ref ga), some (.ref pa), some (.ref qa), some (vi ((s : Int))), some (.ref ma), some (vi (sumW (lay0 F s (z 3).toNat (z 0)).1 (F 6) ((z 3).toNat))), some (vi (((nmL F s (z 0) ((z 3).toNat)).length : Int))), some (vi (1)), some (vi ((k : Int))), some (vi (qCol F s k)), some (vi (qRow F s k)), none, none, none, none, none, none]) hC dL_isSheet_555 (by decide) rfl ?_
              refine g_iinc (lv' := [some (.ref oa), some (.ref ga), some (.ref pa), some (.ref qa), some (vi ((s : Int))), some (.ref ma), some (vi (sumW (lay0 F s (z 3).toNat (z 0)).1 (F 6) ((z 3).toNat))), some (vi (((nmL F s (z 0) ((z 3).toNat)).length : Int))), some (vi (1)), some (vi ((k : Int) + 1)), some (vi (qCol F s k)), some (vi (qRow F s k)), none, none, none, none, none, none]) hC dL_isSheet_557 (by decide) rfl rfl ?_
              refine g_goto (tgt := 480) hC dL_isSheet_560 (by decide) ?_
              refine gV.drop (lv' := [some (.ref oa), some (.ref ga), some (.ref pa), some (.ref qa), some (vi ((s : Int))), some (.ref ma), some (vi (sumW (lay0 F s (z 3).toNat (z 0)).1 (F 6) ((z 3).toNat))), some (vi (((nmL F s (z 0) ((z 3).toNat)).length : Int))), some (vi (1)), some (vi ((k : Int) + 1)), none, none, none, none, none, none, none, none]) (by intro k v hk; match k, hk with | 0, hk => exact hk | 1, hk => exact hk | 2, hk => exact hk | 3, hk => exact hk | 4, hk => exact hk | 5, hk => exact hk | 6, hk => exact hk | 7, hk => exact hk | 8, hk => exact hk | 9, hk => exact hk | 10, hk => exact absurd hk (by simp) | 11, hk => exact absurd hk (by simp) | 12, hk => exact absurd hk (by simp) | 13, hk => exact absurd hk (by simp) | 14, hk => exact absurd hk (by simp) | 15, hk => exact absurd hk (by simp) | 16, hk => exact absurd hk (by simp) | 17, hk => exact absurd hk (by simp) | k + 18, hk => exact absurd hk (by simp)) ?_
              refine gV.widen (k := 1 + 6 * (z 3).toNat + 4 * (k + 1)) (n := 64 + 36 * (z 3).toNat + 24 * (k + 1)) (by omega) (by omega) ?_
              exact gV.eqs (lv' := [some (.ref oa), some (.ref ga), some (.ref pa), some (.ref qa), some (vi ((s : Int))), some (.ref ma), some (vi (sumW (lay0 F s (z 3).toNat (z 0)).1 (F 6) ((z 3).toNat))), some (vi (((nmL F s (z 0) ((z 3).toNat)).length : Int))), some (vi (1)), some (vi (((k + 1 : Nat) : Int))), none, none, none, none, none, none, none, none]) (lcons rfl (lcons rfl (lcons rfl (lcons rfl (lcons rfl (lcons rfl (lcons rfl (lcons rfl (lcons rfl (lcons (svi (by omega)) (lcons rfl (lcons rfl (lcons rfl (lcons rfl (lcons rfl (lcons rfl (lcons rfl (lcons rfl rfl)))))))))))))))))) rfl rfl ih
          · have d9 : ∀ b : Bool, dotV F s k b = -1 := fun b => by unfold dotV; rw [if_neg hon]
            refine g_callSW (rest := []) hC (kL_dot hl hCI1 hAn.1 s k hs hk3 false gh1 hR1) gcw_68 rfl ⟨by decide, by decide⟩ ⟨by show 1 + 6 * (z 3).toNat + 4 * k + 2 ≤ 105; omega, by show 64 + 36 * (z 3).toNat + 24 * k + 12 ≤ 688; omega⟩ (Nat.le_of_ble_eq_true rfl) rfl dL_isSheet_499 (fun r g_ hp => ?_)
            obtain ⟨rfl, hgh⟩ := hp
            rw [hgh]
            clear hgh
            refine gV.eqs (st' := [vi (dotV F s k false)]) rfl rfl rfl ?_
            refine g_top (b := -1) (d9 false) ?_
            refine g_istore (lv' := [some (.ref oa), some (.ref ga), some (.ref pa), some (.ref qa), some (vi ((s : Int))), some (.ref ma), some (vi (sumW (lay0 F s (z 3).toNat (z 0)).1 (F 6) ((z 3).toNat))), some (vi (((nmL F s (z 0) ((z 3).toNat)).length : Int))), some (vi (1)), some (vi ((k : Int))), some (vi ((-1))), none, none, none, none, none, none, none]) hC dL_isSheet_502 (by decide) rfl ?_
            refine g_ald_n hC dL_isSheet_504 rfl ?_
            refine g_iload hC dL_isSheet_505 rfl ?_
            refine g_iload hC dL_isSheet_507 rfl ?_
            refine g_iconst hC dL_isSheet_509 rfl ?_
            refine g_callSW (rest := []) hC (kL_dot hl hCI1 hAn.1 s k hs hk3 true gh1 hR1) gcw_68 rfl ⟨by decide, by decide⟩ ⟨by show 1 + 6 * (z 3).toNat + 4 * k + 2 + 2 ≤ 105; omega, by show 64 + 36 * (z 3).toNat + 24 * k + 12 + 12 ≤ 688; omega⟩ (Nat.le_of_ble_eq_true rfl) rfl dL_isSheet_510 (fun r g_ hp => ?_)
            obtain ⟨rfl, hgh⟩ := hp
            rw [hgh]
            clear hgh
            refine gV.eqs (st' := [vi (dotV F s k true)]) rfl rfl rfl ?_
            refine g_top (b := -1) (d9 true) ?_
            refine g_istore (lv' := [some (.ref oa), some (.ref ga), some (.ref pa), some (.ref qa), some (vi ((s : Int))), some (.ref ma), some (vi (sumW (lay0 F s (z 3).toNat (z 0)).1 (F 6) ((z 3).toNat))), some (vi (((nmL F s (z 0) ((z 3).toNat)).length : Int))), some (vi (1)), some (vi ((k : Int))), some (vi ((-1))), some (vi ((-1))), none, none, none, none, none, none]) hC dL_isSheet_513 (by decide) rfl ?_
            refine g_iload hC dL_isSheet_515 rfl ?_
            refine g_if_lt (tgt := 550) hC dL_isSheet_517 (by decide) (by omega) (fun c_517 => ?_) (fun c_517 => False.elim (by omega))
            refine g_iconst hC dL_isSheet_550 rfl ?_
            refine g_goto (tgt := 555) hC dL_isSheet_551 (by decide) ?_
            refine g_istore (lv' := [some (.ref oa), some (.ref ga), some (.ref pa), some (.ref qa), some (vi ((s : Int))), some (.ref ma), some (vi (sumW (lay0 F s (z 3).toNat (z 0)).1 (F 6) ((z 3).toNat))), some (vi (((nmL F s (z 0) ((z 3).toNat)).length : Int))), some (vi (1)), some (vi ((k : Int))), some (vi ((-1))), some (vi ((-1))), none, none, none, none, none, none]) hC dL_isSheet_555 (by decide) rfl ?_
            refine g_iinc (lv' := [some (.ref oa), some (.ref ga), some (.ref pa), some (.ref qa), some (vi ((s : Int))), some (.ref ma), some (vi (sumW (lay0 F s (z 3).toNat (z 0)).1 (F 6) ((z 3).toNat))), some (vi (((nmL F s (z 0) ((z 3).toNat)).length : Int))), some (vi (1)), some (vi ((k : Int) + 1)), some (vi ((-1))), some (vi ((-1))), none, none, none, none, none, none]) hC dL_isSheet_557 (by decide) rfl rfl ?_
            refine g_goto (tgt := 480) hC dL_isSheet_560 (by decide) ?_
            refine gV.drop (lv' := [some (.ref oa), some (.ref ga), some (.ref pa), some (.ref qa), some (vi ((s : Int))), some (.ref ma), some (vi (sumW (lay0 F s (z 3).toNat (z 0)).1 (F 6) ((z 3).toNat))), some (vi (((nmL F s (z 0) ((z 3).toNat)).length : Int))), some (vi (1)), some (vi ((k : Int) + 1)), none, none, none, none, none, none, none, none]) (by intro k v hk; match k, hk with | 0, hk => exact hk | 1, hk => exact hk | 2, hk => exact hk | 3, hk => exact hk | 4, hk => exact hk | 5, hk => exact hk | 6, hk => exact hk | 7, hk => exact hk | 8, hk => exact hk | 9, hk => exact hk | 10, hk => exact absurd hk (by simp) | 11, hk => exact absurd hk (by simp) | 12, hk => exact absurd hk (by simp) | 13, hk => exact absurd hk (by simp) | 14, hk => exact absurd hk (by simp) | 15, hk => exact absurd hk (by simp) | 16, hk => exact absurd hk (by simp) | 17, hk => exact absurd hk (by simp) | k + 18, hk => exact absurd hk (by simp)) ?_
            refine gV.widen (k := 1 + 6 * (z 3).toNat + 4 * (k + 1)) (n := 64 + 36 * (z 3).toNat + 24 * (k + 1)) (by omega) (by omega) ?_
            exact gV.eqs (lv' := [some (.ref oa), some (.ref ga), some (.ref pa), some (.ref qa), some (vi ((s : Int))), some (.ref ma), some (vi (sumW (lay0 F s (z 3).toNat (z 0)).1 (F 6) ((z 3).toNat))), some (vi (((nmL F s (z 0) ((z 3).toNat)).length : Int))), some (vi (1)), some (vi (((k + 1 : Nat) : Int))), none, none, none, none, none, none, none, none]) (lcons rfl (lcons rfl (lcons rfl (lcons rfl (lcons rfl (lcons rfl (lcons rfl (lcons rfl (lcons rfl (lcons (svi (by omega)) (lcons rfl (lcons rfl (lcons rfl (lcons rfl (lcons rfl (lcons rfl (lcons rfl (lcons rfl rfl)))))))))))))))))) rfl rfl ih
        · refine g_iload hC dL_isSheet_480 rfl ?_
          refine g_ald_n hC dL_isSheet_482 rfl ?_
          refine g_iconst hC dL_isSheet_483 rfl ?_
          refine g_ialdK hC (0) dL_isSheet_484 f17 (by omega) (by omega) (by omega) ?_
          refine g_top (b := z 3) (g0) ?_
          refine g_icmp_ge (tgt := 563) hC dL_isSheet_485 (by decide) (by omega) (by omega) (fun c_485 => ?_) (fun c_485 => False.elim (by omega))
          refine g_ald_n hC dL_isSheet_563 rfl ?_
          refine g_iload hC dL_isSheet_564 rfl ?_
          refine g_callSW (rest := []) hC (kL_worth hl hCI1 hAn.1 s hs gh1 hR1) gcw_80 rfl ⟨by decide, by decide⟩ ⟨by show 1 + 6 * (z 3).toNat + 4 * (z 3).toNat + 2 ≤ 105; omega, by show 64 + 36 * (z 3).toNat + 24 * (z 3).toNat + 12 ≤ 688; omega⟩ (Nat.le_of_ble_eq_true rfl) rfl dL_isSheet_566 (fun r g_ hp => ?_)
          obtain ⟨rfl, hgh⟩ := hp
          rw [hgh]
          clear hgh
          refine gV.eqs (st' := [vi (sumW (lay0 F s (z 3).toNat (z 0)).1 (F 6) ((z 3).toNat))]) rfl rfl rfl ?_
          have hsw := sumW_lim (np := (z 3).toNat) hI hnp (lay0 F s (z 3).toNat (z 0)).1
          have hnl := nmL_len (F := F) (s := s) (day := z 0) (z 3).toNat
          refine g_istore (lv' := [some (.ref oa), some (.ref ga), some (.ref pa), some (.ref qa), some (vi ((s : Int))), some (.ref ma), some (vi (sumW (lay0 F s (z 3).toNat (z 0)).1 (F 6) ((z 3).toNat))), some (vi (((nmL F s (z 0) ((z 3).toNat)).length : Int))), some (vi (1)), some (vi (sumW (lay0 F s (z 3).toNat (z 0)).1 (F 6) ((z 3).toNat))), none, none, none, none, none, none, none, none]) hC dL_isSheet_569 (by decide) rfl ?_
          refine g_iload hC dL_isSheet_571 rfl ?_
          refine g_if_eq (tgt := 624) hC dL_isSheet_573 (by decide) (by omega) (fun c_573 => False.elim (by revert c_573; decide)) (fun c_573 => ?_)
          refine g_iload hC dL_isSheet_576 rfl ?_
          refine g_iload hC dL_isSheet_578 rfl ?_
          refine g_icmp_ne (tgt := 624) hC dL_isSheet_580 (by decide) (by omega) (by omega) (fun c_580 => False.elim (by omega)) (fun c_580 => ?_)
          refine g_iload hC dL_isSheet_583 rfl ?_
          refine g_iconst hC dL_isSheet_585 rfl ?_
          refine g_icmp_le (tgt := 603) hC dL_isSheet_586 (by decide) (by omega) (by omega) (fun h4 => ?_) (fun h4 => ?_)
          · refine g_iload hC dL_isSheet_603 rfl ?_
            refine g_iconst hC dL_isSheet_605 rfl ?_
            refine g_icmp_gt (tgt := 620) hC dL_isSheet_606 (by decide) (by omega) (by omega) (fun h2 => ?_) (fun h2 => ?_)
            · refine g_iconst hC dL_isSheet_620 rfl ?_
              refine g_goto (tgt := 625) hC dL_isSheet_621 (by decide) ?_
              exact g_bret (b := true) hC hq dL_isSheet_625 (by show _ ≤ 105; omega) (by show _ ≤ 688; omega) ⟨rfl, adn, ct1, z, F, G, P, Q, E, hR1, ⟨hCI1, ⟨d301, d311, d321, d331⟩, hLI.2.2⟩, hAn, Int.le_refl _, Int.le_refl _, Int.le_refl _, Int.le_refl _⟩
            · refine g_ald_n hC dL_isSheet_609 rfl ?_
              refine g_iload hC dL_isSheet_610 rfl ?_
              refine g_callSW (rest := []) hC (kL_best hl hCI1 hAn.1 s hs gh1 hR1) gcw_83 rfl ⟨by decide, by decide⟩ ⟨by show 1 + 6 * (z 3).toNat + 4 * (z 3).toNat + 2 + 2 ≤ 105; omega, by show 64 + 36 * (z 3).toNat + 24 * (z 3).toNat + 12 + 12 ≤ 688; omega⟩ (Nat.le_of_ble_eq_true rfl) rfl dL_isSheet_612 (fun r g5_ hp => ?_)
              rcases hp with ⟨hb, rfl, hx⟩ | ⟨hb, -, -⟩
              · refine gV.eqs (st' := [vi (maxW F s (z 0) (dotP F s (z 3).toNat) (nmL F s (z 0) (z 3).toNat) (5 ^ (nmL F s (z 0) (z 3).toNat).length))]) rfl rfl rfl ?_
                obtain ⟨ad21, ct22, hR23, hS24, hx25⟩ := hx
                have hA26 := hAn.x hx25
                have hCI27 : CI ad21 (z) (F) ct22 := ⟨hS24, ⟨hI, hE, hQ, h10⟩⟩
                have c28 := (hx25.1 (30, 0, 0) (Or.inr (by decide))).1.trans d301
                have c29 := (hx25.1 (31, 0, 0) (Or.inr (by decide))).1.trans d311
                have c30 := (hx25.1 (32, 0, 0) (Or.inr (by decide))).1.trans d321
                have c31 := (hx25.1 (33, 0, 0) (Or.inr (by decide))).1.trans d331
                have f32 : g5_ ga = some (gI 1 6 (G)) := by have h9_ := hR23.1 (30, 0, 0) _ c28; rw [hA26.2.1] at h9_; exact h9_
                have f33 : g5_ pa = some (gI 1 50 (P)) := by have h9_ := hR23.1 (31, 0, 0) _ c29; rw [hA26.2.2.1] at h9_; exact h9_
                have f34 : g5_ qa = some (gI 1 12 (Q)) := by have h9_ := hR23.1 (32, 0, 0) _ c30; rw [hA26.2.2.2.1] at h9_; exact h9_
                have f35 : g5_ ea = some (gI 1 20 (E)) := by have h9_ := hR23.1 (33, 0, 0) _ c31; rw [hA26.2.2.2.2] at h9_; exact h9_
                have hbest := sh_best (s := s) (on := z 0) hI hnp
                have hmx := maxW_lim (s := s) (on := z 0) hI hnp (P := dotP F s (z 3).toNat) (5 ^ (nmL F s (z 0) (z 3).toNat).length)
                refine g_iload hC dL_isSheet_615 rfl ?_
                refine g_icmp_lt (tgt := 624) hC dL_isSheet_617 (by decide) (by omega) (by omega) (fun c_617 => False.elim (by omega)) (fun c_617 => ?_)
                refine g_iconst hC dL_isSheet_620 rfl ?_
                refine g_goto (tgt := 625) hC dL_isSheet_621 (by decide) ?_
                exact g_bret (b := true) hC hq dL_isSheet_625 (by show _ ≤ 105; omega) (by show _ ≤ 688; omega) ⟨rfl, ad21, ct22, z, F, G, P, Q, E, hR23, ⟨hCI27, ⟨c28, c29, c30, c31⟩, hLI.2.2⟩, hA26, Int.le_refl _, Int.le_refl _, Int.le_refl _, Int.le_refl _⟩
              · omega
          · refine g_ald_n hC dL_isSheet_589 rfl ?_
            refine g_iload hC dL_isSheet_590 rfl ?_
            refine g_callSW (rest := []) hC (kL_best hl hCI1 hAn.1 s hs gh1 hR1) gcw_83 rfl ⟨by decide, by decide⟩ ⟨by show 1 + 6 * (z 3).toNat + 4 * (z 3).toNat + 2 + 2 ≤ 105; omega, by show 64 + 36 * (z 3).toNat + 24 * (z 3).toNat + 12 + 12 ≤ 688; omega⟩ (Nat.le_of_ble_eq_true rfl) rfl dL_isSheet_592 (fun r g5_ hp => ?_)
            rcases hp with ⟨hb, -, -⟩ | ⟨hb, rfl, hgh⟩
            · omega
            · rw [hgh]
              refine gV.eqs (st' := [vi ((-1000003))]) rfl rfl rfl ?_
              refine g_ldcI (z := (-1000003)) hC dL_isSheet_595 gk_RL_21 (by decide +kernel) ?_
              refine g_icmp_ne (tgt := 624) hC dL_isSheet_597 (by decide) (by omega) (by omega) (fun c_597 => False.elim (by omega)) (fun c_597 => ?_)
              refine g_goto (tgt := 620) hC dL_isSheet_600 (by decide) ?_
              refine g_iconst hC dL_isSheet_620 rfl ?_
              refine g_goto (tgt := 625) hC dL_isSheet_621 (by decide) ?_
              exact g_bret (b := true) hC hq dL_isSheet_625 (by show _ ≤ 105; omega) (by show _ ≤ 688; omega) ⟨rfl, adn, ct1, z, F, G, P, Q, E, hR1, ⟨hCI1, ⟨d301, d311, d321, d331⟩, hLI.2.2⟩, hAn, Int.le_refl _, Int.le_refl _, Int.le_refl _, Int.le_refl _⟩
      refine gV.drop (lv' := [some (.ref oa), some (.ref ga), some (.ref pa), some (.ref qa), some (vi ((s : Int))), some (.ref ma), some (vi (sumW (lay0 F s (z 3).toNat (z 0)).1 (F 6) ((z 3).toNat))), some (vi (((nmL F s (z 0) ((z 3).toNat)).length : Int))), some (vi (1)), some (vi (0)), none, none, none, none, none, none, none, none]) (by intro k v hk; match k, hk with | 0, hk => exact hk | 1, hk => exact hk | 2, hk => exact hk | 3, hk => exact hk | 4, hk => exact hk | 5, hk => exact hk | 6, hk => exact hk | 7, hk => exact hk | 8, hk => exact hk | 9, hk => exact hk | 10, hk => exact absurd hk (by simp) | 11, hk => exact absurd hk (by simp) | 12, hk => exact absurd hk (by simp) | 13, hk => exact absurd hk (by simp) | 14, hk => exact absurd hk (by simp) | 15, hk => exact absurd hk (by simp) | 16, hk => exact absurd hk (by simp) | 17, hk => exact absurd hk (by simp) | k + 18, hk => exact absurd hk (by simp)) ?_
      exact gV.eqs (lv' := [some (.ref oa), some (.ref ga), some (.ref pa), some (.ref qa), some (vi ((s : Int))), some (.ref ma), some (vi (sumW (lay0 F s (z 3).toNat (z 0)).1 (F 6) ((z 3).toNat))), some (vi (((nmL F s (z 0) ((z 3).toNat)).length : Int))), some (vi (1)), some (vi (((0 : Nat) : Int))), none, none, none, none, none, none, none, none]) (lcons rfl (lcons rfl (lcons rfl (lcons rfl (lcons rfl (lcons rfl (lcons rfl (lcons rfl (lcons rfl (lcons (svi (rfl)) (lcons rfl (lcons rfl (lcons rfl (lcons rfl (lcons rfl (lcons rfl (lcons rfl (lcons rfl rfl)))))))))))))))))) rfl rfl (l2 0 (Nat.zero_le _))
  exact gV.eqs (lv' := [some (.ref oa), some (.ref ga), some (.ref pa), some (.ref qa), some (vi ((s : Int))), some (.ref ma), some (vi (sumW (lay0 F s (z 3).toNat (z 0)).1 (F 6) 0)), some (vi (((nmL F s (z 0) 0).length : Int))), some (vi (1)), some (vi (((0 : Nat) : Int))), none, none, none, none, none, none, none, none]) (lcons rfl (lcons rfl (lcons rfl (lcons rfl (lcons rfl (lcons rfl (lcons (svi (rfl)) (lcons (svi (rfl)) (lcons rfl (lcons (svi (rfl)) (lcons rfl (lcons rfl (lcons rfl (lcons rfl (lcons rfl (lcons rfl (lcons rfl (lcons rfl rfl)))))))))))))))))) rfl rfl (lp 0 (Nat.zero_le _) _ gA hRn IM_0)

end Q12
