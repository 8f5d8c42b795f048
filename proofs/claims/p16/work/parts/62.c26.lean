/-! the class: print -/
section C26
theorem lays_printed {z : Nat → Int} {F : Nat → Nat → Int} (hI : mI z F) {e s : Nat} (he : z 22 = (e : Int)) (hs : (s : Int) < z 11) : recP (prF z F) e s (prF z F 23 e).toNat (prF z F 23 e).toNat = (lay0 F s (z 3).toNat (z 0)).2 := by
  have h1 := recP_pr hI hs
  have h2 : prF z F 23 e = z 3 := by
    show gup (F 23) (z 22).toNat (z 3) e = z 3
    rw [he, Int.toNat_natCast, gup_eq]
  rw [h2]
  rw [he, Int.toNat_natCast] at h1
  exact h1
set_option maxHeartbeats 4000000 in
set_option maxRecDepth 100000 in
theorem kX6_print {l : Launch} (hl : l.stackTraces = false) {D : gD} {base : Nat}  {ad : Tg → Nat} {z : Nat → Int} {F : Nat → Nat → Int} {ct : Tg → Option gC} (hI : mI z F) (hS : ST ad z F ct) (hE : mE z F) (hQ : eQ z F) (gh : gH) (hR : cR ad ct gh) : gM l D base yX6_print cX6_print 4 (some Jvm.ClassFile.FieldType.int) 6 82 10 3849 [.ref (ad (2, 0, 0))] gh (fun r gh' => r = some (vi (z 22)) ∧ (decide (z 22 < 5)) = true ∧ xOK ad ct (gup z 22 (z 22 + 1)) (prF z F) gh') (fun E gh' => gh' = gh ∧ ((decide (z 22 < 5)) = false ∧ E = "java/lang/IllegalStateException")) := by
  refine gM.of hl (by decide) (by simp [Value.category]) (Nat.le_of_ble_eq_true rfl) [some (.ref (ad (2, 0, 0))), none, none, none] rfl (fun x hC hq => ?_)
  obtain ⟨i0, i1, i3, i11, i22, iw, ip, inn, inm, ish⟩ := id hI
  obtain ⟨s1, ⟨ml, B, b1, b2, b3⟩, s3, s4, s5, s6, s7, s8⟩ := id hS
  have f1 : gh (ad (2, 0, 0)) = some (gO 10 [.ref (ad (2, 1, 0)), .ref (ad (2, 3, 0)), .ref (ad (2, 4, 0)), .ref (ad (2, 5, 0)), vi (z 3), vi (z 11), vi (z 22), vi (z 0)]) := hR.1 _ _ (s1)
  have f2 : gh (ad (2, 3, 0)) = some (gR 4 14 (fun i => if (i : Int) < z 3 then some (ad (3, i, 0)) else none)) := hR.1 _ _ (s3)
  have f3 : gh (ad (2, 4, 0)) = some (gR 5 4 (fun k => if (k : Int) < z 11 then some (ad (10, k, 0)) else none)) := hR.1 _ _ (s4)
  have f4 : gh (ad (2, 5, 0)) = some (gR 6 5 (fun e => if (e : Int) < z 22 then some (ad (20, e, 0)) else none)) := hR.1 _ _ (s5)
  obtain ⟨n, hn⟩ : ∃ n : Nat, z 3 = (n : Int) := ⟨(z 3).toNat, by omega⟩
  obtain ⟨zs, hzs⟩ : ∃ zs : Nat, z 11 = (zs : Int) := ⟨(z 11).toNat, by omega⟩
  obtain ⟨e, he⟩ : ∃ e : Nat, z 22 = (e : Int) := ⟨(z 22).toNat, by omega⟩
  have hn2 : (z 3).toNat = n := by omega
  refine g_ald_n hC dX6_print_0 rfl ?_
  refine g_get hC dX6_print_1 gf_RX6_41 f1 rfl ?_
  refine g_ald_n hC dX6_print_4 rfl ?_
  refine g_get hC dX6_print_5 gf_RX6_30 f1 rfl ?_
  refine g_alenR hC dX6_print_8 f4 (by decide) ?_
  refine g_top (b := 5) rfl ?_
  refine g_icmp_lt (tgt := 22) hC dX6_print_9 (by decide) (by omega) (by omega) (fun h1 => ?_) (fun h1 => ?_)
  · refine g_new hC dX6_print_22 gn_RX6_28 (by decide) (by decide) (fun q5 hnq5 => ?_)
    obtain ⟨gh6, egh6⟩ : ∃ g_, g_ = gset gh q5 (gO 4 [.null]) := ⟨_, rfl⟩
    rw [← egh6]
    have h7 : gh6 (ad (2, 0, 0)) = some (gO 10 [.ref (ad (2, 1, 0)), .ref (ad (2, 3, 0)), .ref (ad (2, 4, 0)), .ref (ad (2, 5, 0)), vi (z 3), vi (z 11), vi (z 22), vi (z 0)]) := by rw [egh6, gset_ne (fun z => by rw [z, hnq5] at f1; cases f1)]; exact f1
    have h8 : gh6 (ad (2, 3, 0)) = some (gR 4 14 (fun i => if (i : Int) < z 3 then some (ad (3, i, 0)) else none)) := by rw [egh6, gset_ne (fun z => by rw [z, hnq5] at f2; cases f2)]; exact f2
    have h9 : gh6 (ad (2, 4, 0)) = some (gR 5 4 (fun k => if (k : Int) < z 11 then some (ad (10, k, 0)) else none)) := by rw [egh6, gset_ne (fun z => by rw [z, hnq5] at f3; cases f3)]; exact f3
    have h10 : gh6 (ad (2, 5, 0)) = some (gR 6 5 (fun e => if (e : Int) < z 22 then some (ad (20, e, 0)) else none)) := by rw [egh6, gset_ne (fun z => by rw [z, hnq5] at f4; cases f4)]; exact f4
    have h11 : gh6 q5 = some (gO 4 [.null]) := by rw [egh6]; exact gset_eq
    refine g_dup hC dX6_print_25 rfl ?_
    have c1R := hR.new (t := (20, e, 0)) hnq5 (gO 4 [.null])
    rw [← egh6] at c1R
    refine g_callI (rest := [.ref q5]) hC (kX0_init hl  gh6 h11) gc_RX6_196 rfl ⟨by decide, by decide⟩ ⟨by decide, by decide⟩ (Nat.le_of_ble_eq_true rfl) rfl dX6_print_26 (fun r g3 hp => ?_)
    obtain ⟨rfl, q2, hq2, hgh⟩ := hp
    have c2R := c1R.new (t := (21, e, 0)) hq2 (gR 9 4 (fun _ => none))
    have c3R := c2R.put (t := (20, e, 0)) (by rw [cup_ne (by simp)]; exact cup_eq) (gO 4 [.ref q2])
    rw [aup_ne (by simp), aup_eq, ← hgh] at c3R
    refine gV.eqs (st' := [.ref q5]) rfl rfl rfl ?_
    refine g_ast_n (lv' := [some (.ref (ad (2, 0, 0))), some (.ref q5), none, none]) hC dX6_print_29 (by decide) rfl ?_
    refine g_iconst hC dX6_print_30 rfl ?_
    refine g_istore_n (lv' := [some (.ref (ad (2, 0, 0))), some (.ref q5), some (vi (0)), none]) hC dX6_print_31 (by decide) rfl ?_
    have lp : ∀ m : Nat, m ≤ zs → ∀ (g4 : gH) (ad3 : Tg → Nat) (ct3 : Tg → Option gC), cR ad3 ct3 g4 → (∀ t : Tg, (t.1 < 20 ∨ 23 < t.1 ∨ t.2.1 ≠ e) → ct3 t = ct t ∧ ad3 t = ad t) → ad3 (20, e, 0) = q5 → ad3 (21, e, 0) = q2 → ct3 (20, e, 0) = some (gO 4 [.ref q2]) → ct3 (21, e, 0) = some (gR 9 4 (fun s => if s < m then some (ad3 (22, e, s)) else none)) → (∀ s : Nat, s < m → ct3 (22, e, s) = some (gO 5 [.ref (ad3 (23, e, s))]) ∧ ct3 (23, e, s) = some (gI 0 960 (lay0 F s n (z 0)).2)) → gV x D base 4 32 [some (.ref (ad (2, 0, 0))), some (.ref q5), some (vi ((m : Int))), none] [] g4 (2 + 2 * m) (5 + 961 * m) := by
      refine g_for _ (fun m hm ih => ?_) ?_
      · intro g4 ad3 ct3 c3R hk3 h20 h21 d20 d21 dd
        have f12 : g4 (ad (2, 0, 0)) = some (gO 10 [.ref (ad (2, 1, 0)), .ref (ad (2, 3, 0)), .ref (ad (2, 4, 0)), .ref (ad (2, 5, 0)), vi (z 3), vi (z 11), vi (z 22), vi (z 0)]) := by have h9_ := c3R.1 (2, 0, 0) _ (by rw [(hk3 _ (Or.inl (by decide))).1]; exact s1); rw [(hk3 _ (Or.inl (by decide))).2] at h9_; exact h9_
        have f13 : g4 (ad (2, 4, 0)) = some (gR 5 4 (fun k => if (k : Int) < z 11 then some (ad (10, k, 0)) else none)) := by have h9_ := c3R.1 (2, 4, 0) _ (by rw [(hk3 _ (Or.inl (by decide))).1]; exact s4); rw [(hk3 _ (Or.inl (by decide))).2] at h9_; exact h9_
        have f14 : g4 (ad (2, 5, 0)) = some (gR 6 5 (fun e => if (e : Int) < z 22 then some (ad (20, e, 0)) else none)) := by have h9_ := c3R.1 (2, 5, 0) _ (by rw [(hk3 _ (Or.inl (by decide))).1]; exact s5); rw [(hk3 _ (Or.inl (by decide))).2] at h9_; exact h9_
        have fe := c3R.1 _ _ d20
        rw [h20] at fe
        have fp := c3R.1 _ _ d21
        rw [h21] at fp
        obtain ⟨ah, N, T, hSH⟩ := s7 m (by omega)
        rw [hn2] at hSH
        obtain ⟨a1, a2, a3, a4, a5, a6, a7, a8, a9⟩ := id hSH
        have f15 : g4 (ad (10, m, 0)) = some (gO 7 [.ref (ad (13, m, 0)), .ref (ad (15, m, 0)), vi (F 12 m), vi (F 13 m), vi (F 14 m), .ref (ad (11, m, 0)), vi ((n : Int)), .ref (ad (12, m, 0)), vi (((lsU F m (wdA ad F (z 0)) n 5).length : Int))]) := by have h9_ := c3R.1 (10, m, 0) _ (by rw [(hk3 _ (Or.inl (Nat.le_of_ble_eq_true rfl))).1]; exact a1); rw [(hk3 _ (Or.inl (Nat.le_of_ble_eq_true rfl))).2] at h9_; exact h9_
        have f16 : g4 (ad (13, m, 0)) = some (gO 5 [.ref (ad (14, m, 0))]) := by have h9_ := c3R.1 (13, m, 0) _ (by rw [(hk3 _ (Or.inl (Nat.le_of_ble_eq_true rfl))).1]; exact a4); rw [(hk3 _ (Or.inl (Nat.le_of_ble_eq_true rfl))).2] at h9_; exact h9_
        have f17 : g4 (ad (14, m, 0)) = some (gI 0 960 ((lay0 F m n (z 0)).2)) := by have h9_ := c3R.1 (14, m, 0) _ (by rw [(hk3 _ (Or.inl (Nat.le_of_ble_eq_true rfl))).1]; exact a5); rw [(hk3 _ (Or.inl (Nat.le_of_ble_eq_true rfl))).2] at h9_; exact h9_
        refine g_iload_n hC dX6_print_32 rfl ?_
        refine g_ald_n hC dX6_print_33 rfl ?_
        refine g_get hC dX6_print_34 gf_RX6_38 f12 rfl ?_
        refine g_icmp_ge (tgt := 75) hC dX6_print_37 (by decide) (by omega) (by omega) (fun c_37 => False.elim (by omega)) (fun c_37 => ?_)
        refine g_iload_n hC dX6_print_40 rfl ?_
        refine g_ald_n hC dX6_print_41 rfl ?_
        refine g_get hC dX6_print_42 gf_RX6_24 f12 rfl ?_
        refine g_alenR hC dX6_print_45 f13 (by decide) ?_
        refine g_top (b := 4) rfl ?_
        refine g_icmp_ge (tgt := 75) hC dX6_print_46 (by decide) (by omega) (by omega) (fun c_46 => False.elim (by omega)) (fun c_46 => ?_)
        refine g_ald_n hC dX6_print_49 rfl ?_
        refine g_get hC dX6_print_50 gf_RX6_24 f12 rfl ?_
        refine g_iload_n hC dX6_print_53 rfl ?_
        refine g_aaldK (v := some (ad (10, m, 0))) hC (m) dX6_print_54 f13 (by decide) rfl (by omega) (by omega) (by decide) (if_pos (by omega)) ?_
        refine g_ast_n (lv' := [some (.ref (ad (2, 0, 0))), some (.ref q5), some (vi ((m : Int))), some (.ref (ad (10, m, 0)))]) hC dX6_print_55 (by decide) rfl ?_
        refine g_ald_n hC dX6_print_56 rfl ?_
        refine g_ifnull_r hC dX6_print_57 ?_
        refine g_ald_n hC dX6_print_60 rfl ?_
        refine g_iload_n hC dX6_print_61 rfl ?_
        refine g_ald_n hC dX6_print_62 rfl ?_
        refine g_get hC dX6_print_63 gf_RX6_173 f15 rfl ?_
        have hok := lay0_okP hI (s := m) (np := n) (on := z 0) (by omega)
        refine g_callV (rest := []) hC (kX0_keep hl (k := m) (by omega) hok g4 fe fp f16 f17) gc_RX6_197 rfl fe rfl ⟨by decide, by decide⟩ ⟨by show 2 + 2 * m + 2 ≤ 10; omega, by show 5 + 961 * m + 961 ≤ 3849; omega⟩ (Nat.le_of_ble_eq_true rfl) rfl dX6_print_66 (fun r g5 hp => ?_)
        obtain ⟨rfl, qa, qb, hqa, hqb, hqab, hgh4⟩ := hp
        have c4R := c3R.new (t := (23, e, m)) hqb (gI 0 960 (lay0 F m n (z 0)).2)
        have c5R := c4R.new (t := (22, e, m)) (q := qa) (by rw [gset_ne hqab]; exact hqa) (gO 5 [.ref qb])
        have c6R := c5R.put (t := (21, e, 0)) (by rw [cup_ne (by simp), cup_ne (by simp)]; exact d21) (gR 9 4 (gup (fun s => if s < m then some (ad3 (22, e, s)) else none) m (some qa)))
        rw [aup_ne (by simp), aup_ne (by simp), h21, ← hgh4] at c6R
        obtain ⟨ad4, ead4⟩ : ∃ x, x = aup (aup ad3 (23, e, m) qb) (22, e, m) qa := ⟨_, rfl⟩
        rw [← ead4] at c6R
        have u22 : ad4 (22, e, m) = qa := by rw [ead4, aup_eq]
        have u23 : ad4 (23, e, m) = qb := by rw [ead4, aup_ne (by simp), aup_eq]
        have uo : ∀ t : Tg, t ≠ (23, e, m) → t ≠ (22, e, m) → ad4 t = ad3 t := fun t h3 h2 => by rw [ead4, aup_ne h2, aup_ne h3]
        refine gV.eqs (st' := []) rfl rfl rfl ?_
        refine g_iinc (lv' := [some (.ref (ad (2, 0, 0))), some (.ref q5), some (vi ((m : Int) + 1)), some (.ref (ad (10, m, 0)))]) hC dX6_print_69 (by decide) rfl rfl ?_
        refine g_goto (tgt := 32) hC dX6_print_72 (by decide) ?_
        refine gV.drop (lv' := [some (.ref (ad (2, 0, 0))), some (.ref q5), some (vi ((m : Int) + 1)), none]) (by intro k v hk; match k, hk with | 0, hk => exact hk | 1, hk => exact hk | 2, hk => exact hk | 3, hk => exact absurd hk (by simp) | k + 4, hk => exact absurd hk (by simp)) ?_
        refine gV.widen (k := 2 + 2 * (m + 1)) (n := 5 + 961 * (m + 1)) (by omega) (by omega) ?_
        refine gV.eqs (lv' := [some (.ref (ad (2, 0, 0))), some (.ref q5), some (vi ((((m + 1) : Nat) : Int))), none]) (lcons rfl (lcons rfl (lcons (svi (by omega)) (lcons rfl rfl)))) rfl rfl (ih g5 ad4 _ c6R ?_ (by rw [uo _ (by simp) (by simp)]; exact h20) (by rw [uo _ (by simp) (by simp)]; exact h21) (by rw [cup_ne (by simp), cup_ne (by simp), cup_ne (by simp)]; exact d20) ?_ ?_)
        · intro t ht
          have n1 : ∀ a b : Nat, 20 ≤ a → a ≤ 23 → t ≠ (a, e, b) := fun a b h1 h2 q => by rw [q] at ht; simp only at ht; omega
          exact ⟨by rw [cup_ne (n1 _ _ (by decide) (by decide)), cup_ne (n1 _ _ (by decide) (by decide)), cup_ne (n1 _ _ (by decide) (by decide))]; exact (hk3 t ht).1, by rw [uo t (n1 _ _ (by decide) (by decide)) (n1 _ _ (by decide) (by decide))]; exact (hk3 t ht).2⟩
        · rw [cup_eq]; congr 2; funext s; unfold gup
          by_cases q : s = m
          · rw [if_pos q, if_pos (by omega), q, u22]
          · rw [if_neg q]
            show (if s < m then some (ad3 (22, e, s)) else none) = _
            by_cases q2 : s < m
            · rw [if_pos q2, if_pos (by omega), uo _ (by simp) (fun e => q (congrArg (fun t : Tg => t.2.2) e))]
            · rw [if_neg q2, if_neg (by omega)]
        · intro s hs
          by_cases q : s = m
          · rw [q, u23]; exact ⟨by rw [cup_ne (by simp), cup_eq], by rw [cup_ne (by simp), cup_ne (by simp), cup_eq]⟩
          · have n2 : ∀ a : Nat, (a, e, s) ≠ ((22, e, m) : Tg) := fun a h => q (congrArg (fun t : Tg => t.2.2) h)
            have n3 : ∀ a : Nat, (a, e, s) ≠ ((23, e, m) : Tg) := fun a h => q (congrArg (fun t : Tg => t.2.2) h)
            have h9 := dd s (by omega)
            exact ⟨by rw [cup_ne (by simp), cup_ne (n2 _), cup_ne (n3 _), uo _ (n3 _) (n2 _)]; exact h9.1, by rw [cup_ne (by simp), cup_ne (n2 _), cup_ne (n3 _)]; exact h9.2⟩
      · intro g4 ad3 ct3 c3R hk3 h20 h21 d20 d21 dd
        have f18 : g4 (ad (2, 0, 0)) = some (gO 10 [.ref (ad (2, 1, 0)), .ref (ad (2, 3, 0)), .ref (ad (2, 4, 0)), .ref (ad (2, 5, 0)), vi (z 3), vi (z 11), vi (z 22), vi (z 0)]) := by have h9_ := c3R.1 (2, 0, 0) _ (by rw [(hk3 _ (Or.inl (by decide))).1]; exact s1); rw [(hk3 _ (Or.inl (by decide))).2] at h9_; exact h9_
        have f19 : g4 (ad (2, 4, 0)) = some (gR 5 4 (fun k => if (k : Int) < z 11 then some (ad (10, k, 0)) else none)) := by have h9_ := c3R.1 (2, 4, 0) _ (by rw [(hk3 _ (Or.inl (by decide))).1]; exact s4); rw [(hk3 _ (Or.inl (by decide))).2] at h9_; exact h9_
        have f20 : g4 (ad (2, 5, 0)) = some (gR 6 5 (fun e => if (e : Int) < z 22 then some (ad (20, e, 0)) else none)) := by have h9_ := c3R.1 (2, 5, 0) _ (by rw [(hk3 _ (Or.inl (by decide))).1]; exact s5); rw [(hk3 _ (Or.inl (by decide))).2] at h9_; exact h9_
        have fe := c3R.1 _ _ d20
        rw [h20] at fe
        have fp := c3R.1 _ _ d21
        rw [h21] at fp
        refine g_iload_n hC dX6_print_32 rfl ?_
        refine g_ald_n hC dX6_print_33 rfl ?_
        refine g_get hC dX6_print_34 gf_RX6_38 f18 rfl ?_
        refine g_icmp_ge (tgt := 75) hC dX6_print_37 (by decide) (by omega) (by omega) (fun c_37 => ?_) (fun c_37 => False.elim (by omega))
        refine g_ald_n hC dX6_print_75 rfl ?_
        refine g_get hC dX6_print_76 gf_RX6_30 f18 rfl ?_
        refine g_ald_n hC dX6_print_79 rfl ?_
        refine g_get hC dX6_print_80 gf_RX6_41 f18 rfl ?_
        refine g_ald_n hC dX6_print_83 rfl ?_
        refine g_aastK hC (e) dX6_print_84 f20 (by decide) rfl fe rfl (by omega) (by omega) (by decide) ?_
        obtain ⟨gh21, egh21⟩ : ∃ g_, g_ = gset g4 (ad (2, 5, 0)) (gR 6 5 (gup (fun e => if (e : Int) < z 22 then some (ad (20, e, 0)) else none) (e) (some q5))) := ⟨_, rfl⟩
        rw [← egh21]
        have h22 : gh21 (ad (2, 0, 0)) = some (gO 10 [.ref (ad (2, 1, 0)), .ref (ad (2, 3, 0)), .ref (ad (2, 4, 0)), .ref (ad (2, 5, 0)), vi (z 3), vi (z 11), vi (z 22), vi (z 0)]) := by rw [egh21, gset_ne (gne f18 f20 (by simp))]; exact f18
        have h23 : gh21 (ad (2, 4, 0)) = some (gR 5 4 (fun k => if (k : Int) < z 11 then some (ad (10, k, 0)) else none)) := by rw [egh21, gset_ne (gne f19 f20 (by simp))]; exact f19
        have h24 : gh21 q5 = some (gO 4 [.ref q2]) := by rw [egh21, gset_ne (gne fe f20 (by simp))]; exact fe
        have h25 : gh21 (ad (2, 5, 0)) = some (gR 6 5 (gup (fun e => if (e : Int) < z 22 then some (ad (20, e, 0)) else none) (e) (some q5))) := by rw [egh21]; exact gset_eq
        refine g_ald_n hC dX6_print_85 rfl ?_
        refine g_dup hC dX6_print_86 rfl ?_
        refine g_get hC dX6_print_87 gf_RX6_41 h22 rfl ?_
        refine g_iconst hC dX6_print_90 rfl ?_
        refine g_iadd hC dX6_print_91 ?_
        refine g_put hC (fs' := [.ref (ad (2, 1, 0)), .ref (ad (2, 3, 0)), .ref (ad (2, 4, 0)), .ref (ad (2, 5, 0)), vi (z 3), vi (z 11), vi ((z 22) + (1)), vi (z 0)]) dX6_print_92 gp_RX6_41 h22 ⟨rfl, rfl⟩ rfl (Nat.le_of_ble_eq_true rfl) ?_
        obtain ⟨gh26, egh26⟩ : ∃ g_, g_ = gset gh21 (ad (2, 0, 0)) (gO 10 [.ref (ad (2, 1, 0)), .ref (ad (2, 3, 0)), .ref (ad (2, 4, 0)), .ref (ad (2, 5, 0)), vi (z 3), vi (z 11), vi ((z 22) + (1)), vi (z 0)]) := ⟨_, rfl⟩
        rw [← egh26]
        have h27 : gh26 (ad (2, 4, 0)) = some (gR 5 4 (fun k => if (k : Int) < z 11 then some (ad (10, k, 0)) else none)) := by rw [egh26, gset_ne (gne h23 h22 (by simp))]; exact h23
        have h28 : gh26 q5 = some (gO 4 [.ref q2]) := by rw [egh26, gset_ne (gne h24 h22 (by simp))]; exact h24
        have h29 : gh26 (ad (2, 5, 0)) = some (gR 6 5 (gup (fun e => if (e : Int) < z 22 then some (ad (20, e, 0)) else none) (e) (some q5))) := by rw [egh26, gset_ne (gne h25 h22 (by simp))]; exact h25
        have h30 : gh26 (ad (2, 0, 0)) = some (gO 10 [.ref (ad (2, 1, 0)), .ref (ad (2, 3, 0)), .ref (ad (2, 4, 0)), .ref (ad (2, 5, 0)), vi (z 3), vi (z 11), vi ((z 22) + (1)), vi (z 0)]) := by rw [egh26]; exact gset_eq
        refine g_ald_n hC dX6_print_95 rfl ?_
        refine g_get hC dX6_print_96 gf_RX6_41 h30 rfl ?_
        refine g_iconst hC dX6_print_99 rfl ?_
        refine g_isub hC dX6_print_100 ?_
        refine g_top (b := z 22) (by omega) ?_
        have c6R := (c3R.put (t := (2, 5, 0)) (by rw [(hk3 _ (Or.inl (by decide))).1]; exact s5) (gR 6 5 (gup (fun e => if (e : Int) < z 22 then some (ad (20, e, 0)) else none) e (some q5)))).put (t := (2, 0, 0)) (by rw [cup_ne (by simp), (hk3 _ (Or.inl (by decide))).1]; exact s1) (gO 10 [.ref (ad (2, 1, 0)), .ref (ad (2, 3, 0)), .ref (ad (2, 4, 0)), .ref (ad (2, 5, 0)), vi (z 3), vi (z 11), vi (z 22 + 1), vi (z 0)])
        rw [(hk3 (2, 5, 0) (Or.inl (by decide))).2, (hk3 (2, 0, 0) (Or.inl (by decide))).2] at c6R
        have c6R2 : cR ad3 (cup (cup ct3 (2, 5, 0) (gR 6 5 (gup (fun e => if (e : Int) < z 22 then some (ad (20, e, 0)) else none) e (some q5)))) (2, 0, 0) (gO 10 [.ref (ad (2, 1, 0)), .ref (ad (2, 3, 0)), .ref (ad (2, 4, 0)), .ref (ad (2, 5, 0)), vi (z 3), vi (z 11), vi (z 22 + 1), vi (z 0)])) gh26 := by rw [egh26, egh21]; exact c6R
        obtain ⟨ct6, ect6⟩ : ∃ x, x = cup (cup ct3 (2, 5, 0) (gR 6 5 (gup (fun e => if (e : Int) < z 22 then some (ad (20, e, 0)) else none) e (some q5)))) (2, 0, 0) (gO 10 [.ref (ad (2, 1, 0)), .ref (ad (2, 3, 0)), .ref (ad (2, 4, 0)), .ref (ad (2, 5, 0)), vi (z 3), vi (z 11), vi (z 22 + 1), vi (z 0)]) := ⟨_, rfl⟩
        rw [← ect6] at c6R2
        have k6 : ∀ a b c : Nat, a ≠ 2 ∨ (b ≠ 0 ∧ b ≠ 5) → ct6 (a, b, c) = ct3 (a, b, c) := fun a b c h => by rw [ect6, cup_ne (fun e => by have h1 := congrArg (fun t : Tg => t.1) e; have h2 := congrArg (fun t : Tg => t.2.1) e; simp only at h1 h2; omega), cup_ne (fun e => by have h1 := congrArg (fun t : Tg => t.1) e; have h2 := congrArg (fun t : Tg => t.2.1) e; simp only at h1 h2; omega)]
        have b6 : ∀ a b c : Nat, (a < 20 ∨ 23 < a ∨ b ≠ e) → ad3 (a, b, c) = ad (a, b, c) := fun a b c h => (hk3 _ h).2
        have d6 : ∀ a b c : Nat, a ≠ 2 ∨ (b ≠ 0 ∧ b ≠ 5) → (a < 20 ∨ 23 < a ∨ b ≠ e) → ct6 (a, b, c) = ct (a, b, c) := fun a b c h h2 => by rw [k6 a b c h]; exact (hk3 _ h2).1
        have hag := agr_pr hI
        have hle : lE F (prF z F) := fun k hk => by unfold prF; rw [gup_ne (by omega), gup_ne (by omega), gup_ne (by omega), gup_ne (by omega)]
        have hST : ST ad3 (gup z 22 (z 22 + 1)) (prF z F) ct6 := by
          refine ⟨?_, ⟨ml, B, ?_, ?_, fun t ht => by rw [hle.at2]; exact b3 t ht⟩, ?_, ?_, ?_, fun i hi => ?_, fun k9 hk9 => ?_, fun e9 he9 => ?_⟩
          · rw [ect6, cup_eq]; unfold clO; rw [b6 _ _ _ (Or.inl (by decide)), b6 _ _ _ (Or.inl (by decide)), b6 _ _ _ (Or.inl (by decide)), b6 _ _ _ (Or.inl (by decide))]; rfl
          · rw [d6 _ _ _ (Or.inr ⟨by decide, by decide⟩) (Or.inl (by decide)), b6 _ _ _ (Or.inl (by decide))]; exact b1
          · rw [d6 _ _ _ (Or.inr ⟨by decide, by decide⟩) (Or.inl (by decide))]; exact b2
          · rw [d6 _ _ _ (Or.inr ⟨by decide, by decide⟩) (Or.inl (by decide)), s3]; congr 2; funext i; rw [b6 _ _ _ (Or.inl (by decide))]; rfl
          · rw [d6 _ _ _ (Or.inr ⟨by decide, by decide⟩) (Or.inl (by decide)), s4]; congr 2; funext i; rw [b6 _ _ _ (Or.inl (by decide))]; rfl
          · rw [ect6, cup_ne (by simp), cup_eq]; congr 2; funext k9; unfold gup
            by_cases q : k9 = e
            · rw [if_pos q, q, if_pos (by show (e : Int) < z 22 + 1; omega), h20]
            · rw [if_neg q]
              show (if (k9 : Int) < z 22 then some (ad (20, k9, 0)) else none) = (if (k9 : Int) < z 22 + 1 then some (ad3 (20, k9, 0)) else none)
              by_cases q2 : (k9 : Int) < z 22
              · rw [if_pos q2, if_pos (by omega), b6 _ _ _ (Or.inr (Or.inr q))]
              · rw [if_neg q2, if_neg (by omega)]
          · exact (s6 i hi).cg (fun a ha => ⟨d6 _ _ _ (Or.inl (by omega)) (Or.inl (by omega)), b6 _ _ _ (Or.inl (by omega))⟩) (fun a j ha hb _ => ⟨d6 _ _ _ (Or.inl (by omega)) (Or.inl (by omega)), b6 _ _ _ (Or.inl (by omega))⟩) ⟨by rw [hle.at4], by rw [hle.at5], by rw [hle.at6], by rw [hle.at7]⟩ (fun j _ => ⟨by rw [hle.at8], by rw [hle.at9], fun _ => by rw [hle.at10]⟩)
          · show SHS ad3 (prF z F) (z 0) (z 3).toNat k9 ct6
            refine SHS.le hle ?_
            obtain ⟨ah9, N9, T9, h7⟩ := s7 k9 hk9
            have hw9 : ∀ i, i < (z 3).toNat → wdA ad3 F (z 0) i = wdA ad F (z 0) i := fun i _ => by unfold wdA; congr 1; funext j; exact b6 _ _ _ (Or.inl (by decide))
            refine ⟨ah9, N9, T9, ?_⟩
            rw [lsU_congr (F := F) (F' := F) (wo := wdA ad F (z 0)) (wo' := wdA ad3 F (z 0)) (fun i hi => ⟨rfl, rfl, by rw [hw9 i hi]⟩)]
            exact h7.cg (fun t ht => by obtain ⟨ta, tb, tc⟩ := t; have h1 := ht.1; have h2 := ht.2.1; simp only at h1 h2; exact d6 _ _ _ (Or.inl (by omega)) (Or.inl (by omega))) (fun t ht => by obtain ⟨ta, tb, tc⟩ := t; have h2 := ht.2.1; simp only at h2; exact b6 _ _ _ (Or.inl (by omega))) (fun i _ => b6 _ _ _ (Or.inl (by decide))) ⟨rfl, rfl, rfl⟩ (fun i hi => ⟨rfl, rfl, rfl, hw9 i hi, rfl, rfl⟩)
          · have he92 : (e9 : Int) < z 22 + 1 := he9
            by_cases q : e9 = e
            · rw [q]
              have v24 : prF z F 24 e = z 11 := by show gup (F 24) (z 22).toNat (z 11) e = z 11; rw [he, Int.toNat_natCast, gup_eq]
              refine ⟨by rw [k6 _ _ _ (Or.inl (by decide)), h21]; exact d20, ?_, fun s hs => ?_⟩
              · rw [k6 _ _ _ (Or.inl (by decide)), d21, v24]; congr 2; funext s
                by_cases q2 : s < zs
                · rw [if_pos q2, if_pos (by omega)]
                · rw [if_neg q2, if_neg (by omega)]
              · rw [v24] at hs
                have h9 := dd s (by omega)
                rw [lays_printed hI he (by omega), hn2, k6 _ _ _ (Or.inl (by decide)), k6 _ _ _ (Or.inl (by decide))]
                exact h9
            · have he3 : (e9 : Int) < z 22 := by omega
              have hm := hE e9 he3
              have hq := hag.2.2.2 e9 (by omega)
              exact (s8 e9 he3).cg (fun a b h1 h2 => ⟨d6 _ _ _ (Or.inl (by omega)) (Or.inr (Or.inr q)), b6 _ _ _ (Or.inr (Or.inr q))⟩) ⟨hq.2.1, hq.1⟩ (fun s hs => hag.o_recP hI hQ (by omega) (by omega) he3 (by omega) (by omega) hs (by omega) _ (by omega) (by omega))
        refine g_iret hC hq dX6_print_101 (by omega) (by omega) ⟨rfl, decide_eq_true (by omega), ad3, ct6, c6R2, hST, ⟨fun t ht => ?_, b6 _ _ _ (Or.inl (by decide))⟩⟩
        obtain ⟨ta, tb, tc⟩ := t
        simp only at ht
        exact ⟨d6 _ _ _ (Or.inl (by omega)) (by omega), b6 _ _ _ (by omega)⟩
    refine gV.widen (k := 2 + 2 * 0) (n := 5 + 961 * 0) (by decide) (by decide) ?_
    refine gV.eqs (lv' := [some (.ref (ad (2, 0, 0))), some (.ref q5), some (vi (((0 : Nat) : Int))), none]) (lcons rfl (lcons rfl (lcons (svi (rfl)) (lcons rfl rfl)))) rfl rfl (lp 0 (Nat.zero_le _) g3 _ _ c3R (fun t ht => ?_) (by rw [aup_ne (by simp), aup_eq]) aup_eq cup_eq (by rw [cup_ne (by simp), cup_eq]; exact congrArg (fun f => some (gR 9 4 f)) (funext (fun s => (if_neg (Nat.not_lt_zero s)).symm))) (fun s hs => absurd hs (Nat.not_lt_zero s)))
    have n1 : ∀ a : Nat, 20 ≤ a → a ≤ 23 → t ≠ (a, e, 0) := fun a h1 h2 q => by rw [q] at ht; simp only at ht; omega
    exact ⟨by rw [cup_ne (n1 _ (by decide) (by decide)), cup_ne (n1 _ (by decide) (by decide)), cup_ne (n1 _ (by decide) (by decide))], by rw [aup_ne (n1 _ (by decide) (by decide)), aup_ne (n1 _ (by decide) (by decide))]⟩
  · exact g_throw hC hq gt_194_62 dX6_print_12 dX6_print_15 dX6_print_16 dX6_print_18 dX6_print_21 (by decide) (Nat.le_of_ble_eq_true rfl) (by decide) (by decide) (by decide) (by decide) ⟨rfl, decide_eq_false (by omega), rfl⟩

end C26
