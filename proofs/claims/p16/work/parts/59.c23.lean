/-! the class: all sheets show a new place; all sheets placed anew behind a name -/
section C23
set_option maxHeartbeats 4000000 in
set_option maxRecDepth 100000 in
theorem kX6_showOnAllSheets {l : Launch} (hl : l.stackTraces = false) {D : gD} {base : Nat}  {ad : Tg → Nat} {z : Nat → Int} {F : Nat → Nat → Int} {ct : Tg → Option gC} {n : Nat} (hI : mI z F) (hz3 : z 3 = ((n + 1 : Nat) : Int)) (s1 : ct (2, 0, 0) = some (clO ad z)) (s4 : ct (2, 4, 0) = some (gR 5 4 (fun k => if (k : Int) < z 11 then some (ad (10, k, 0)) else none))) (s6 : ∀ i : Nat, i < n + 1 → PLP ad F i ct) (s7 : ∀ k : Nat, (k : Int) < z 11 → ∃ sd ah wo c lo N P T, SHP ad F k n sd ah wo c lo N P T ct) (gh : gH) (hR : cR ad ct gh) : gM l D base yX6_showOnAllSheets cX6_showOnAllSheets 4 none 8 176 4 28 [.ref (ad (2, 0, 0)), .ref (ad (3, n, 0))] gh (fun r gh' => r = none ∧ ∃ ad' ct', cR ad' ct' gh' ∧ (∀ t : Tg, (t.1 < 10 ∨ 17 < t.1) → ct' t = ct t) ∧ (∀ t : Tg, t.1 ≠ 17 → ad' t = ad t) ∧ ∀ k : Nat, (k : Int) < z 11 → SHS ad' F (z 0) (n + 1) k ct') gNo := by
  refine gM.of hl (by decide) (by simp [Value.category]) (Nat.le_of_ble_eq_true rfl) [some (.ref (ad (2, 0, 0))), some (.ref (ad (3, n, 0))), none, none] rfl (fun x hC hq => ?_)
  obtain ⟨i0, i1, i3, i11, i22, iw, ip, inn, inm, ish⟩ := id hI
  obtain ⟨zs, hzs⟩ : ∃ zs : Nat, z 11 = (zs : Int) := ⟨(z 11).toNat, by omega⟩
  refine g_iconst hC dX6_showOnAllSheets_0 rfl ?_
  refine g_istore_n (lv' := [some (.ref (ad (2, 0, 0))), some (.ref (ad (3, n, 0))), some (vi (0)), none]) hC dX6_showOnAllSheets_1 (by decide) rfl ?_
  have lp : ∀ m : Nat, m ≤ zs → ∀ (g1 : gH) (ad1 : Tg → Nat) (ct1 : Tg → Option gC), cR ad1 ct1 g1 → (∀ t : Tg, (t.1 < 10 ∨ 17 < t.1) → ct1 t = ct t) → (∀ t : Tg, t.1 ≠ 17 → ad1 t = ad t) → (∀ k : Nat, k < m → SHS ad1 F (z 0) (n + 1) k ct1) → (∀ k : Nat, m ≤ k → k < zs → ∃ sd ah wo c lo N P T, SHP ad1 F k n sd ah wo c lo N P T ct1) → gV x D base 4 2 [some (.ref (ad1 (2, 0, 0))), some (.ref (ad1 (3, n, 0))), some (vi ((m : Int))), none] [] g1 m (7 * m) := by
    refine g_for _ (fun m hm ih => ?_) ?_
    · intro g1 ad1 ct1 h1R hfr hfa hdone htodo
      have f1 : g1 (ad1 (2, 0, 0)) = some (gO 10 [.ref (ad (2, 1, 0)), .ref (ad (2, 3, 0)), .ref (ad (2, 4, 0)), .ref (ad (2, 5, 0)), vi (z 3), vi (z 11), vi (z 22), vi (z 0)]) := h1R.1 _ _ (by rw [hfr _ (Or.inl (Nat.le_of_ble_eq_true rfl))]; exact s1)
      have f2 : g1 (ad (2, 4, 0)) = some (gR 5 4 (fun k => if (k : Int) < z 11 then some (ad (10, k, 0)) else none)) := by
        have h9_ := h1R.1 (2, 4, 0) _ (by rw [hfr _ (Or.inl (Nat.le_of_ble_eq_true rfl))]; exact s4)
        rw [hfa _ (t17 (by decide))] at h9_
        exact h9_
      obtain ⟨sd, ah, wo, c, lo, N, P, T, hSH⟩ := htodo m (Nat.le_refl m) hm
      obtain ⟨a1, a2, a3, a4, a5, a6, a7, a8, a9⟩ := id hSH
      have fsh := h1R.1 _ _ a1
      refine g_iload_n hC dX6_showOnAllSheets_2 rfl ?_
      refine g_ald_n hC dX6_showOnAllSheets_3 rfl ?_
      refine g_get hC dX6_showOnAllSheets_4 gf_RX6_38 f1 rfl ?_
      refine g_icmp_ge (tgt := 49) hC dX6_showOnAllSheets_7 (by decide) (by omega) (by omega) (fun c_7 => False.elim (by omega)) (fun c_7 => ?_)
      refine g_iload_n hC dX6_showOnAllSheets_10 rfl ?_
      refine g_ald_n hC dX6_showOnAllSheets_11 rfl ?_
      refine g_get hC dX6_showOnAllSheets_12 gf_RX6_24 f1 rfl ?_
      refine g_alenR hC dX6_showOnAllSheets_15 f2 (by decide) ?_
      refine g_top (b := 4) rfl ?_
      refine g_icmp_ge (tgt := 49) hC dX6_showOnAllSheets_16 (by decide) (by omega) (by omega) (fun c_16 => False.elim (by omega)) (fun c_16 => ?_)
      refine g_ald_n hC dX6_showOnAllSheets_19 rfl ?_
      refine g_get hC dX6_showOnAllSheets_20 gf_RX6_24 f1 rfl ?_
      refine g_iload_n hC dX6_showOnAllSheets_23 rfl ?_
      refine g_aaldK (v := some (ad1 (10, m, 0))) hC (m) dX6_showOnAllSheets_24 f2 (by decide) rfl (by omega) (by omega) (by decide) (by rw [hfa _ (t17 (by decide))]; exact if_pos (by omega)) ?_
      refine g_ast_n (lv' := [some (.ref (ad1 (2, 0, 0))), some (.ref (ad1 (3, n, 0))), some (vi ((m : Int))), some (.ref (ad1 (10, m, 0)))]) hC dX6_showOnAllSheets_25 (by decide) rfl ?_
      refine g_ald_n hC dX6_showOnAllSheets_26 rfl ?_
      refine g_ifnull_r hC dX6_showOnAllSheets_27 ?_
      refine g_ald_n hC dX6_showOnAllSheets_30 rfl ?_
      refine g_ald_n hC dX6_showOnAllSheets_31 rfl ?_
      have hp3 := (s6 n (Nat.lt_succ_self n)).1
      rw [← hfr (3, n, 0) (Or.inl (Nat.le_of_ble_eq_true rfl)), ← hfa (4, n, 0) (t17 (by decide))] at hp3
      have ipn := ip n (by omega)
      have ism := ish m (by omega)
      refine g_callV (rest := []) hC (kX3_showC hl ⟨ipn.1, ipn.2.1, ipn.2.2.1, ipn.2.2.2.1⟩ ism (by omega) hSH hp3 g1 h1R) gc_RX6_142 rfl fsh rfl ⟨by decide, by decide⟩ ⟨by show m + 1 ≤ 4; omega, by show 7 * m + 7 ≤ 28; omega⟩ (Nat.le_of_ble_eq_true rfl) rfl dX6_showOnAllSheets_32 (fun r g2 hp => ?_)
      obtain ⟨rfl, t, ct2, h2R, hfr2, hS2⟩ := hp
      obtain ⟨ad2, ead2⟩ : ∃ a, a = aup ad1 (17, m, n) t := ⟨_, rfl⟩
      rw [← ead2] at h2R hS2
      have h12 : ∀ u : Tg, u ≠ (17, m, n) → ad2 u = ad1 u := fun u hu => by rw [ead2]; exact aup_ne hu
      have hfa2 : ∀ u : Tg, u.1 ≠ 17 → ad2 u = ad1 u := fun u hu => h12 u (fun e => hu (by rw [e]))
      refine gV.eqs (lv' := [some (.ref (ad2 (2, 0, 0))), some (.ref (ad2 (3, n, 0))), some (vi ((m : Int))), some (.ref (ad2 (10, m, 0)))]) (st' := []) (lcons (by rw [hfa2 _ (t17 (by decide))]) (lcons (by rw [hfa2 _ (t17 (by decide))]) (lcons rfl (lcons (by rw [hfa2 _ (t17 (by decide))]) rfl)))) rfl rfl ?_
      have hfr3 : ∀ u : Tg, (u.1 < 10 ∨ 17 < u.1) → ct2 u = ct u := fun u hu => by rw [hfr2 u (fun q => by have := q.1; have := q.2.1; omega)]; exact hfr u hu
      have hfa3 : ∀ u : Tg, u.1 ≠ 17 → ad2 u = ad u := fun u hu => by rw [hfa2 u hu]; exact hfa u hu
      have f3 : g2 (ad2 (2, 0, 0)) = some (gO 10 [.ref (ad (2, 1, 0)), .ref (ad (2, 3, 0)), .ref (ad (2, 4, 0)), .ref (ad (2, 5, 0)), vi (z 3), vi (z 11), vi (z 22), vi (z 0)]) := h2R.1 _ _ (by rw [hfr3 _ (Or.inl (Nat.le_of_ble_eq_true rfl))]; exact s1)
      have fsh2 := h2R.1 _ _ hS2.1
      refine g_ald_n hC dX6_showOnAllSheets_35 rfl ?_
      refine g_ald_n hC dX6_showOnAllSheets_36 rfl ?_
      refine g_get hC dX6_showOnAllSheets_37 gf_RX6_44 f3 rfl ?_
      have hPL2 : ∀ i : Nat, i < n + 1 → PLP ad2 F i ct2 := fun i hi => (s6 i hi).cg (fun a ha => ⟨hfr3 _ (Or.inl (by show a < 10; omega)), hfa3 _ (t17 (by omega))⟩) (fun a j ha hb _ => ⟨hfr3 _ (Or.inl (by show a < 10; omega)), hfa3 _ (t17 (by omega))⟩) ⟨rfl, rfl, rfl, rfl⟩ (fun j _ => ⟨rfl, rfl, fun _ => rfl⟩)
      refine g_callV (rest := []) hC (kX3_placeAnew hl hI (by omega) hS2 hPL2 g2 h2R) gc_RX6_145 rfl fsh2 rfl ⟨by decide, by decide⟩ ⟨by show m + 1 + 0 ≤ 4; omega, by show 7 * m + 7 + 0 ≤ 28; omega⟩ (Nat.le_of_ble_eq_true rfl) rfl dX6_showOnAllSheets_40 (fun r g4 hp => ?_)
      obtain ⟨rfl, ct4, N4, h4R, hfr4, hS4⟩ := hp
      refine gV.eqs (st' := []) rfl rfl rfl ?_
      refine g_iinc (lv' := [some (.ref (ad2 (2, 0, 0))), some (.ref (ad2 (3, n, 0))), some (vi ((m : Int) + 1)), some (.ref (ad2 (10, m, 0)))]) hC dX6_showOnAllSheets_43 (by decide) rfl rfl ?_
      refine g_goto (tgt := 2) hC dX6_showOnAllSheets_46 (by decide) ?_
      refine gV.drop (lv' := [some (.ref (ad2 (2, 0, 0))), some (.ref (ad2 (3, n, 0))), some (vi ((m : Int) + 1)), none]) (by intro k v hk; match k, hk with | 0, hk => exact hk | 1, hk => exact hk | 2, hk => exact hk | 3, hk => exact absurd hk (by simp) | k + 4, hk => exact absurd hk (by simp)) ?_
      refine gV.widen (k := m + 1) (n := 7 * (m + 1)) (by omega) (by omega) ?_
      refine gV.eqs (lv' := [some (.ref (ad2 (2, 0, 0))), some (.ref (ad2 (3, n, 0))), some (vi ((((m + 1) : Nat) : Int))), none]) (lcons rfl (lcons rfl (lcons (svi (by omega)) (lcons rfl rfl)))) rfl rfl (ih g4 ad2 ct4 h4R ?_ hfa3 ?_ ?_)
      · intro u hu; rw [hfr4 u (fun q => by have := q.1; have := q.2.1; omega)]; exact hfr3 u hu
      · intro k hk
        by_cases e : k = m
        · rw [e]; exact ⟨_, _, _, hS4⟩
        · obtain ⟨ah9, N9, T9, h9⟩ := hdone k (by omega)
          have hct9 : ∀ u, tS k u → ct4 u = ct1 u := fun u hu => by rw [hfr4 u (fun q => e (by rw [← hu.2.2, q.2.2])), hfr2 u (fun q => e (by rw [← hu.2.2, q.2.2]))]
          have had9 : ∀ u, tS k u → ad2 u = ad1 u := fun u hu => h12 u (fun q => e (by rw [← hu.2.2, q]))
          have hw9 : ∀ i, i < n + 1 → wdA ad2 F (z 0) i = wdA ad1 F (z 0) i := fun i _ => by unfold wdA; congr 1; funext j; exact hfa2 _ (t17 (by decide))
          refine ⟨ah9, N9, T9, ?_⟩
          rw [lsU_congr (F := F) (F' := F) (wo := wdA ad1 F (z 0)) (wo' := wdA ad2 F (z 0)) (fun i hi => ⟨rfl, rfl, by rw [hw9 i hi]⟩)]
          exact h9.cg hct9 had9 (fun i _ => hfa2 _ (t17 (by decide))) ⟨rfl, rfl, rfl⟩ (fun i hi => ⟨rfl, rfl, rfl, hw9 i hi, rfl, rfl⟩)
      · intro k hk1 hk2
        obtain ⟨sd9, ah9, wo9, c9, lo9, N9, P9, T9, h9⟩ := htodo k (by omega) hk2
        have e : k ≠ m := by omega
        exact ⟨sd9, ah9, wo9, c9, lo9, N9, P9, T9, h9.cg (fun u hu => by rw [hfr4 u (fun q => e (by rw [← hu.2.2, q.2.2])), hfr2 u (fun q => e (by rw [← hu.2.2, q.2.2]))]) (fun u hu => h12 u (fun q => e (by rw [← hu.2.2, q]))) (fun i _ => hfa2 _ (t17 (by decide))) ⟨rfl, rfl, rfl⟩ (fun i hi => ⟨rfl, rfl, rfl, rfl, rfl, rfl⟩)⟩
    · intro g1 ad1 ct1 h1R hfr hfa hdone htodo
      have f4 : g1 (ad1 (2, 0, 0)) = some (gO 10 [.ref (ad (2, 1, 0)), .ref (ad (2, 3, 0)), .ref (ad (2, 4, 0)), .ref (ad (2, 5, 0)), vi (z 3), vi (z 11), vi (z 22), vi (z 0)]) := h1R.1 _ _ (by rw [hfr _ (Or.inl (Nat.le_of_ble_eq_true rfl))]; exact s1)
      have f5 : g1 (ad (2, 4, 0)) = some (gR 5 4 (fun k => if (k : Int) < z 11 then some (ad (10, k, 0)) else none)) := by
        have h9_ := h1R.1 (2, 4, 0) _ (by rw [hfr _ (Or.inl (Nat.le_of_ble_eq_true rfl))]; exact s4)
        rw [hfa _ (t17 (by decide))] at h9_
        exact h9_
      refine g_iload_n hC dX6_showOnAllSheets_2 rfl ?_
      refine g_ald_n hC dX6_showOnAllSheets_3 rfl ?_
      refine g_get hC dX6_showOnAllSheets_4 gf_RX6_38 f4 rfl ?_
      refine g_icmp_ge (tgt := 49) hC dX6_showOnAllSheets_7 (by decide) (by omega) (by omega) (fun c_7 => ?_) (fun c_7 => False.elim (by omega))
      exact g_vret hC hq dX6_showOnAllSheets_49 (by omega) (by omega) ⟨rfl, ad1, ct1, h1R, hfr, hfa, fun k hk => hdone k (by omega)⟩
  refine gV.eqs (lv' := [some (.ref (ad (2, 0, 0))), some (.ref (ad (3, n, 0))), some (vi (((0 : Nat) : Int))), none]) (lcons rfl (lcons rfl (lcons (svi (rfl)) (lcons rfl rfl)))) rfl rfl (lp 0 (Nat.zero_le _) gh ad ct hR (fun _ _ => rfl) (fun _ _ => rfl) (fun k hk => absurd hk (Nat.not_lt_zero k)) (fun k _ hk => s7 k (by omega)))

set_option maxHeartbeats 4000000 in
set_option maxRecDepth 100000 in
theorem kX6_placeAllSheetsAnew {l : Launch} (hl : l.stackTraces = false) {D : gD} {base : Nat}  {ad : Tg → Nat} {z : Nat → Int} {F F0 : Nat → Nat → Int} {ct : Tg → Option gC} {n : Nat} (i : Nat) (hi14 : i < 14) (hI : mI z F) (hz3 : z 3 = (n : Int)) (s1 : ct (2, 0, 0) = some (clO ad z)) (s4 : ct (2, 4, 0) = some (gR 5 4 (fun k => if (k : Int) < z 11 then some (ad (10, k, 0)) else none))) (s6 : ∀ i : Nat, i < n → PLP ad F i ct) (s7 : ∀ k : Nat, (k : Int) < z 11 → ∃ ah wo c lo N P T, SHP ad F k n (lay0 F0 k n (z 0)).1 ah wo c lo N P T ct) (gh : gH) (hR : cR ad ct gh) : gM l D base yX6_placeAllSheetsAnew cX6_placeAllSheetsAnew 5 (some Jvm.ClassFile.FieldType.int) 8 176 0 0 [.ref (ad (2, 0, 0)), vi ((i : Int))] gh (fun r gh' => r = some (vi (pushUp F0 F i n (z 0) (z 11).toNat)) ∧ ∃ ct', cR ad ct' gh' ∧ (∀ t : Tg, (t.1 < 10 ∨ 17 < t.1) → ct' t = ct t) ∧ ∀ k : Nat, (k : Int) < z 11 → SHS ad F (z 0) n k ct') gNo := by
  refine gM.of hl (by decide) (by simp [Value.category]) (Nat.le_of_ble_eq_true rfl) [some (.ref (ad (2, 0, 0))), some (vi ((i : Int))), none, none, none] rfl (fun x hC hq => ?_)
  obtain ⟨i0, i1, i3, i11, i22, iw, ip, inn, inm, ish⟩ := id hI
  obtain ⟨zs, hzs⟩ : ∃ zs : Nat, z 11 = (zs : Int) := ⟨(z 11).toNat, by omega⟩
  refine g_iconst hC dX6_placeAllSheetsAnew_0 rfl ?_
  refine g_istore_n (lv' := [some (.ref (ad (2, 0, 0))), some (vi ((i : Int))), some (vi (0)), none, none]) hC dX6_placeAllSheetsAnew_1 (by decide) rfl ?_
  refine g_iconst hC dX6_placeAllSheetsAnew_2 rfl ?_
  refine g_istore_n (lv' := [some (.ref (ad (2, 0, 0))), some (vi ((i : Int))), some (vi (0)), some (vi (0)), none]) hC dX6_placeAllSheetsAnew_3 (by decide) rfl ?_
  have lp : ∀ m : Nat, m ≤ zs → ∀ (g1 : gH) (ct1 : Tg → Option gC), cR ad ct1 g1 → (∀ t : Tg, (t.1 < 10 ∨ 17 < t.1) → ct1 t = ct t) → (∀ k : Nat, k < m → SHS ad F (z 0) n k ct1) → (∀ k : Nat, m ≤ k → k < zs → ∃ ah wo c lo N P T, SHP ad F k n (lay0 F0 k n (z 0)).1 ah wo c lo N P T ct1) → gV x D base 5 4 [some (.ref (ad (2, 0, 0))), some (vi ((i : Int))), some (vi (pushUp F0 F i n (z 0) m)), some (vi ((m : Int))), none] [] g1 0 0 := by
    refine g_for _ (fun m hm ih => ?_) ?_
    · intro g1 ct1 h1R hfr hdone htodo
      have f1 : g1 (ad (2, 0, 0)) = some (gO 10 [.ref (ad (2, 1, 0)), .ref (ad (2, 3, 0)), .ref (ad (2, 4, 0)), .ref (ad (2, 5, 0)), vi (z 3), vi (z 11), vi (z 22), vi (z 0)]) := h1R.1 _ _ (by rw [hfr _ (Or.inl (Nat.le_of_ble_eq_true rfl))]; exact s1)
      have f2 : g1 (ad (2, 4, 0)) = some (gR 5 4 (fun k => if (k : Int) < z 11 then some (ad (10, k, 0)) else none)) := h1R.1 _ _ (by rw [hfr _ (Or.inl (Nat.le_of_ble_eq_true rfl))]; exact s4)
      obtain ⟨ah, wo, c, lo, N, P, T, hSH⟩ := htodo m (Nat.le_refl m) hm
      have fsh := h1R.1 _ _ hSH.1
      have hpu := pushUp_rng (F := F0) (G := F) (i := i) (np := n) (day := z 0) m
      have hpi := pushIn_rng (F := F0) (G := F) (i := i) (k := m) (np := n) (day := z 0) n
      have hmn : (m : Int) * n ≤ 4 * 14 := Int.mul_le_mul (show (m : Int) ≤ 4 by omega) (show (n : Int) ≤ 14 by omega) (by omega) (by decide)
      refine g_iload_n hC dX6_placeAllSheetsAnew_4 rfl ?_
      refine g_ald_n hC dX6_placeAllSheetsAnew_5 rfl ?_
      refine g_get hC dX6_placeAllSheetsAnew_6 gf_RX6_38 f1 rfl ?_
      refine g_icmp_ge (tgt := 58) hC dX6_placeAllSheetsAnew_9 (by decide) (by omega) (by omega) (fun c_9 => False.elim (by omega)) (fun c_9 => ?_)
      refine g_iload_n hC dX6_placeAllSheetsAnew_12 rfl ?_
      refine g_ald_n hC dX6_placeAllSheetsAnew_13 rfl ?_
      refine g_get hC dX6_placeAllSheetsAnew_14 gf_RX6_24 f1 rfl ?_
      refine g_alenR hC dX6_placeAllSheetsAnew_17 f2 (by decide) ?_
      refine g_top (b := 4) rfl ?_
      refine g_icmp_ge (tgt := 58) hC dX6_placeAllSheetsAnew_18 (by decide) (by omega) (by omega) (fun c_18 => False.elim (by omega)) (fun c_18 => ?_)
      refine g_ald_n hC dX6_placeAllSheetsAnew_21 rfl ?_
      refine g_get hC dX6_placeAllSheetsAnew_22 gf_RX6_24 f1 rfl ?_
      refine g_iload_n hC dX6_placeAllSheetsAnew_25 rfl ?_
      refine g_aaldK (v := some (ad (10, m, 0))) hC (m) dX6_placeAllSheetsAnew_26 f2 (by decide) rfl (by omega) (by omega) (by decide) (if_pos (by omega)) ?_
      refine g_ast (lv' := [some (.ref (ad (2, 0, 0))), some (vi ((i : Int))), some (vi (pushUp F0 F i n (z 0) m)), some (vi ((m : Int))), some (.ref (ad (10, m, 0)))]) hC dX6_placeAllSheetsAnew_27 (by decide) rfl ?_
      refine g_ald hC dX6_placeAllSheetsAnew_29 rfl ?_
      refine g_ifnull_r hC dX6_placeAllSheetsAnew_31 ?_
      refine g_ald hC dX6_placeAllSheetsAnew_34 rfl ?_
      refine g_ald_n hC dX6_placeAllSheetsAnew_36 rfl ?_
      refine g_get hC dX6_placeAllSheetsAnew_37 gf_RX6_44 f1 rfl ?_
      have hPL2 : ∀ i : Nat, i < n → PLP ad F i ct1 := fun i hi => (s6 i hi).fr (fun a b c ha hb => hfr _ (Or.inl (by show a < 10; omega)))
      refine g_callV (rest := []) hC (kX3_placeAnew hl hI (by omega) hSH hPL2 g1 h1R) gc_RX6_145 rfl fsh rfl ⟨by decide, by decide⟩ ⟨by decide, by decide⟩ (Nat.le_of_ble_eq_true rfl) rfl dX6_placeAllSheetsAnew_40 (fun r g4 hp => ?_)
      obtain ⟨rfl, ct4, N4, h4R, hfr4, hS4⟩ := hp
      obtain ⟨a1, a2, a3, a4, a5, a6, a7, a8, a9⟩ := id hS4
      refine gV.eqs (st' := []) rfl rfl rfl ?_
      refine g_iload_n hC dX6_placeAllSheetsAnew_43 rfl ?_
      refine g_ald hC dX6_placeAllSheetsAnew_44 rfl ?_
      refine g_iload_n hC dX6_placeAllSheetsAnew_46 rfl ?_
      refine g_callV (rest := [vi (pushUp F0 F i n (z 0) m)]) hC (kX3_pushed hl (t := fun i => ad (17, m, i)) (F := F) (s := m) (f := fun i => if i < n then some (ad (17, m, i)) else none) (pv := fun i => .ref (ad (3, i, 0))) (wv := fun i => va_rf (wdA ad F (z 0) i)) (sd := (lay0 F m n (z 0)).1) (ah := (lay0 F0 m n (z 0)).1) (n := n) (by omega) (i : Int) (by omega) (fun _ _ => ⟨lay0_side, lay0_side⟩) g4 (h4R.1 _ _ a1) (h4R.1 _ _ a2) (fun i hi => ⟨if_pos hi, h4R.1 _ _ (a8 i hi)⟩)) gc_RX6_220 rfl (h4R.1 _ _ a1) rfl ⟨by decide, by decide⟩ ⟨by decide, by decide⟩ (Nat.le_of_ble_eq_true rfl) rfl dX6_placeAllSheetsAnew_47 (fun r g5 hp => ?_)
      obtain ⟨rfl, hgh⟩ := hp
      rw [hgh, push_eq]
      refine gV.eqs (st' := [vi (pushIn F0 F i m n (z 0) n), vi (pushUp F0 F i n (z 0) m)]) rfl rfl rfl ?_
      refine g_iadd hC dX6_placeAllSheetsAnew_50 ?_
      refine g_istore_n (lv' := [some (.ref (ad (2, 0, 0))), some (vi ((i : Int))), some (vi ((pushUp F0 F i n (z 0) m) + (pushIn F0 F i m n (z 0) n))), some (vi ((m : Int))), some (.ref (ad (10, m, 0)))]) hC dX6_placeAllSheetsAnew_51 (by decide) rfl ?_
      refine g_iinc (lv' := [some (.ref (ad (2, 0, 0))), some (vi ((i : Int))), some (vi ((pushUp F0 F i n (z 0) m) + (pushIn F0 F i m n (z 0) n))), some (vi ((m : Int) + 1)), some (.ref (ad (10, m, 0)))]) hC dX6_placeAllSheetsAnew_52 (by decide) rfl rfl ?_
      refine g_goto (tgt := 4) hC dX6_placeAllSheetsAnew_55 (by decide) ?_
      refine gV.drop (lv' := [some (.ref (ad (2, 0, 0))), some (vi ((i : Int))), some (vi ((pushUp F0 F i n (z 0) m) + (pushIn F0 F i m n (z 0) n))), some (vi ((m : Int) + 1)), none]) (by intro k v hk; match k, hk with | 0, hk => exact hk | 1, hk => exact hk | 2, hk => exact hk | 3, hk => exact hk | 4, hk => exact absurd hk (by simp) | k + 5, hk => exact absurd hk (by simp)) ?_
      refine gV.eqs (lv' := [some (.ref (ad (2, 0, 0))), some (vi ((i : Int))), some (vi (pushUp F0 F i n (z 0) (m + 1))), some (vi ((((m + 1) : Nat) : Int))), none]) (lcons rfl (lcons rfl (lcons (svi (by rw [pushUp_s])) (lcons (svi (by omega)) (lcons rfl rfl))))) rfl rfl (ih g4 ct4 h4R ?_ ?_ ?_)
      · intro u hu; rw [hfr4 u (fun q => by have := q.1; have := q.2.1; omega)]; exact hfr u hu
      · intro k hk
        by_cases e : k = m
        · rw [e]; exact ⟨_, _, _, hS4⟩
        · obtain ⟨ah9, N9, T9, h9⟩ := hdone k (by omega)
          exact ⟨ah9, N9, T9, h9.fr (fun u hu => hfr4 u (fun q => e (by rw [← hu.2.2, q.2.2])))⟩
      · intro k hk1 hk2
        obtain ⟨ah9, wo9, c9, lo9, N9, P9, T9, h9⟩ := htodo k (by omega) hk2
        exact ⟨ah9, wo9, c9, lo9, N9, P9, T9, h9.fr (fun u hu => hfr4 u (fun q => (show k ≠ m by omega) (by rw [← hu.2.2, q.2.2])))⟩
    · intro g1 ct1 h1R hfr hdone htodo
      have f3 : g1 (ad (2, 0, 0)) = some (gO 10 [.ref (ad (2, 1, 0)), .ref (ad (2, 3, 0)), .ref (ad (2, 4, 0)), .ref (ad (2, 5, 0)), vi (z 3), vi (z 11), vi (z 22), vi (z 0)]) := h1R.1 _ _ (by rw [hfr _ (Or.inl (Nat.le_of_ble_eq_true rfl))]; exact s1)
      have f4 : g1 (ad (2, 4, 0)) = some (gR 5 4 (fun k => if (k : Int) < z 11 then some (ad (10, k, 0)) else none)) := h1R.1 _ _ (by rw [hfr _ (Or.inl (Nat.le_of_ble_eq_true rfl))]; exact s4)
      refine g_iload_n hC dX6_placeAllSheetsAnew_4 rfl ?_
      refine g_ald_n hC dX6_placeAllSheetsAnew_5 rfl ?_
      refine g_get hC dX6_placeAllSheetsAnew_6 gf_RX6_38 f3 rfl ?_
      refine g_icmp_ge (tgt := 58) hC dX6_placeAllSheetsAnew_9 (by decide) (by omega) (by omega) (fun c_9 => ?_) (fun c_9 => False.elim (by omega))
      refine g_iload_n hC dX6_placeAllSheetsAnew_58 rfl ?_
      exact g_iret hC hq dX6_placeAllSheetsAnew_59 (by decide) (by decide) ⟨by rw [hzs, Int.toNat_natCast], ct1, h1R, hfr, fun k hk => hdone k (by omega)⟩
  refine gV.eqs (lv' := [some (.ref (ad (2, 0, 0))), some (vi ((i : Int))), some (vi (pushUp F0 F i n (z 0) 0)), some (vi (((0 : Nat) : Int))), none]) (lcons rfl (lcons rfl (lcons (svi (rfl)) (lcons (svi (rfl)) (lcons rfl rfl))))) rfl rfl (lp 0 (Nat.zero_le _) gh ct hR (fun _ _ => rfl) (fun k hk => absurd hk (Nat.not_lt_zero k)) (fun k _ hk => s7 k (by omega)))

end C23
