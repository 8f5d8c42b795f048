/-! the class: a sheet is placed anew -/
section C18
theorem lyL_ok {z : Nat → Int} {F : Nat → Nat → Int} (hI : mI z F) {s : Nat} {on : Int} : ∀ (L : List Nat) (st : (Nat → Int) × (Nat → Int)), (∀ i ∈ L, i < 14 ∧ nmOf F on i ≠ -1) → Pok st.2 → Pok (lyL F s on st L).2
  | [], _, _, h => h
  | j :: L, st, hL, h => by
    have h1 := hL j List.mem_cons_self
    exact lyL_ok hI L _ (fun i hi => hL i (List.mem_cons_of_mem _ hi)) (lay1_ok hI h1.1 h1.2 h)
theorem notS {k a b c : Nat} (h : a ≤ 9 ∨ 18 ≤ a ∨ b ≠ k) : ¬ tS k (a, b, c) := fun q => by
  have h1 := q.1
  have h2 := q.2.1
  have h3 := q.2.2
  simp only at h1 h2 h3
  omega
set_option maxHeartbeats 4000000 in
set_option maxRecDepth 100000 in
theorem kX3_placeAnew {l : Launch} (hl : l.stackTraces = false) {D : gD} {base : Nat}  {ad : Tg → Nat} {F : Nat → Nat → Int} {z : Nat → Int} {k n : Nat} {sd ah : Nat → Int} {wo : Nat → Option Nat} {c : Nat} {lo : Nat → Nat} {N : Nat → Option Nat} {P T : Nat → Int} {ct : Tg → Option gC} (hI : mI z F) (hn : (n : Int) ≤ z 3) (hS : SHP ad F k n sd ah wo c lo N P T ct) (hPL : ∀ i : Nat, i < n → PLP ad F i ct) (gh : gH)  (hR : cR ad ct gh) : gM l D base yX3_placeAnew cX3_placeAnew 4 none 7 153 0 0 [.ref (ad (10, k, 0)), vi (z 0)] gh (fun r gh' => r = none ∧ ∃ ct' N', cR ad ct' gh' ∧ (∀ t, ¬ tS k t → ct' t = ct t) ∧ SHP ad F k n (lay0 F k n (z 0)).1 sd (wdA ad F (z 0)) (lsU F k (wdA ad F (z 0)) n 5).length (fun q => (lsU F k (wdA ad F (z 0)) n 5).getD q 0) N' (lay0 F k n (z 0)).2 T ct') gNo := by
  refine gM.of hl (by decide) (by simp [Value.category]) (Nat.le_of_ble_eq_true rfl) [some (.ref (ad (10, k, 0))), some (vi (z 0)), none, none] rfl (fun x hC hq => ?_)
  obtain ⟨i0, i1, i3, i11, i22, iw, ip, inn, inm, ish⟩ := id hI
  obtain ⟨s1, s2, s3, s4, s5, s6, s7, s8, s9⟩ := id hS
  have hn14 : n ≤ 14 := by omega
  refine g_iconst hC dX3_placeAnew_0 rfl ?_
  refine g_istore_n (lv' := [some (.ref (ad (10, k, 0))), some (vi (z 0)), some (vi (0)), none]) hC dX3_placeAnew_1 (by decide) rfl ?_
  have lp : ∀ m : Nat, m ≤ n → ∀ g1 : gH, cR ad (tkC ad F k (z 0) sd ct m) g1 → gV x D base 4 2 [some (.ref (ad (10, k, 0))), some (vi (z 0)), some (vi ((m : Int))), none] [] g1 0 0 := by
    refine g_for _ (fun m hn2 ih => ?_) ?_
    · intro g1 h1R
      obtain ⟨p1, p2, p3⟩ := hPL m hn2
      obtain ⟨c7, hc7⟩ : ∃ c7 : Nat, F 7 m = (c7 : Int) := ⟨(F 7 m).toNat, by have := inn m (by omega); omega⟩
      have h7 := inn m (by omega)
      have hd7 := inm m
      rw [hc7] at p1 p2 p3 h7
      have ew : wR (fun j => F 8 (6 * m + j)) (fun j => ad (6, m, j)) (z 0) c7 = wdA ad F (z 0) m := by unfold wdA; rw [hc7]; rfl
      have f1 : g1 (ad (10, k, 0)) = some (gO 7 [.ref (ad (13, k, 0)), .ref (ad (15, k, 0)), vi (F 12 k), vi (F 13 k), vi (F 14 k), .ref (ad (11, k, 0)), vi ((n : Int)), .ref (ad (12, k, 0)), vi ((c : Int))]) := h1R.1 _ _ (by rw [tkC_ne (Or.inl (by decide))]; exact s1)
      have f2 : g1 (ad (11, k, 0)) = some (gR 8 14 (fun i => if i < n then some (ad (17, k, i)) else none)) := h1R.1 _ _ (by rw [tkC_ne (Or.inl (by decide))]; exact s2)
      have h17 : tkC ad F k (z 0) sd ct m (17, k, m) = some (spO ad F k m (wo m) (sd m) (ah m)) := by rw [tkC_ne (Or.inr (Or.inr (Nat.le_refl m)))]; exact s8 m hn2
      have f3 : g1 (ad (17, k, m)) = some (gO 9 [vi (F 6 m), vi (cN F k m), vi (rN F k m), .ref (ad (3, m, 0)), va_rf (wo m), vi (sd m), vi (ah m)]) := h1R.1 _ _ (h17)
      have f4 : g1 (ad (3, m, 0)) = some (gO 6 [vi (F 4 m), vi (F 5 m), vi (F 6 m), .ref (ad (4, m, 0)), vi ((c7 : Int))]) := h1R.1 _ _ (by rw [tkC_ne (Or.inl (by decide))]; exact p1)
      have f5 : g1 (ad (4, m, 0)) = some (gR 7 6 (fun j => if (j : Int) < (c7 : Int) then some (ad (5, m, j)) else none)) := h1R.1 _ _ (by rw [tkC_ne (Or.inl (by decide))]; exact p2)
      refine g_iload_n hC dX3_placeAnew_2 rfl ?_
      refine g_ald_n hC dX3_placeAnew_3 rfl ?_
      refine g_get hC dX3_placeAnew_4 gf_RX3_40 f1 rfl ?_
      refine g_icmp_ge (tgt := 41) hC dX3_placeAnew_7 (by decide) (by omega) (by omega) (fun c_7 => False.elim (by omega)) (fun c_7 => ?_)
      refine g_iload_n hC dX3_placeAnew_10 rfl ?_
      refine g_ald_n hC dX3_placeAnew_11 rfl ?_
      refine g_get hC dX3_placeAnew_12 gf_RX3_33 f1 rfl ?_
      refine g_alenR hC dX3_placeAnew_15 f2 (by decide) ?_
      refine g_top (b := 14) rfl ?_
      refine g_icmp_ge (tgt := 41) hC dX3_placeAnew_16 (by decide) (by omega) (by omega) (fun c_16 => False.elim (by omega)) (fun c_16 => ?_)
      refine g_ald_n hC dX3_placeAnew_19 rfl ?_
      refine g_get hC dX3_placeAnew_20 gf_RX3_33 f1 rfl ?_
      refine g_iload_n hC dX3_placeAnew_23 rfl ?_
      refine g_aaldK (v := some (ad (17, k, m))) hC (m) dX3_placeAnew_24 f2 (by decide) rfl (by omega) (by omega) (by decide) (if_pos hn2) ?_
      refine g_ast_n (lv' := [some (.ref (ad (10, k, 0))), some (vi (z 0)), some (vi ((m : Int))), some (.ref (ad (17, k, m)))]) hC dX3_placeAnew_25 (by decide) rfl ?_
      refine g_ald_n hC dX3_placeAnew_26 rfl ?_
      refine g_ifnull_r hC dX3_placeAnew_27 ?_
      refine g_ald_n hC dX3_placeAnew_30 rfl ?_
      refine g_iload_n hC dX3_placeAnew_31 rfl ?_
      refine g_callV (rest := []) hC (kX5_takeUp (q := fun j => ad (5, m, j)) (sp := fun j => ad (6, m, j)) (d := fun j => F 8 (6 * m + j)) hl (z 0) (by omega) (by omega) g1 f3 f4 f5 (fun j hj => ⟨if_pos (by omega), h1R.1 _ _ (by rw [tkC_ne (Or.inl (by decide))]; exact (p3 j (by omega)).1), by have := hd7 j (by omega) (by omega); omega⟩)) gc_RX3_73 rfl f3 rfl ⟨by decide, by decide⟩ ⟨by decide, by decide⟩ (Nat.le_of_ble_eq_true rfl) rfl dX3_placeAnew_32 (fun r g2 hp => ?_)
      obtain ⟨rfl, hgh⟩ := hp
      have h2R : cR ad (tkC ad F k (z 0) sd ct (m + 1)) g2 := by rw [hgh, ← tkC_s, ew]; exact h1R.put h17 _
      refine gV.eqs (st' := []) rfl rfl rfl ?_
      refine g_iinc (lv' := [some (.ref (ad (10, k, 0))), some (vi (z 0)), some (vi ((m : Int) + 1)), some (.ref (ad (17, k, m)))]) hC dX3_placeAnew_35 (by decide) rfl rfl ?_
      refine g_goto (tgt := 2) hC dX3_placeAnew_38 (by decide) ?_
      refine gV.drop (lv' := [some (.ref (ad (10, k, 0))), some (vi (z 0)), some (vi ((m : Int) + 1)), none]) (by intro k v hk; match k, hk with | 0, hk => exact hk | 1, hk => exact hk | 2, hk => exact hk | 3, hk => exact absurd hk (by simp) | k + 4, hk => exact absurd hk (by simp)) ?_
      refine gV.eqs (lv' := [some (.ref (ad (10, k, 0))), some (vi (z 0)), some (vi ((((m + 1) : Nat) : Int))), none]) (lcons rfl (lcons rfl (lcons (svi (by omega)) (lcons rfl rfl)))) rfl rfl (ih g2 h2R)
    · intro g1 h1R
      have hS1 := hS.took (day := z 0)
      obtain ⟨a1, a2, a3, a4, a5, a6, a7, a8, a9⟩ := id hS1
      have f6 : g1 (ad (10, k, 0)) = some (gO 7 [.ref (ad (13, k, 0)), .ref (ad (15, k, 0)), vi (F 12 k), vi (F 13 k), vi (F 14 k), .ref (ad (11, k, 0)), vi ((n : Int)), .ref (ad (12, k, 0)), vi ((c : Int))]) := h1R.1 _ _ (a1)
      have f7 : g1 (ad (11, k, 0)) = some (gR 8 14 (fun i => if i < n then some (ad (17, k, i)) else none)) := h1R.1 _ _ (a2)
      have f8 : g1 (ad (12, k, 0)) = some (gR 8 14 (N)) := h1R.1 _ _ (a3)
      refine g_iload_n hC dX3_placeAnew_2 rfl ?_
      refine g_ald_n hC dX3_placeAnew_3 rfl ?_
      refine g_get hC dX3_placeAnew_4 gf_RX3_40 f6 rfl ?_
      refine g_icmp_ge (tgt := 41) hC dX3_placeAnew_7 (by decide) (by omega) (by omega) (fun c_7 => ?_) (fun c_7 => False.elim (by omega))
      refine g_ald_n hC dX3_placeAnew_41 rfl ?_
      refine g_callV (rest := []) hC (kX3_listNamed (t := fun i => ad (17, k, i)) (pv := fun i => .ref (ad (3, i, 0))) (s := k) (F := F) (wo := wdA ad F (z 0)) (sd := fun _ => -1) (ah := sd) hl hn14 (h1R.ne a2 a3 (by simp)) g1 f6 f7 f8 (fun i hi => ⟨if_pos hi, h1R.1 _ _ (a8 i hi), (ip i (by omega)).2.2.2.2⟩)) gc_RX3_77 rfl f6 rfl ⟨by decide, by decide⟩ ⟨by decide, by decide⟩ (Nat.le_of_ble_eq_true rfl) rfl dX3_placeAnew_42 (fun r g2 hp => ?_)
      obtain ⟨rfl, hgh⟩ := hp
      obtain ⟨L, eL⟩ : ∃ L, L = lsU F k (wdA ad F (z 0)) n 5 := ⟨_, rfl⟩
      rw [← eL] at hgh
      have hLn : L.length ≤ n := by rw [eL]; exact lsU_len14 5
      have hLm : ∀ i ∈ L, i < n ∧ qOn F k i = true ∧ (wdA ad F (z 0) i).isSome = true := fun i hi => by rw [eL] at hi; have := (lsU_mem 5 (Nat.le_refl 5)).mp hi; exact ⟨this.1, this.2.2.2⟩
      have hLd : L.Nodup := by rw [eL]; exact lsU_nodup 5 (Nat.le_refl 5)
      have hS2 := hS1.list (c' := L.length) (lo' := fun q => L.getD q 0) (N' := NL (fun i => ad (17, k, i)) N L) (fun q hq => ⟨if_pos hq, (hLm _ (getT_mem hq)).1⟩)
      have h2R := (h1R.put a3 (gR 8 14 (NL (fun i => ad (17, k, i)) N L))).put (t := (10, k, 0)) (by rw [cup_ne (by simp)]; exact a1) (gO 7 [.ref (ad (13, k, 0)), .ref (ad (15, k, 0)), vi (F 12 k), vi (F 13 k), vi (F 14 k), .ref (ad (11, k, 0)), vi (n : Int), .ref (ad (12, k, 0)), vi ((L.length : Nat) : Int)])
      rw [← hgh] at h2R
      have hfr2 : ∀ t, ¬ tS k t → cup (cup (tkC ad F k (z 0) sd ct n) (12, k, 0) (gR 8 14 (NL (fun i => ad (17, k, i)) N L))) (10, k, 0) (gO 7 [.ref (ad (13, k, 0)), .ref (ad (15, k, 0)), vi (F 12 k), vi (F 13 k), vi (F 14 k), .ref (ad (11, k, 0)), vi (n : Int), .ref (ad (12, k, 0)), vi ((L.length : Nat) : Int)]) t = ct t := by
        intro t ht
        obtain ⟨ta, tb, tc⟩ := t
        have q1 : (ta, tb, tc) ≠ ((10, k, 0) : Tg) := fun e => ht (by rw [e]; exact ⟨Nat.le_of_ble_eq_true rfl, Nat.le_of_ble_eq_true rfl, rfl⟩)
        have q2 : (ta, tb, tc) ≠ ((12, k, 0) : Tg) := fun e => ht (by rw [e]; exact ⟨Nat.le_of_ble_eq_true rfl, Nat.le_of_ble_eq_true rfl, rfl⟩)
        rw [cup_ne q1, cup_ne q2]
        exact if_neg (fun q => ht ⟨by have := q.1; omega, by have := q.1; omega, q.2.1⟩)
      generalize cup (cup (tkC ad F k (z 0) sd ct n) (12, k, 0) (gR 8 14 (NL (fun i => ad (17, k, i)) N L))) (10, k, 0) (gO 7 [.ref (ad (13, k, 0)), .ref (ad (15, k, 0)), vi (F 12 k), vi (F 13 k), vi (F 14 k), .ref (ad (11, k, 0)), vi (n : Int), .ref (ad (12, k, 0)), vi ((L.length : Nat) : Int)]) = ct2 at hS2 h2R hfr2
      clear hgh h1R a1 a2 a3 a4 a5 a6 a7 a8 a9 hS1
      obtain ⟨a1, a2, a3, a4, a5, a6, a7, a8, a9⟩ := id hS2
      have f9 : g2 (ad (10, k, 0)) = some (gO 7 [.ref (ad (13, k, 0)), .ref (ad (15, k, 0)), vi (F 12 k), vi (F 13 k), vi (F 14 k), .ref (ad (11, k, 0)), vi ((n : Int)), .ref (ad (12, k, 0)), vi (((L.length : Nat) : Int))]) := h2R.1 _ _ (a1)
      have f10 : g2 (ad (11, k, 0)) = some (gR 8 14 (fun i => if i < n then some (ad (17, k, i)) else none)) := h2R.1 _ _ (a2)
      have f11 : g2 (ad (13, k, 0)) = some (gO 5 [.ref (ad (14, k, 0))]) := h2R.1 _ _ (a4)
      have f12 : g2 (ad (14, k, 0)) = some (gI 0 960 (P)) := h2R.1 _ _ (a5)
      refine gV.eqs (st' := []) rfl rfl rfl ?_
      refine g_ald_n hC dX3_placeAnew_45 rfl ?_
      refine g_ald_n hC dX3_placeAnew_46 rfl ?_
      refine g_get hC dX3_placeAnew_47 gf_RX3_24 f9 rfl ?_
      refine g_callV (rest := []) hC (kX3_drawDots (t := fun i => ad (17, k, i)) (pv := fun i => .ref (ad (3, i, 0))) (s := k) (F := F) (wv := fun i => va_rf (wdA ad F (z 0) i)) (sd := fun _ => -1) (ah := sd) hl hn14 g2 f9 f10 f11 f12 (fun i hi => ⟨if_pos hi, h2R.1 _ _ (a8 i hi)⟩)) gc_RX3_80 rfl f9 rfl ⟨by decide, by decide⟩ ⟨by decide, by decide⟩ (Nat.le_of_ble_eq_true rfl) rfl dX3_placeAnew_50 (fun r g3 hp => ?_)
      obtain ⟨rfl, hgh⟩ := hp
      have h3R := h2R.put a5 (gI 0 960 (dotP F k n))
      rw [← hgh] at h3R
      have hS3 := hS2.pic (dotP F k n)
      have hfr3 : ∀ t, ¬ tS k t → cup ct2 (14, k, 0) (gI 0 960 (dotP F k n)) t = ct t := fun t ht => by rw [cup_ne (fun e => ht (by rw [e]; exact ⟨Nat.le_of_ble_eq_true rfl, Nat.le_of_ble_eq_true rfl, rfl⟩))]; exact hfr2 t ht
      refine gV.eqs (st' := []) rfl rfl rfl ?_
      refine g_iconst hC dX3_placeAnew_53 rfl ?_
      refine g_istore_n (lv' := [some (.ref (ad (10, k, 0))), some (vi (z 0)), some (vi (0)), none]) hC dX3_placeAnew_54 (by decide) rfl ?_
      have lq : ∀ q : Nat, q ≤ L.length → ∀ (g4 : gH) (ct4 : Tg → Option gC), cR ad ct4 g4 → (∀ t, ¬ tS k t → ct4 t = ct t) → SHP ad F k n (lyL F k (z 0) (fun _ => -1, dotP F k n) (L.take q)).1 sd (wdA ad F (z 0)) L.length (fun q => L.getD q 0) (NL (fun i => ad (17, k, i)) N L) (lyL F k (z 0) (fun _ => -1, dotP F k n) (L.take q)).2 T ct4 → gV x D base 4 55 [some (.ref (ad (10, k, 0))), some (vi (z 0)), some (vi ((q : Int))), none] [] g4 0 0 := by
        refine g_for _ (fun q hq2 iq => ?_) ?_
        · intro g4 ct4 h4R hfr4 hS4
          obtain ⟨b1, b2, b3, b4, b5, b6, b7, b8, b9⟩ := id hS4
          have hiL := getT_mem hq2
          have hni := nodup_take hLd hq2
          have hY : lyL F k (z 0) (fun _ => -1, dotP F k n) (L.take (q + 1)) = lay1 F k (z 0) (L.getD q 0) (lyL F k (z 0) (fun _ => -1, dotP F k n) (L.take q)) := by rw [takeT hq2, lyL_app]
          have hN := (b9 q hq2).1
          obtain ⟨i, ei⟩ : ∃ i, i = L.getD q 0 := ⟨_, rfl⟩
          simp only [← ei] at hiL hni hY hN
          obtain ⟨hin, hon, hws⟩ := hLm i hiL
          obtain ⟨j, hj7, hnm, hnt, hwd⟩ := (wdA_nm ad F (z 0) i).resolve_left (fun q => by rw [q.2] at hws; cases hws)
          obtain ⟨p1, p2, p3⟩ := (hPL i hin).fr (ct' := ct4) (fun a b c ha hb => hfr4 _ (notS (Or.inl (by omega))))
          have h7 := inn i (by omega)
          have h9 := inm i j (by omega) (by omega)
          obtain ⟨q1, q2, q3⟩ := p3 j (by omega)
          obtain ⟨kk, hkk⟩ : ∃ kk : Nat, F 9 (6 * i + j) = (kk : Int) := ⟨(F 9 (6 * i + j)).toNat, by omega⟩
          rw [hkk] at q3 h9
          rw [Int.toNat_natCast] at q3
          have b17 := b8 i hin
          rw [hwd, lyL_out _ _ hni] at b17
          have hok := lyL_ok hI (s := k) (on := z 0) (L.take q) (fun _ => -1, dotP F k n) (fun i hi => by have h1 := hLm i (List.mem_of_mem_take hi); have h2 := h1.2.2; rw [wdA_some] at h2; exact ⟨by omega, of_decide_eq_true h2⟩) (dotP_ok n)
          have hcn := cN_rng (F := F) (s := k) (i := i)
          have hrn := rN_rng (F := F) (s := k) (i := i)
          obtain ⟨Yq, eY⟩ : ∃ Yq, Yq = lyL F k (z 0) (fun _ => -1, dotP F k n) (L.take q) := ⟨_, rfl⟩
          rw [← eY] at hS4 hY hok b5
          have f13 : g4 (ad (10, k, 0)) = some (gO 7 [.ref (ad (13, k, 0)), .ref (ad (15, k, 0)), vi (F 12 k), vi (F 13 k), vi (F 14 k), .ref (ad (11, k, 0)), vi ((n : Int)), .ref (ad (12, k, 0)), vi (((L.length : Nat) : Int))]) := h4R.1 _ _ (b1)
          have f14 : g4 (ad (12, k, 0)) = some (gR 8 14 ((NL (fun i => ad (17, k, i)) N L))) := h4R.1 _ _ (b3)
          have f15 : g4 (ad (13, k, 0)) = some (gO 5 [.ref (ad (14, k, 0))]) := h4R.1 _ _ (b4)
          have f16 : g4 (ad (14, k, 0)) = some (gI 0 960 (Yq.2)) := h4R.1 _ _ (b5)
          have f17 : g4 (ad (17, k, i)) = some (gO 9 [vi (F 6 i), vi (cN F k i), vi (rN F k i), .ref (ad (3, i, 0)), .ref (ad (6, i, j)), vi ((-1)), vi (sd i)]) := h4R.1 _ _ (b17)
          have f18 : g4 (ad (6, i, j)) = some (gO 0 [.ref (ad (7, i, j)), vi (0), vi (0), vi (0)]) := h4R.1 _ _ (q2)
          have f19 : g4 (ad (7, i, j)) = some (gI 2 kk (fun t => F 10 (8 * (6 * i + j) + t))) := h4R.1 _ _ (q3)
          refine g_iload_n hC dX3_placeAnew_55 rfl ?_
          refine g_ald_n hC dX3_placeAnew_56 rfl ?_
          refine g_get hC dX3_placeAnew_57 gf_RX3_43 f13 rfl ?_
          refine g_icmp_ge (tgt := 97) hC dX3_placeAnew_60 (by decide) (by omega) (by omega) (fun c_60 => False.elim (by omega)) (fun c_60 => ?_)
          refine g_iload_n hC dX3_placeAnew_63 rfl ?_
          refine g_ald_n hC dX3_placeAnew_64 rfl ?_
          refine g_get hC dX3_placeAnew_65 gf_RX3_37 f13 rfl ?_
          refine g_alenR hC dX3_placeAnew_68 f14 (by decide) ?_
          refine g_top (b := 14) rfl ?_
          refine g_icmp_ge (tgt := 97) hC dX3_placeAnew_69 (by decide) (by omega) (by omega) (fun c_69 => False.elim (by omega)) (fun c_69 => ?_)
          refine g_ald_n hC dX3_placeAnew_72 rfl ?_
          refine g_get hC dX3_placeAnew_73 gf_RX3_37 f13 rfl ?_
          refine g_iload_n hC dX3_placeAnew_76 rfl ?_
          refine g_aaldK (v := some (ad (17, k, i))) hC (q) dX3_placeAnew_77 f14 (by decide) rfl (by omega) (by omega) (by decide) (hN) ?_
          refine g_ast_n (lv' := [some (.ref (ad (10, k, 0))), some (vi (z 0)), some (vi ((q : Int))), some (.ref (ad (17, k, i)))]) hC dX3_placeAnew_78 (by decide) rfl ?_
          refine g_ald_n hC dX3_placeAnew_79 rfl ?_
          refine g_ifnull_r hC dX3_placeAnew_80 ?_
          refine g_ald_n hC dX3_placeAnew_83 rfl ?_
          refine g_ald_n hC dX3_placeAnew_84 rfl ?_
          refine g_get hC dX3_placeAnew_85 gf_RX3_24 f13 rfl ?_
          refine g_callV (rest := []) hC (kX5_stand hl kk (by omega) hrn hcn hok (fun t ht => h9.2.2.2.2 t (by omega)) g4 f17 f15 f16 f18 f19) gc_RX3_84 rfl f17 rfl ⟨by decide, by decide⟩ ⟨by decide, by decide⟩ (Nat.le_of_ble_eq_true rfl) rfl dX3_placeAnew_88 (fun r g5 hp => ?_)
          obtain ⟨rfl, hp⟩ := hp
          have hl1 : lay1 F k (z 0) i Yq = if sideF Yq.2 (rN F k i) (cN F k i) kk = -1 then Yq else (gup Yq.1 i (sideF Yq.2 (rN F k i) (cN F k i) kk), putN Yq.2 (40 * rowAtN (rN F k i) (sideF Yq.2 (rN F k i) (cN F k i) kk) + colAtN (cN F k i) (sideF Yq.2 (rN F k i) (cN F k i) kk) kk).toNat (fun t => F 10 (8 * (6 * i + j) + t)) kk) := by
            rw [show cN F k i = qCol F k i from if_pos hon, show rN F k i = qRow F k i from if_pos hon]
            unfold lay1 wrt
            rw [hnt, hkk, Int.toNat_natCast]
          refine gV.eqs (st' := []) rfl rfl rfl ?_
          rcases hp with ⟨hs, hgh⟩ | ⟨hs0, hs3, hgh⟩
          · rw [if_pos hs] at hl1
            refine g_iinc (lv' := [some (.ref (ad (10, k, 0))), some (vi (z 0)), some (vi ((q : Int) + 1)), some (.ref (ad (17, k, i)))]) hC dX3_placeAnew_91 (by decide) rfl rfl ?_
            refine g_goto (tgt := 55) hC dX3_placeAnew_94 (by decide) ?_
            refine gV.drop (lv' := [some (.ref (ad (10, k, 0))), some (vi (z 0)), some (vi ((q : Int) + 1)), none]) (by intro k v hk; match k, hk with | 0, hk => exact hk | 1, hk => exact hk | 2, hk => exact hk | 3, hk => exact absurd hk (by simp) | k + 4, hk => exact absurd hk (by simp)) ?_
            refine gV.eqs (lv' := [some (.ref (ad (10, k, 0))), some (vi (z 0)), some (vi ((((q + 1) : Nat) : Int))), none]) (lcons rfl (lcons rfl (lcons (svi (by omega)) (lcons rfl rfl)))) rfl rfl (iq g5 _ (by rw [hgh]; exact h4R) (hfr4) (by rw [hY, hl1]; exact hS4))
          · rw [if_neg (by omega)] at hl1
            have h5R := (h4R.put b5 (gI 0 960 (putN Yq.2 (40 * rowAtN (rN F k i) (sideF Yq.2 (rN F k i) (cN F k i) kk) + colAtN (cN F k i) (sideF Yq.2 (rN F k i) (cN F k i) kk) kk).toNat (fun t => F 10 (8 * (6 * i + j) + t)) kk))).put (t := (17, k, i)) (by rw [cup_ne (by simp)]; exact b17) (spO ad F k i (wdA ad F (z 0) i) (sideF Yq.2 (rN F k i) (cN F k i) kk) (sd i))
            have hS5 := (hS4.pic (putN Yq.2 (40 * rowAtN (rN F k i) (sideF Yq.2 (rN F k i) (cN F k i) kk) + colAtN (cN F k i) (sideF Yq.2 (rN F k i) (cN F k i) kk) kk).toNat (fun t => F 10 (8 * (6 * i + j) + t)) kk)).spot i (sideF Yq.2 (rN F k i) (cN F k i) kk)
            have hfr5 : ∀ t, ¬ tS k t → cup (cup ct4 (14, k, 0) (gI 0 960 (putN Yq.2 (40 * rowAtN (rN F k i) (sideF Yq.2 (rN F k i) (cN F k i) kk) + colAtN (cN F k i) (sideF Yq.2 (rN F k i) (cN F k i) kk) kk).toNat (fun t => F 10 (8 * (6 * i + j) + t)) kk))) (17, k, i) (spO ad F k i (wdA ad F (z 0) i) (sideF Yq.2 (rN F k i) (cN F k i) kk) (sd i)) t = ct t := fun t ht => by rw [cup_ne (fun e => ht (by rw [e]; exact ⟨Nat.le_of_ble_eq_true rfl, Nat.le_of_ble_eq_true rfl, rfl⟩)), cup_ne (fun e => ht (by rw [e]; exact ⟨Nat.le_of_ble_eq_true rfl, Nat.le_of_ble_eq_true rfl, rfl⟩))]; exact hfr4 t ht
            refine g_iinc (lv' := [some (.ref (ad (10, k, 0))), some (vi (z 0)), some (vi ((q : Int) + 1)), some (.ref (ad (17, k, i)))]) hC dX3_placeAnew_91 (by decide) rfl rfl ?_
            refine g_goto (tgt := 55) hC dX3_placeAnew_94 (by decide) ?_
            refine gV.drop (lv' := [some (.ref (ad (10, k, 0))), some (vi (z 0)), some (vi ((q : Int) + 1)), none]) (by intro k v hk; match k, hk with | 0, hk => exact hk | 1, hk => exact hk | 2, hk => exact hk | 3, hk => exact absurd hk (by simp) | k + 4, hk => exact absurd hk (by simp)) ?_
            refine gV.eqs (lv' := [some (.ref (ad (10, k, 0))), some (vi (z 0)), some (vi ((((q + 1) : Nat) : Int))), none]) (lcons rfl (lcons rfl (lcons (svi (by omega)) (lcons rfl rfl)))) rfl rfl (iq g5 _ (by rw [hgh]; rw [hwd] at h5R; exact h5R) (by rw [hwd] at hfr5; exact hfr5) (by rw [hY, hl1]; rw [hwd] at hS5; exact hS5))
        · intro g4 ct4 h4R hfr4 hS4
          obtain ⟨b1, b2, b3, b4, b5, b6, b7, b8, b9⟩ := id hS4
          have f20 : g4 (ad (10, k, 0)) = some (gO 7 [.ref (ad (13, k, 0)), .ref (ad (15, k, 0)), vi (F 12 k), vi (F 13 k), vi (F 14 k), .ref (ad (11, k, 0)), vi ((n : Int)), .ref (ad (12, k, 0)), vi (((L.length : Nat) : Int))]) := h4R.1 _ _ (b1)
          refine g_iload_n hC dX3_placeAnew_55 rfl ?_
          refine g_ald_n hC dX3_placeAnew_56 rfl ?_
          refine g_get hC dX3_placeAnew_57 gf_RX3_43 f20 rfl ?_
          refine g_icmp_ge (tgt := 97) hC dX3_placeAnew_60 (by decide) (by omega) (by omega) (fun c_60 => ?_) (fun c_60 => False.elim (by omega))
          rw [List.take_of_length_le (Nat.le_refl L.length), eL, lyL_lay0] at hS4
          exact g_vret hC hq dX3_placeAnew_97 (by decide) (by decide) ⟨rfl, ct4, _, h4R, hfr4, hS4⟩
      refine gV.eqs (lv' := [some (.ref (ad (10, k, 0))), some (vi (z 0)), some (vi (((0 : Nat) : Int))), none]) (lcons rfl (lcons rfl (lcons (svi (rfl)) (lcons rfl rfl)))) rfl rfl (lq 0 (Nat.zero_le _) g3 _ h3R hfr3 hS3)
  refine gV.eqs (lv' := [some (.ref (ad (10, k, 0))), some (vi (z 0)), some (vi (((0 : Nat) : Int))), none]) (lcons rfl (lcons rfl (lcons (svi (rfl)) (lcons rfl rfl)))) rfl rfl (lp 0 (Nat.zero_le _) gh (by rw [tkC_0]; exact hR))

end C18
