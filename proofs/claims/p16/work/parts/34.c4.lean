/-! the class: a name at its first free side; names of a place on a day -/
section C4
theorem gV.drop {x : gX} {D : gD} {base nL pc : Nat} {lv : List (Option Value)} {st : List Value} {gh : gH} {cells slots : Nat} {lv' : List (Option Value)} (h : ∀ (k : Nat) (v : Value), lv'[k]? = some (some v) → lv[k]? = some (some v)) (kk : gV x D base nL pc lv' st gh cells slots) : gV x D base nL pc lv st gh cells slots := by
  obtain ⟨p, l', e, R, s, m, args, below, meth, c, Q⟩ := x
  intro H locs ls hG hS hl
  exact kk H locs ls hG hS ⟨hl.1, hl.2.1, fun k v hk => hl.2.2 k v (h k v hk)⟩
set_option maxHeartbeats 4000000 in
set_option maxRecDepth 100000 in
theorem kX5_stand {l : Launch} (hl : l.stackTraces = false) {D : gD} {base : Nat}  {t : Nat} {rk co ro ah : Int} {pv : Value} {g s wa b : Nat} {h0 z0 : Value} {P L : Nat → Int} (k : Nat) (hk : 1 ≤ k ∧ k ≤ 8) (hro : -1 ≤ ro ∧ ro ≤ 23) (hco : -1 ≤ co ∧ co ≤ 39) (hP : Pok P) (hlet : ∀ t, t < k → 97 ≤ L t ∧ L t ≤ 122) (gh : gH) (ht : gh t = some (gO 9 [vi (rk), vi (co), vi (ro), (pv), .ref wa, vi ((-1)), vi (ah)])) (hg : gh g = some (gO 5 [.ref s])) (hs : gh s = some (gI 0 960 (P))) (hwd : gh wa = some (gO 0 [.ref b, vi (0), (h0), (z0)])) (hb : gh b = some (gI 2 k (L)))  : gM l D base yX5_standAtFirstFree cX5_standAtFirstFree 3 none 6 131 0 0 [.ref t, .ref g] gh (fun r gh' => r = none ∧ ((sideF P ro co k = -1 ∧ gh' = gh) ∨ (0 ≤ sideF P ro co k ∧ sideF P ro co k ≤ 3 ∧ gh' = gset (gset gh s (gI 0 960 (putN P (40 * rowAtN ro (sideF P ro co k) + colAtN co (sideF P ro co k) k).toNat L k))) t (gO 9 [vi rk, vi co, vi ro, pv, .ref wa, vi (sideF P ro co k), vi ah])))) gNo := by
  refine gM.of hl (by decide) (by simp [Value.category]) (Nat.le_of_ble_eq_true rfl) [some (.ref t), some (.ref g), none] rfl (fun x hC hq => ?_)
  refine g_iconst hC dX5_standAtFirstFree_0 rfl ?_
  refine g_istore_n (lv' := [some (.ref t), some (.ref g), some (vi (0))]) hC dX5_standAtFirstFree_1 (by decide) rfl ?_
  refine g_iload_n hC dX5_standAtFirstFree_2 rfl ?_
  refine g_iconst hC dX5_standAtFirstFree_3 rfl ?_
  refine g_icmp_ge (tgt := 41) hC dX5_standAtFirstFree_4 (by decide) (by omega) (by omega) (fun c_4 => False.elim (by omega)) (fun c_4 => ?_)
  refine g_ald_n hC dX5_standAtFirstFree_7 rfl ?_
  refine g_get hC dX5_standAtFirstFree_8 gf_RX5_32 ht rfl ?_
  refine g_iconst hC dX5_standAtFirstFree_11 rfl ?_
  refine g_icmp_ne (tgt := 41) hC dX5_standAtFirstFree_12 (by decide) (by omega) (by omega) (fun c_12 => False.elim (by omega)) (fun c_12 => ?_)
  refine g_ald_n hC dX5_standAtFirstFree_15 rfl ?_
  refine g_ald_n hC dX5_standAtFirstFree_16 rfl ?_
  refine g_iload_n hC dX5_standAtFirstFree_17 rfl ?_
  refine g_callV (rest := []) hC (kX5_mayStand hl k 0 (by decide) hk hro hco hP gh ht hg hs hwd hb) gc_RX5_74 rfl ht rfl ⟨by decide, by decide⟩ ⟨by decide, by decide⟩ (Nat.le_of_ble_eq_true rfl) rfl dX5_standAtFirstFree_18 (fun r gh' hp => ?_)
  obtain ⟨rfl, hgh⟩ := hp
  rw [hgh]
  clear hgh
  refine gV.eqs (st' := [vi (b2i (mayB P (rowAtN ro 0) (colAtN co 0 k) k))]) rfl rfl rfl ?_
  refine g_ifeq_b (tgt := 35) hC dX5_standAtFirstFree_21 (by decide)  (fun m0 => ?_) (fun m0 => ?_)
  · refine g_iinc (lv' := [some (.ref t), some (.ref g), some (vi (0 + 1))]) hC dX5_standAtFirstFree_35 (by decide) rfl rfl ?_
    refine g_goto (tgt := 2) hC dX5_standAtFirstFree_38 (by decide) ?_
    refine gV.eqs (lv' := [some (.ref t), some (.ref g), some (vi (1))]) (lcons rfl (lcons rfl (lcons (svi (by decide)) rfl))) rfl rfl ?_
    refine g_iload_n hC dX5_standAtFirstFree_2 rfl ?_
    refine g_iconst hC dX5_standAtFirstFree_3 rfl ?_
    refine g_icmp_ge (tgt := 41) hC dX5_standAtFirstFree_4 (by decide) (by omega) (by omega) (fun c_4 => False.elim (by omega)) (fun c_4 => ?_)
    refine g_ald_n hC dX5_standAtFirstFree_7 rfl ?_
    refine g_get hC dX5_standAtFirstFree_8 gf_RX5_32 ht rfl ?_
    refine g_iconst hC dX5_standAtFirstFree_11 rfl ?_
    refine g_icmp_ne (tgt := 41) hC dX5_standAtFirstFree_12 (by decide) (by omega) (by omega) (fun c_12 => False.elim (by omega)) (fun c_12 => ?_)
    refine g_ald_n hC dX5_standAtFirstFree_15 rfl ?_
    refine g_ald_n hC dX5_standAtFirstFree_16 rfl ?_
    refine g_iload_n hC dX5_standAtFirstFree_17 rfl ?_
    refine g_callV (rest := []) hC (kX5_mayStand hl k 1 (by decide) hk hro hco hP gh ht hg hs hwd hb) gc_RX5_74 rfl ht rfl ⟨by decide, by decide⟩ ⟨by decide, by decide⟩ (Nat.le_of_ble_eq_true rfl) rfl dX5_standAtFirstFree_18 (fun r gh' hp => ?_)
    obtain ⟨rfl, hgh⟩ := hp
    rw [hgh]
    clear hgh
    refine gV.eqs (st' := [vi (b2i (mayB P (rowAtN ro 1) (colAtN co 1 k) k))]) rfl rfl rfl ?_
    refine g_ifeq_b (tgt := 35) hC dX5_standAtFirstFree_21 (by decide)  (fun m1 => ?_) (fun m1 => ?_)
    · refine g_iinc (lv' := [some (.ref t), some (.ref g), some (vi (1 + 1))]) hC dX5_standAtFirstFree_35 (by decide) rfl rfl ?_
      refine g_goto (tgt := 2) hC dX5_standAtFirstFree_38 (by decide) ?_
      refine gV.eqs (lv' := [some (.ref t), some (.ref g), some (vi (2))]) (lcons rfl (lcons rfl (lcons (svi (by decide)) rfl))) rfl rfl ?_
      refine g_iload_n hC dX5_standAtFirstFree_2 rfl ?_
      refine g_iconst hC dX5_standAtFirstFree_3 rfl ?_
      refine g_icmp_ge (tgt := 41) hC dX5_standAtFirstFree_4 (by decide) (by omega) (by omega) (fun c_4 => False.elim (by omega)) (fun c_4 => ?_)
      refine g_ald_n hC dX5_standAtFirstFree_7 rfl ?_
      refine g_get hC dX5_standAtFirstFree_8 gf_RX5_32 ht rfl ?_
      refine g_iconst hC dX5_standAtFirstFree_11 rfl ?_
      refine g_icmp_ne (tgt := 41) hC dX5_standAtFirstFree_12 (by decide) (by omega) (by omega) (fun c_12 => False.elim (by omega)) (fun c_12 => ?_)
      refine g_ald_n hC dX5_standAtFirstFree_15 rfl ?_
      refine g_ald_n hC dX5_standAtFirstFree_16 rfl ?_
      refine g_iload_n hC dX5_standAtFirstFree_17 rfl ?_
      refine g_callV (rest := []) hC (kX5_mayStand hl k 2 (by decide) hk hro hco hP gh ht hg hs hwd hb) gc_RX5_74 rfl ht rfl ⟨by decide, by decide⟩ ⟨by decide, by decide⟩ (Nat.le_of_ble_eq_true rfl) rfl dX5_standAtFirstFree_18 (fun r gh' hp => ?_)
      obtain ⟨rfl, hgh⟩ := hp
      rw [hgh]
      clear hgh
      refine gV.eqs (st' := [vi (b2i (mayB P (rowAtN ro 2) (colAtN co 2 k) k))]) rfl rfl rfl ?_
      refine g_ifeq_b (tgt := 35) hC dX5_standAtFirstFree_21 (by decide)  (fun m2 => ?_) (fun m2 => ?_)
      · refine g_iinc (lv' := [some (.ref t), some (.ref g), some (vi (2 + 1))]) hC dX5_standAtFirstFree_35 (by decide) rfl rfl ?_
        refine g_goto (tgt := 2) hC dX5_standAtFirstFree_38 (by decide) ?_
        refine gV.eqs (lv' := [some (.ref t), some (.ref g), some (vi (3))]) (lcons rfl (lcons rfl (lcons (svi (by decide)) rfl))) rfl rfl ?_
        refine g_iload_n hC dX5_standAtFirstFree_2 rfl ?_
        refine g_iconst hC dX5_standAtFirstFree_3 rfl ?_
        refine g_icmp_ge (tgt := 41) hC dX5_standAtFirstFree_4 (by decide) (by omega) (by omega) (fun c_4 => False.elim (by omega)) (fun c_4 => ?_)
        refine g_ald_n hC dX5_standAtFirstFree_7 rfl ?_
        refine g_get hC dX5_standAtFirstFree_8 gf_RX5_32 ht rfl ?_
        refine g_iconst hC dX5_standAtFirstFree_11 rfl ?_
        refine g_icmp_ne (tgt := 41) hC dX5_standAtFirstFree_12 (by decide) (by omega) (by omega) (fun c_12 => False.elim (by omega)) (fun c_12 => ?_)
        refine g_ald_n hC dX5_standAtFirstFree_15 rfl ?_
        refine g_ald_n hC dX5_standAtFirstFree_16 rfl ?_
        refine g_iload_n hC dX5_standAtFirstFree_17 rfl ?_
        refine g_callV (rest := []) hC (kX5_mayStand hl k 3 (by decide) hk hro hco hP gh ht hg hs hwd hb) gc_RX5_74 rfl ht rfl ⟨by decide, by decide⟩ ⟨by decide, by decide⟩ (Nat.le_of_ble_eq_true rfl) rfl dX5_standAtFirstFree_18 (fun r gh' hp => ?_)
        obtain ⟨rfl, hgh⟩ := hp
        rw [hgh]
        clear hgh
        refine gV.eqs (st' := [vi (b2i (mayB P (rowAtN ro 3) (colAtN co 3 k) k))]) rfl rfl rfl ?_
        refine g_ifeq_b (tgt := 35) hC dX5_standAtFirstFree_21 (by decide)  (fun m3 => ?_) (fun m3 => ?_)
        · refine g_iinc (lv' := [some (.ref t), some (.ref g), some (vi (3 + 1))]) hC dX5_standAtFirstFree_35 (by decide) rfl rfl ?_
          refine g_goto (tgt := 2) hC dX5_standAtFirstFree_38 (by decide) ?_
          refine gV.eqs (lv' := [some (.ref t), some (.ref g), some (vi (4))]) (lcons rfl (lcons rfl (lcons (svi (by decide)) rfl))) rfl rfl ?_
          refine g_iload_n hC dX5_standAtFirstFree_2 rfl ?_
          refine g_iconst hC dX5_standAtFirstFree_3 rfl ?_
          refine g_icmp_ge (tgt := 41) hC dX5_standAtFirstFree_4 (by decide) (by omega) (by omega) (fun c_4 => ?_) (fun c_4 => False.elim (by omega))
          exact g_vret hC hq dX5_standAtFirstFree_41 (by decide) (by decide) ⟨rfl, Or.inl ⟨by unfold sideF; rw [if_neg (by rw [m0]; decide), if_neg (by rw [m1]; decide), if_neg (by rw [m2]; decide), if_neg (by rw [m3]; decide)], rfl⟩⟩
        · refine g_ald_n hC dX5_standAtFirstFree_24 rfl ?_
          refine g_ald_n hC dX5_standAtFirstFree_25 rfl ?_
          refine g_iload_n hC dX5_standAtFirstFree_26 rfl ?_
          have hsf : sideF P ro co k = 3 := by unfold sideF; rw [if_neg (by rw [m0]; decide), if_neg (by rw [m1]; decide), if_neg (by rw [m2]; decide), if_pos m3]
          refine g_callV (rest := []) hC (kX5_write hl k 3 (by decide) hk hro hco hlet (mayB_fit m3) gh ht hg hs hwd hb) gc_RX5_78 rfl ht rfl ⟨by decide, by decide⟩ ⟨by decide, by decide⟩ (Nat.le_of_ble_eq_true rfl) rfl dX5_standAtFirstFree_27 (fun r gh' hp => ?_)
          obtain ⟨rfl, hgh⟩ := hp
          rw [hgh]
          clear hgh
          refine gV.eqs (st' := []) rfl rfl rfl ?_
          obtain ⟨gh1, egh1⟩ : ∃ g_, g_ = gset gh s (gI 0 960 (putN P (40 * rowAtN ro 3 + colAtN co 3 k).toNat L k)) := ⟨_, rfl⟩
          rw [← egh1]
          have h2 : gh1 t = some (gO 9 [vi (rk), vi (co), vi (ro), (pv), .ref wa, vi ((-1)), vi (ah)]) := by rw [egh1, gset_ne (gne ht hs (by simp))]; exact ht
          have h3 : gh1 g = some (gO 5 [.ref s]) := by rw [egh1, gset_ne (gne hg hs (by simp))]; exact hg
          have h4 : gh1 wa = some (gO 0 [.ref b, vi (0), (h0), (z0)]) := by rw [egh1, gset_ne (gne hwd hs (by simp))]; exact hwd
          have h5 : gh1 b = some (gI 2 k (L)) := by rw [egh1, gset_ne (gne hb hs (by simp))]; exact hb
          have h6 : gh1 s = some (gI 0 960 (putN P (40 * rowAtN ro 3 + colAtN co 3 k).toNat L k)) := by rw [egh1]; exact gset_eq
          refine g_ald_n hC dX5_standAtFirstFree_30 rfl ?_
          refine g_iload_n hC dX5_standAtFirstFree_31 rfl ?_
          refine g_put hC (fs' := [vi (rk), vi (co), vi (ro), (pv), .ref wa, vi (3), vi (ah)]) dX5_standAtFirstFree_32 gp_RX5_32 h2 ⟨rfl, rfl⟩ rfl (Nat.le_of_ble_eq_true rfl) ?_
          obtain ⟨gh7, egh7⟩ : ∃ g_, g_ = gset gh1 t (gO 9 [vi (rk), vi (co), vi (ro), (pv), .ref wa, vi (3), vi (ah)]) := ⟨_, rfl⟩
          rw [← egh7]
          have h8 : gh7 g = some (gO 5 [.ref s]) := by rw [egh7, gset_ne (gne h3 h2 (by simp))]; exact h3
          have h9 : gh7 wa = some (gO 0 [.ref b, vi (0), (h0), (z0)]) := by rw [egh7, gset_ne (gne h4 h2 (by simp))]; exact h4
          have h10 : gh7 b = some (gI 2 k (L)) := by rw [egh7, gset_ne (gne h5 h2 (by simp))]; exact h5
          have h11 : gh7 s = some (gI 0 960 (putN P (40 * rowAtN ro 3 + colAtN co 3 k).toNat L k)) := by rw [egh7, gset_ne (gne h6 h2 (by simp))]; exact h6
          have h12 : gh7 t = some (gO 9 [vi (rk), vi (co), vi (ro), (pv), .ref wa, vi (3), vi (ah)]) := by rw [egh7]; exact gset_eq
          refine g_iinc (lv' := [some (.ref t), some (.ref g), some (vi (3 + 1))]) hC dX5_standAtFirstFree_35 (by decide) rfl rfl ?_
          refine g_goto (tgt := 2) hC dX5_standAtFirstFree_38 (by decide) ?_
          refine g_iload_n hC dX5_standAtFirstFree_2 rfl ?_
          refine g_iconst hC dX5_standAtFirstFree_3 rfl ?_
          refine g_icmp_ge (tgt := 41) hC dX5_standAtFirstFree_4 (by decide) (by omega) (by omega) (fun c_4 => ?_) (fun c_4 => False.elim (by omega))
          exact g_vret hC hq dX5_standAtFirstFree_41 (by decide) (by decide) ⟨rfl, Or.inr ⟨by rw [hsf]; decide, by rw [hsf]; decide, by rw [hsf, egh7, egh1]⟩⟩
      · refine g_ald_n hC dX5_standAtFirstFree_24 rfl ?_
        refine g_ald_n hC dX5_standAtFirstFree_25 rfl ?_
        refine g_iload_n hC dX5_standAtFirstFree_26 rfl ?_
        have hsf : sideF P ro co k = 2 := by unfold sideF; rw [if_neg (by rw [m0]; decide), if_neg (by rw [m1]; decide), if_pos m2]
        refine g_callV (rest := []) hC (kX5_write hl k 2 (by decide) hk hro hco hlet (mayB_fit m2) gh ht hg hs hwd hb) gc_RX5_78 rfl ht rfl ⟨by decide, by decide⟩ ⟨by decide, by decide⟩ (Nat.le_of_ble_eq_true rfl) rfl dX5_standAtFirstFree_27 (fun r gh' hp => ?_)
        obtain ⟨rfl, hgh⟩ := hp
        rw [hgh]
        clear hgh
        refine gV.eqs (st' := []) rfl rfl rfl ?_
        obtain ⟨gh13, egh13⟩ : ∃ g_, g_ = gset gh s (gI 0 960 (putN P (40 * rowAtN ro 2 + colAtN co 2 k).toNat L k)) := ⟨_, rfl⟩
        rw [← egh13]
        have h14 : gh13 t = some (gO 9 [vi (rk), vi (co), vi (ro), (pv), .ref wa, vi ((-1)), vi (ah)]) := by rw [egh13, gset_ne (gne ht hs (by simp))]; exact ht
        have h15 : gh13 g = some (gO 5 [.ref s]) := by rw [egh13, gset_ne (gne hg hs (by simp))]; exact hg
        have h16 : gh13 wa = some (gO 0 [.ref b, vi (0), (h0), (z0)]) := by rw [egh13, gset_ne (gne hwd hs (by simp))]; exact hwd
        have h17 : gh13 b = some (gI 2 k (L)) := by rw [egh13, gset_ne (gne hb hs (by simp))]; exact hb
        have h18 : gh13 s = some (gI 0 960 (putN P (40 * rowAtN ro 2 + colAtN co 2 k).toNat L k)) := by rw [egh13]; exact gset_eq
        refine g_ald_n hC dX5_standAtFirstFree_30 rfl ?_
        refine g_iload_n hC dX5_standAtFirstFree_31 rfl ?_
        refine g_put hC (fs' := [vi (rk), vi (co), vi (ro), (pv), .ref wa, vi (2), vi (ah)]) dX5_standAtFirstFree_32 gp_RX5_32 h14 ⟨rfl, rfl⟩ rfl (Nat.le_of_ble_eq_true rfl) ?_
        obtain ⟨gh19, egh19⟩ : ∃ g_, g_ = gset gh13 t (gO 9 [vi (rk), vi (co), vi (ro), (pv), .ref wa, vi (2), vi (ah)]) := ⟨_, rfl⟩
        rw [← egh19]
        have h20 : gh19 g = some (gO 5 [.ref s]) := by rw [egh19, gset_ne (gne h15 h14 (by simp))]; exact h15
        have h21 : gh19 wa = some (gO 0 [.ref b, vi (0), (h0), (z0)]) := by rw [egh19, gset_ne (gne h16 h14 (by simp))]; exact h16
        have h22 : gh19 b = some (gI 2 k (L)) := by rw [egh19, gset_ne (gne h17 h14 (by simp))]; exact h17
        have h23 : gh19 s = some (gI 0 960 (putN P (40 * rowAtN ro 2 + colAtN co 2 k).toNat L k)) := by rw [egh19, gset_ne (gne h18 h14 (by simp))]; exact h18
        have h24 : gh19 t = some (gO 9 [vi (rk), vi (co), vi (ro), (pv), .ref wa, vi (2), vi (ah)]) := by rw [egh19]; exact gset_eq
        refine g_iinc (lv' := [some (.ref t), some (.ref g), some (vi (2 + 1))]) hC dX5_standAtFirstFree_35 (by decide) rfl rfl ?_
        refine g_goto (tgt := 2) hC dX5_standAtFirstFree_38 (by decide) ?_
        refine g_iload_n hC dX5_standAtFirstFree_2 rfl ?_
        refine g_iconst hC dX5_standAtFirstFree_3 rfl ?_
        refine g_icmp_ge (tgt := 41) hC dX5_standAtFirstFree_4 (by decide) (by omega) (by omega) (fun c_4 => False.elim (by omega)) (fun c_4 => ?_)
        refine g_ald_n hC dX5_standAtFirstFree_7 rfl ?_
        refine g_get hC dX5_standAtFirstFree_8 gf_RX5_32 h24 rfl ?_
        refine g_iconst hC dX5_standAtFirstFree_11 rfl ?_
        refine g_icmp_ne (tgt := 41) hC dX5_standAtFirstFree_12 (by decide) (by omega) (by omega) (fun c_12 => ?_) (fun c_12 => False.elim (by omega))
        exact g_vret hC hq dX5_standAtFirstFree_41 (by decide) (by decide) ⟨rfl, Or.inr ⟨by rw [hsf]; decide, by rw [hsf]; decide, by rw [hsf, egh19, egh13]⟩⟩
    · refine g_ald_n hC dX5_standAtFirstFree_24 rfl ?_
      refine g_ald_n hC dX5_standAtFirstFree_25 rfl ?_
      refine g_iload_n hC dX5_standAtFirstFree_26 rfl ?_
      have hsf : sideF P ro co k = 1 := by unfold sideF; rw [if_neg (by rw [m0]; decide), if_pos m1]
      refine g_callV (rest := []) hC (kX5_write hl k 1 (by decide) hk hro hco hlet (mayB_fit m1) gh ht hg hs hwd hb) gc_RX5_78 rfl ht rfl ⟨by decide, by decide⟩ ⟨by decide, by decide⟩ (Nat.le_of_ble_eq_true rfl) rfl dX5_standAtFirstFree_27 (fun r gh' hp => ?_)
      obtain ⟨rfl, hgh⟩ := hp
      rw [hgh]
      clear hgh
      refine gV.eqs (st' := []) rfl rfl rfl ?_
      obtain ⟨gh25, egh25⟩ : ∃ g_, g_ = gset gh s (gI 0 960 (putN P (40 * rowAtN ro 1 + colAtN co 1 k).toNat L k)) := ⟨_, rfl⟩
      rw [← egh25]
      have h26 : gh25 t = some (gO 9 [vi (rk), vi (co), vi (ro), (pv), .ref wa, vi ((-1)), vi (ah)]) := by rw [egh25, gset_ne (gne ht hs (by simp))]; exact ht
      have h27 : gh25 g = some (gO 5 [.ref s]) := by rw [egh25, gset_ne (gne hg hs (by simp))]; exact hg
      have h28 : gh25 wa = some (gO 0 [.ref b, vi (0), (h0), (z0)]) := by rw [egh25, gset_ne (gne hwd hs (by simp))]; exact hwd
      have h29 : gh25 b = some (gI 2 k (L)) := by rw [egh25, gset_ne (gne hb hs (by simp))]; exact hb
      have h30 : gh25 s = some (gI 0 960 (putN P (40 * rowAtN ro 1 + colAtN co 1 k).toNat L k)) := by rw [egh25]; exact gset_eq
      refine g_ald_n hC dX5_standAtFirstFree_30 rfl ?_
      refine g_iload_n hC dX5_standAtFirstFree_31 rfl ?_
      refine g_put hC (fs' := [vi (rk), vi (co), vi (ro), (pv), .ref wa, vi (1), vi (ah)]) dX5_standAtFirstFree_32 gp_RX5_32 h26 ⟨rfl, rfl⟩ rfl (Nat.le_of_ble_eq_true rfl) ?_
      obtain ⟨gh31, egh31⟩ : ∃ g_, g_ = gset gh25 t (gO 9 [vi (rk), vi (co), vi (ro), (pv), .ref wa, vi (1), vi (ah)]) := ⟨_, rfl⟩
      rw [← egh31]
      have h32 : gh31 g = some (gO 5 [.ref s]) := by rw [egh31, gset_ne (gne h27 h26 (by simp))]; exact h27
      have h33 : gh31 wa = some (gO 0 [.ref b, vi (0), (h0), (z0)]) := by rw [egh31, gset_ne (gne h28 h26 (by simp))]; exact h28
      have h34 : gh31 b = some (gI 2 k (L)) := by rw [egh31, gset_ne (gne h29 h26 (by simp))]; exact h29
      have h35 : gh31 s = some (gI 0 960 (putN P (40 * rowAtN ro 1 + colAtN co 1 k).toNat L k)) := by rw [egh31, gset_ne (gne h30 h26 (by simp))]; exact h30
      have h36 : gh31 t = some (gO 9 [vi (rk), vi (co), vi (ro), (pv), .ref wa, vi (1), vi (ah)]) := by rw [egh31]; exact gset_eq
      refine g_iinc (lv' := [some (.ref t), some (.ref g), some (vi (1 + 1))]) hC dX5_standAtFirstFree_35 (by decide) rfl rfl ?_
      refine g_goto (tgt := 2) hC dX5_standAtFirstFree_38 (by decide) ?_
      refine g_iload_n hC dX5_standAtFirstFree_2 rfl ?_
      refine g_iconst hC dX5_standAtFirstFree_3 rfl ?_
      refine g_icmp_ge (tgt := 41) hC dX5_standAtFirstFree_4 (by decide) (by omega) (by omega) (fun c_4 => False.elim (by omega)) (fun c_4 => ?_)
      refine g_ald_n hC dX5_standAtFirstFree_7 rfl ?_
      refine g_get hC dX5_standAtFirstFree_8 gf_RX5_32 h36 rfl ?_
      refine g_iconst hC dX5_standAtFirstFree_11 rfl ?_
      refine g_icmp_ne (tgt := 41) hC dX5_standAtFirstFree_12 (by decide) (by omega) (by omega) (fun c_12 => ?_) (fun c_12 => False.elim (by omega))
      exact g_vret hC hq dX5_standAtFirstFree_41 (by decide) (by decide) ⟨rfl, Or.inr ⟨by rw [hsf]; decide, by rw [hsf]; decide, by rw [hsf, egh31, egh25]⟩⟩
  · refine g_ald_n hC dX5_standAtFirstFree_24 rfl ?_
    refine g_ald_n hC dX5_standAtFirstFree_25 rfl ?_
    refine g_iload_n hC dX5_standAtFirstFree_26 rfl ?_
    have hsf : sideF P ro co k = 0 := by unfold sideF; rw [if_pos m0]
    refine g_callV (rest := []) hC (kX5_write hl k 0 (by decide) hk hro hco hlet (mayB_fit m0) gh ht hg hs hwd hb) gc_RX5_78 rfl ht rfl ⟨by decide, by decide⟩ ⟨by decide, by decide⟩ (Nat.le_of_ble_eq_true rfl) rfl dX5_standAtFirstFree_27 (fun r gh' hp => ?_)
    obtain ⟨rfl, hgh⟩ := hp
    rw [hgh]
    clear hgh
    refine gV.eqs (st' := []) rfl rfl rfl ?_
    obtain ⟨gh37, egh37⟩ : ∃ g_, g_ = gset gh s (gI 0 960 (putN P (40 * rowAtN ro 0 + colAtN co 0 k).toNat L k)) := ⟨_, rfl⟩
    rw [← egh37]
    have h38 : gh37 t = some (gO 9 [vi (rk), vi (co), vi (ro), (pv), .ref wa, vi ((-1)), vi (ah)]) := by rw [egh37, gset_ne (gne ht hs (by simp))]; exact ht
    have h39 : gh37 g = some (gO 5 [.ref s]) := by rw [egh37, gset_ne (gne hg hs (by simp))]; exact hg
    have h40 : gh37 wa = some (gO 0 [.ref b, vi (0), (h0), (z0)]) := by rw [egh37, gset_ne (gne hwd hs (by simp))]; exact hwd
    have h41 : gh37 b = some (gI 2 k (L)) := by rw [egh37, gset_ne (gne hb hs (by simp))]; exact hb
    have h42 : gh37 s = some (gI 0 960 (putN P (40 * rowAtN ro 0 + colAtN co 0 k).toNat L k)) := by rw [egh37]; exact gset_eq
    refine g_ald_n hC dX5_standAtFirstFree_30 rfl ?_
    refine g_iload_n hC dX5_standAtFirstFree_31 rfl ?_
    refine g_put hC (fs' := [vi (rk), vi (co), vi (ro), (pv), .ref wa, vi (0), vi (ah)]) dX5_standAtFirstFree_32 gp_RX5_32 h38 ⟨rfl, rfl⟩ rfl (Nat.le_of_ble_eq_true rfl) ?_
    obtain ⟨gh43, egh43⟩ : ∃ g_, g_ = gset gh37 t (gO 9 [vi (rk), vi (co), vi (ro), (pv), .ref wa, vi (0), vi (ah)]) := ⟨_, rfl⟩
    rw [← egh43]
    have h44 : gh43 g = some (gO 5 [.ref s]) := by rw [egh43, gset_ne (gne h39 h38 (by simp))]; exact h39
    have h45 : gh43 wa = some (gO 0 [.ref b, vi (0), (h0), (z0)]) := by rw [egh43, gset_ne (gne h40 h38 (by simp))]; exact h40
    have h46 : gh43 b = some (gI 2 k (L)) := by rw [egh43, gset_ne (gne h41 h38 (by simp))]; exact h41
    have h47 : gh43 s = some (gI 0 960 (putN P (40 * rowAtN ro 0 + colAtN co 0 k).toNat L k)) := by rw [egh43, gset_ne (gne h42 h38 (by simp))]; exact h42
    have h48 : gh43 t = some (gO 9 [vi (rk), vi (co), vi (ro), (pv), .ref wa, vi (0), vi (ah)]) := by rw [egh43]; exact gset_eq
    refine g_iinc (lv' := [some (.ref t), some (.ref g), some (vi (0 + 1))]) hC dX5_standAtFirstFree_35 (by decide) rfl rfl ?_
    refine g_goto (tgt := 2) hC dX5_standAtFirstFree_38 (by decide) ?_
    refine g_iload_n hC dX5_standAtFirstFree_2 rfl ?_
    refine g_iconst hC dX5_standAtFirstFree_3 rfl ?_
    refine g_icmp_ge (tgt := 41) hC dX5_standAtFirstFree_4 (by decide) (by omega) (by omega) (fun c_4 => False.elim (by omega)) (fun c_4 => ?_)
    refine g_ald_n hC dX5_standAtFirstFree_7 rfl ?_
    refine g_get hC dX5_standAtFirstFree_8 gf_RX5_32 h48 rfl ?_
    refine g_iconst hC dX5_standAtFirstFree_11 rfl ?_
    refine g_icmp_ne (tgt := 41) hC dX5_standAtFirstFree_12 (by decide) (by omega) (by omega) (fun c_12 => ?_) (fun c_12 => False.elim (by omega))
    exact g_vret hC hq dX5_standAtFirstFree_41 (by decide) (by decide) ⟨rfl, Or.inr ⟨by rw [hsf]; decide, by rw [hsf]; decide, by rw [hsf, egh43, egh37]⟩⟩

end C4
