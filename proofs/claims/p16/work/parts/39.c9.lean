/-! the class: the dots of a sheet; what stands pushed; worth -/
section C9
theorem setP_dot {F : Nat → Nat → Int} {s n : Nat} (h : qOn F s n = true) : setP (dotP F s n) (rN F s n) (cN F s n) 42 = dotP F s (n + 1) := by
  have e : dotP F s (n + 1) = gup (dotP F s n) (40 * qRow F s n + qCol F s n).toNat 42 := if_pos h
  rw [e, show rN F s n = qRow F s n from if_pos h, show cN F s n = qCol F s n from if_pos h]
  unfold setP
  rw [if_pos (gridB' ⟨qRow_rng h, qCol_rng h⟩)]
theorem dotP_no {F : Nat → Nat → Int} {s n : Nat} (h : qOn F s n = false) : dotP F s (n + 1) = dotP F s n := if_neg (by rw [h]; decide)
set_option maxHeartbeats 4000000 in
set_option maxRecDepth 100000 in
theorem kX3_drawDots {l : Launch} (hl : l.stackTraces = false) {D : gD} {base : Nat}  {sh ar s n : Nat} {f : Nat → Option Nat} {t : Nat → Nat} {F : Nat → Nat → Int} {pv wv : Nat → Value} {sd ah : Nat → Int} {w0 w1 w7 w8 : Value} (hn14 : n ≤ 14) {g ss : Nat} {P : Nat → Int} (gh : gH) (hsh : gh sh = some (gO 7 [(w0), (w1), vi (F 12 s), vi (F 13 s), vi (F 14 s), .ref ar, vi ((n : Int)), (w7), (w8)])) (har : gh ar = some (gR 8 14 (f))) (hg : gh g = some (gO 5 [.ref ss])) (hs : gh ss = some (gI 0 960 (P))) (hsp : ∀ i : Nat, i < n → f i = some (t i) ∧ gh (t i) = some (gO 9 [vi (F 6 i), vi (cN F s i), vi (rN F s i), pv i, wv i, vi (sd i), vi (ah i)])) : gM l D base yX3_drawDots cX3_drawDots 4 none 3 66 0 0 [.ref sh, .ref g] gh (fun r gh' => r = none ∧ gh' = gset gh ss (gI 0 960 (dotP F s n))) gNo := by
  refine gM.of hl (by decide) (by simp [Value.category]) (Nat.le_of_ble_eq_true rfl) [some (.ref sh), some (.ref g), none, none] rfl (fun x hC hq => ?_)
  refine g_ald_n hC dX3_drawDots_0 rfl ?_
  refine g_callV (rest := []) hC (kX1_clear hl  gh hg hs) gc_RX3_94 rfl hg rfl ⟨by decide, by decide⟩ ⟨by decide, by decide⟩ (Nat.le_of_ble_eq_true rfl) rfl dX3_drawDots_1 (fun r gh' hp => ?_)
  obtain ⟨rfl, hgh⟩ := hp
  rw [hgh]
  clear hgh
  refine gV.eqs (st' := []) rfl rfl rfl ?_
  refine g_iconst hC dX3_drawDots_4 rfl ?_
  refine g_istore_n (lv' := [some (.ref sh), some (.ref g), some (vi (0)), none]) hC dX3_drawDots_5 (by decide) rfl ?_
  have lp : ∀ m : Nat, m ≤ n → gV x D base 4 6 [some (.ref sh), some (.ref g), some (vi ((m : Int))), none] [] (gset gh ss (gI 0 960 (dotP F s m))) (0) (0) := by
    refine g_for _ (fun m hn ih => ?_) ?_
    · have hqn := hsp m hn
      obtain ⟨gh1, egh1⟩ : ∃ g_, g_ = gset gh ss (gI 0 960 (dotP F s m)) := ⟨_, rfl⟩
      rw [← egh1]
      have h2 : gh1 sh = some (gO 7 [(w0), (w1), vi (F 12 s), vi (F 13 s), vi (F 14 s), .ref ar, vi ((n : Int)), (w7), (w8)]) := by rw [egh1, gset_ne (gne hsh hs (by simp))]; exact hsh
      have h3 : gh1 ar = some (gR 8 14 (f)) := by rw [egh1, gset_ne (gne har hs (by simp))]; exact har
      have h4 : gh1 g = some (gO 5 [.ref ss]) := by rw [egh1, gset_ne (gne hg hs (by simp))]; exact hg
      have h5 : gh1 (t m) = some (gO 9 [vi (F 6 m), vi (cN F s m), vi (rN F s m), (pv m), (wv m), vi (sd m), vi (ah m)]) := by rw [egh1, gset_ne (gne hqn.2 hs (by simp))]; exact hqn.2
      have h6 : gh1 ss = some (gI 0 960 (dotP F s m)) := by rw [egh1]; exact gset_eq
      have hc := cN_rng (F := F) (s := s) (i := m)
      have hr := rN_rng (F := F) (s := s) (i := m)
      refine g_iload_n hC dX3_drawDots_6 rfl ?_
      refine g_ald_n hC dX3_drawDots_7 rfl ?_
      refine g_get hC dX3_drawDots_8 gf_RX3_40 h2 rfl ?_
      refine g_icmp_ge (tgt := 61) hC dX3_drawDots_11 (by decide) (by omega) (by omega) (fun c_11 => False.elim (by omega)) (fun c_11 => ?_)
      refine g_iload_n hC dX3_drawDots_14 rfl ?_
      refine g_ald_n hC dX3_drawDots_15 rfl ?_
      refine g_get hC dX3_drawDots_16 gf_RX3_33 h2 rfl ?_
      refine g_alenR hC dX3_drawDots_19 h3 (by decide) ?_
      refine g_top (b := 14) rfl ?_
      refine g_icmp_ge (tgt := 61) hC dX3_drawDots_20 (by decide) (by omega) (by omega) (fun c_20 => False.elim (by omega)) (fun c_20 => ?_)
      refine g_ald_n hC dX3_drawDots_23 rfl ?_
      refine g_get hC dX3_drawDots_24 gf_RX3_33 h2 rfl ?_
      refine g_iload_n hC dX3_drawDots_27 rfl ?_
      refine g_aaldK (v := some (t m)) hC (m) dX3_drawDots_28 h3 (by decide) rfl (by omega) (by omega) (by decide) (hqn.1) ?_
      refine g_ast_n (lv' := [some (.ref sh), some (.ref g), some (vi ((m : Int))), some (.ref (t m))]) hC dX3_drawDots_29 (by decide) rfl ?_
      refine g_ald_n hC dX3_drawDots_30 rfl ?_
      refine g_ifnull_r hC dX3_drawDots_31 ?_
      refine g_ald_n hC dX3_drawDots_34 rfl ?_
      refine g_callV (rest := []) hC (kX5_isOnSheet hl hc gh1 h5) gc_RX3_97 rfl h5 rfl ⟨by decide, by decide⟩ ⟨by decide, by decide⟩ (Nat.le_of_ble_eq_true rfl) rfl dX3_drawDots_35 (fun r gh' hp => ?_)
      obtain ⟨rfl, hgh⟩ := hp
      rw [hgh]
      clear hgh
      refine gV.eqs (st' := [vi (b2i (decide (cN F s m ≠ -1)))]) rfl rfl rfl ?_
      refine g_ifeq_b (tgt := 55) hC dX3_drawDots_38 (by decide)  (fun hD => ?_) (fun hD => ?_)
      · rw [cN_on] at hD
        refine g_iinc (lv' := [some (.ref sh), some (.ref g), some (vi ((m : Int) + 1)), some (.ref (t m))]) hC dX3_drawDots_55 (by decide) rfl rfl ?_
        refine g_goto (tgt := 6) hC dX3_drawDots_58 (by decide) ?_
        refine gV.drop (lv' := [some (.ref sh), some (.ref g), some (vi ((m : Int) + 1)), none]) (by intro k v hk; match k, hk with | 0, hk => exact hk | 1, hk => exact hk | 2, hk => exact hk | 3, hk => exact absurd hk (by simp) | k + 4, hk => exact absurd hk (by simp)) ?_
        refine gV.eqs (lv' := [some (.ref sh), some (.ref g), some (vi ((((m + 1) : Nat) : Int))), none]) (lcons rfl (lcons rfl (lcons (svi (by omega)) (lcons rfl rfl)))) rfl (by rw [egh1, dotP_no hD]) ih
      · rw [cN_on] at hD
        refine g_ald_n hC dX3_drawDots_41 rfl ?_
        refine g_ald_n hC dX3_drawDots_42 rfl ?_
        refine g_get hC dX3_drawDots_43 gf_RX3_100 h5 rfl ?_
        refine g_ald_n hC dX3_drawDots_46 rfl ?_
        refine g_get hC dX3_drawDots_47 gf_RX3_103 h5 rfl ?_
        refine g_bipush (z := 42) hC dX3_drawDots_50 rfl ?_
        refine g_callV (rest := []) hC (kX1_setSign hl (rN F s m) (cN F s m) 42 (by decide) (by omega) (by omega) gh1 h4 h6) gc_RX3_106 rfl h4 rfl ⟨by decide, by decide⟩ ⟨by decide, by decide⟩ (Nat.le_of_ble_eq_true rfl) rfl dX3_drawDots_52 (fun r gh' hp => ?_)
        obtain ⟨rfl, hgh⟩ := hp
        rw [hgh]
        clear hgh
        refine gV.eqs (st' := []) rfl rfl rfl ?_
        refine g_iinc (lv' := [some (.ref sh), some (.ref g), some (vi ((m : Int) + 1)), some (.ref (t m))]) hC dX3_drawDots_55 (by decide) rfl rfl ?_
        refine g_goto (tgt := 6) hC dX3_drawDots_58 (by decide) ?_
        refine gV.drop (lv' := [some (.ref sh), some (.ref g), some (vi ((m : Int) + 1)), none]) (by intro k v hk; match k, hk with | 0, hk => exact hk | 1, hk => exact hk | 2, hk => exact hk | 3, hk => exact absurd hk (by simp) | k + 4, hk => exact absurd hk (by simp)) ?_
        refine gV.eqs (lv' := [some (.ref sh), some (.ref g), some (vi ((((m + 1) : Nat) : Int))), none]) (lcons rfl (lcons rfl (lcons (svi (by omega)) (lcons rfl rfl)))) rfl (by rw [egh1, gset_set, setP_dot hD]) ih
    · obtain ⟨gh7, egh7⟩ : ∃ g_, g_ = gset gh ss (gI 0 960 (dotP F s n)) := ⟨_, rfl⟩
      rw [← egh7]
      have h8 : gh7 sh = some (gO 7 [(w0), (w1), vi (F 12 s), vi (F 13 s), vi (F 14 s), .ref ar, vi ((n : Int)), (w7), (w8)]) := by rw [egh7, gset_ne (gne hsh hs (by simp))]; exact hsh
      have h9 : gh7 ar = some (gR 8 14 (f)) := by rw [egh7, gset_ne (gne har hs (by simp))]; exact har
      have h10 : gh7 g = some (gO 5 [.ref ss]) := by rw [egh7, gset_ne (gne hg hs (by simp))]; exact hg
      have h11 : gh7 ss = some (gI 0 960 (dotP F s n)) := by rw [egh7]; exact gset_eq
      refine g_iload_n hC dX3_drawDots_6 rfl ?_
      refine g_ald_n hC dX3_drawDots_7 rfl ?_
      refine g_get hC dX3_drawDots_8 gf_RX3_40 h8 rfl ?_
      refine g_icmp_ge (tgt := 61) hC dX3_drawDots_11 (by decide) (by omega) (by omega) (fun c_11 => ?_) (fun c_11 => False.elim (by omega))
      exact g_vret hC hq dX3_drawDots_61 (by decide) (by decide) ⟨rfl, by rw [egh7]⟩
  refine gV.eqs (lv' := [some (.ref sh), some (.ref g), some (vi (((0 : Nat) : Int))), none]) rfl rfl rfl (lp 0 (Nat.zero_le _))

end C9
