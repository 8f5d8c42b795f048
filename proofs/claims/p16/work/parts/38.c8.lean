/-! the class: a sheet shows a place; its spots by number -/
section C8
set_option maxHeartbeats 4000000 in
set_option maxRecDepth 100000 in
theorem kX3_show {l : Launch} (hl : l.stackTraces = false) {D : gD} {base : Nat}  {sh p ar s i n : Nat} {f : Nat → Option Nat} {F : Nat → Nat → Int} {w0 w1 w7 w8 v3 v4 : Value} (rp : -180 ≤ F 4 i ∧ F 4 i ≤ 179 ∧ -60 ≤ F 5 i ∧ F 5 i ≤ 60) (rs : -180 ≤ F 12 s ∧ F 12 s ≤ 150 ∧ -60 ≤ F 13 s ∧ F 13 s ≤ 41 ∧ (F 14 s = 0 ∨ F 14 s = 1)) (hn14 : n < 14) (gh : gH) (hsh : gh sh = some (gO 7 [(w0), (w1), vi (F 12 s), vi (F 13 s), vi (F 14 s), .ref ar, vi ((n : Int)), (w7), (w8)])) (har : gh ar = some (gR 8 14 (f))) (hp0 : gh p = some (gO 6 [vi (F 4 i), vi (F 5 i), vi (F 6 i), (v3), (v4)]))  : gM l D base yX3_show cX3_show 2 none 2 43 1 7 [.ref sh, .ref p] gh (fun r gh' => r = none ∧ ∃ t, gh t = none ∧ gh' = gset (gset (gset gh t (gO 9 [vi (F 6 i), vi (cN F s i), vi (rN F s i), .ref p, .null, vi (-1), vi (-1)])) ar (gR 8 14 (gup f n (some t)))) sh (gO 7 [w0, w1, vi (F 12 s), vi (F 13 s), vi (F 14 s), .ref ar, vi ((n : Int) + 1), w7, w8])) gNo := by
  refine gM.of hl (by decide) (by simp [Value.category]) (Nat.le_of_ble_eq_true rfl) [some (.ref sh), some (.ref p)] rfl (fun x hC hq => ?_)
  refine g_ald_n hC dX3_show_0 rfl ?_
  refine g_ifnull_r hC dX3_show_1 ?_
  refine g_ald_n hC dX3_show_4 rfl ?_
  refine g_get hC dX3_show_5 gf_RX3_40 hsh rfl ?_
  refine g_ald_n hC dX3_show_8 rfl ?_
  refine g_get hC dX3_show_9 gf_RX3_33 hsh rfl ?_
  refine g_alenR hC dX3_show_12 har (by decide) ?_
  refine g_top (b := 14) rfl ?_
  refine g_icmp_lt (tgt := 17) hC dX3_show_13 (by decide) (by omega) (by omega) (fun c_13 => ?_) (fun c_13 => False.elim (by omega))
  refine g_ald_n hC dX3_show_17 rfl ?_
  refine g_get hC dX3_show_18 gf_RX3_33 hsh rfl ?_
  refine g_ald_n hC dX3_show_21 rfl ?_
  refine g_get hC dX3_show_22 gf_RX3_40 hsh rfl ?_
  refine g_ald_n hC dX3_show_25 rfl ?_
  refine g_ald_n hC dX3_show_26 rfl ?_
  refine g_callV (rest := [vi ((n : Int)), .ref ar]) hC (kX3_has hl rp rs gh hsh hp0) gc_RX3_46 rfl hsh rfl ⟨by decide, by decide⟩ ⟨by decide, by decide⟩ (Nat.le_of_ble_eq_true rfl) rfl dX3_show_27 (fun r gh' hp => ?_)
  obtain ⟨rfl, hgh⟩ := hp
  rw [hgh]
  clear hgh
  refine gV.eqs (st' := [vi (b2i (qOn F s i)), vi ((n : Int)), .ref ar]) rfl rfl rfl ?_
  refine g_ifeq_b (tgt := 54) hC dX3_show_30 (by decide)  (fun hon => ?_) (fun hon => ?_)
  · have ec : cN F s i = -1 := if_neg (by rw [hon]; decide)
    have er : rN F s i = -1 := if_neg (by rw [hon]; decide)
    refine g_new hC dX3_show_54 gn_RX3_31 (by decide) (by decide) (fun q1 hnq1 => ?_)
    obtain ⟨gh2, egh2⟩ : ∃ g_, g_ = gset gh q1 (gO 9 [vi (0), vi (0), vi (0), .null, .null, vi (0), vi (0)]) := ⟨_, rfl⟩
    rw [← egh2]
    have h3 : gh2 sh = some (gO 7 [(w0), (w1), vi (F 12 s), vi (F 13 s), vi (F 14 s), .ref ar, vi ((n : Int)), (w7), (w8)]) := by rw [egh2, gset_ne (fun z => by rw [z, hnq1] at hsh; cases hsh)]; exact hsh
    have h4 : gh2 ar = some (gR 8 14 (f)) := by rw [egh2, gset_ne (fun z => by rw [z, hnq1] at har; cases har)]; exact har
    have h5 : gh2 p = some (gO 6 [vi (F 4 i), vi (F 5 i), vi (F 6 i), (v3), (v4)]) := by rw [egh2, gset_ne (fun z => by rw [z, hnq1] at hp0; cases hp0)]; exact hp0
    have h6 : gh2 q1 = some (gO 9 [vi (0), vi (0), vi (0), .null, .null, vi (0), vi (0)]) := by rw [egh2]; exact gset_eq
    refine g_dup hC dX3_show_57 rfl ?_
    refine g_ald_n hC dX3_show_58 rfl ?_
    refine g_iconst hC dX3_show_59 rfl ?_
    refine g_iconst hC dX3_show_60 rfl ?_
    refine g_callI (rest := [.ref q1, vi ((n : Int)), .ref ar]) hC (kX5_init hl  gh2 h6 h5) gc_RX3_57 rfl ⟨by decide, by decide⟩ ⟨by decide, by decide⟩ (Nat.le_of_ble_eq_true rfl) rfl dX3_show_61 (fun r gh' hp => ?_)
    obtain ⟨rfl, hgh⟩ := hp
    rw [hgh]
    clear hgh
    refine gV.eqs (st' := [.ref q1, vi ((n : Int)), .ref ar]) rfl rfl rfl ?_
    obtain ⟨gh7, egh7⟩ : ∃ g_, g_ = gset gh2 q1 (gO 9 [vi (F 6 i), vi ((-1)), vi ((-1)), .ref p, .null, vi ((-1)), vi ((-1))]) := ⟨_, rfl⟩
    rw [← egh7]
    have h8 : gh7 sh = some (gO 7 [(w0), (w1), vi (F 12 s), vi (F 13 s), vi (F 14 s), .ref ar, vi ((n : Int)), (w7), (w8)]) := by rw [egh7, gset_ne (gne h3 h6 (by simp))]; exact h3
    have h9 : gh7 ar = some (gR 8 14 (f)) := by rw [egh7, gset_ne (gne h4 h6 (by simp))]; exact h4
    have h10 : gh7 p = some (gO 6 [vi (F 4 i), vi (F 5 i), vi (F 6 i), (v3), (v4)]) := by rw [egh7, gset_ne (gne h5 h6 (by simp))]; exact h5
    have h11 : gh7 q1 = some (gO 9 [vi (F 6 i), vi ((-1)), vi ((-1)), .ref p, .null, vi ((-1)), vi ((-1))]) := by rw [egh7]; exact gset_eq
    refine g_aastK hC (n) dX3_show_64 h9 (by decide) rfl h11 rfl (by omega) (by omega) (by decide) ?_
    obtain ⟨gh12, egh12⟩ : ∃ g_, g_ = gset gh7 ar (gR 8 14 (gup (f) (n) (some q1))) := ⟨_, rfl⟩
    rw [← egh12]
    have h13 : gh12 sh = some (gO 7 [(w0), (w1), vi (F 12 s), vi (F 13 s), vi (F 14 s), .ref ar, vi ((n : Int)), (w7), (w8)]) := by rw [egh12, gset_ne (gne h8 h9 (by simp))]; exact h8
    have h14 : gh12 p = some (gO 6 [vi (F 4 i), vi (F 5 i), vi (F 6 i), (v3), (v4)]) := by rw [egh12, gset_ne (gne h10 h9 (by simp))]; exact h10
    have h15 : gh12 q1 = some (gO 9 [vi (F 6 i), vi ((-1)), vi ((-1)), .ref p, .null, vi ((-1)), vi ((-1))]) := by rw [egh12, gset_ne (gne h11 h9 (by simp))]; exact h11
    have h16 : gh12 ar = some (gR 8 14 (gup (f) (n) (some q1))) := by rw [egh12]; exact gset_eq
    refine g_ald_n hC dX3_show_65 rfl ?_
    refine g_dup hC dX3_show_66 rfl ?_
    refine g_get hC dX3_show_67 gf_RX3_40 h13 rfl ?_
    refine g_iconst hC dX3_show_70 rfl ?_
    refine g_iadd hC dX3_show_71 ?_
    refine g_put hC (fs' := [(w0), (w1), vi (F 12 s), vi (F 13 s), vi (F 14 s), .ref ar, vi (((n : Int)) + (1)), (w7), (w8)]) dX3_show_72 gp_RX3_40 h13 ⟨rfl, rfl⟩ rfl (Nat.le_of_ble_eq_true rfl) ?_
    obtain ⟨gh17, egh17⟩ : ∃ g_, g_ = gset gh12 sh (gO 7 [(w0), (w1), vi (F 12 s), vi (F 13 s), vi (F 14 s), .ref ar, vi (((n : Int)) + (1)), (w7), (w8)]) := ⟨_, rfl⟩
    rw [← egh17]
    have h18 : gh17 p = some (gO 6 [vi (F 4 i), vi (F 5 i), vi (F 6 i), (v3), (v4)]) := by rw [egh17, gset_ne (gne h14 h13 (by simp))]; exact h14
    have h19 : gh17 q1 = some (gO 9 [vi (F 6 i), vi ((-1)), vi ((-1)), .ref p, .null, vi ((-1)), vi ((-1))]) := by rw [egh17, gset_ne (gne h15 h13 (by simp))]; exact h15
    have h20 : gh17 ar = some (gR 8 14 (gup (f) (n) (some q1))) := by rw [egh17, gset_ne (gne h16 h13 (by simp))]; exact h16
    have h21 : gh17 sh = some (gO 7 [(w0), (w1), vi (F 12 s), vi (F 13 s), vi (F 14 s), .ref ar, vi (((n : Int)) + (1)), (w7), (w8)]) := by rw [egh17]; exact gset_eq
    exact g_vret hC hq dX3_show_75 (by decide) (by decide) ⟨rfl, q1, hnq1, by rw [ec, er, egh17, egh12, egh7, egh2, gset_set]⟩
  · have ec : cN F s i = qCol F s i := if_pos hon
    have er : rN F s i = qRow F s i := if_pos hon
    refine g_new hC dX3_show_33 gn_RX3_31 (by decide) (by decide) (fun q22 hnq22 => ?_)
    obtain ⟨gh23, egh23⟩ : ∃ g_, g_ = gset gh q22 (gO 9 [vi (0), vi (0), vi (0), .null, .null, vi (0), vi (0)]) := ⟨_, rfl⟩
    rw [← egh23]
    have h24 : gh23 sh = some (gO 7 [(w0), (w1), vi (F 12 s), vi (F 13 s), vi (F 14 s), .ref ar, vi ((n : Int)), (w7), (w8)]) := by rw [egh23, gset_ne (fun z => by rw [z, hnq22] at hsh; cases hsh)]; exact hsh
    have h25 : gh23 ar = some (gR 8 14 (f)) := by rw [egh23, gset_ne (fun z => by rw [z, hnq22] at har; cases har)]; exact har
    have h26 : gh23 p = some (gO 6 [vi (F 4 i), vi (F 5 i), vi (F 6 i), (v3), (v4)]) := by rw [egh23, gset_ne (fun z => by rw [z, hnq22] at hp0; cases hp0)]; exact hp0
    have h27 : gh23 q22 = some (gO 9 [vi (0), vi (0), vi (0), .null, .null, vi (0), vi (0)]) := by rw [egh23]; exact gset_eq
    refine g_dup hC dX3_show_36 rfl ?_
    refine g_ald_n hC dX3_show_37 rfl ?_
    refine g_ald_n hC dX3_show_38 rfl ?_
    refine g_ald_n hC dX3_show_39 rfl ?_
    refine g_callV (rest := [.ref p, .ref q22, .ref q22, vi ((n : Int)), .ref ar]) hC (kX3_columnOf hl rp rs hon gh23 h24 h26) gc_RX3_50 rfl h24 rfl ⟨by decide, by decide⟩ ⟨by decide, by decide⟩ (Nat.le_of_ble_eq_true rfl) rfl dX3_show_40 (fun r gh' hp => ?_)
    obtain ⟨rfl, hgh⟩ := hp
    rw [hgh]
    clear hgh
    refine gV.eqs (st' := [vi (qCol F s i), .ref p, .ref q22, .ref q22, vi ((n : Int)), .ref ar]) rfl rfl rfl ?_
    refine g_ald_n hC dX3_show_43 rfl ?_
    refine g_ald_n hC dX3_show_44 rfl ?_
    refine g_callV (rest := [vi (qCol F s i), .ref p, .ref q22, .ref q22, vi ((n : Int)), .ref ar]) hC (kX3_rowOf hl rp rs hon gh23 h24 h26) gc_RX3_54 rfl h24 rfl ⟨by decide, by decide⟩ ⟨by decide, by decide⟩ (Nat.le_of_ble_eq_true rfl) rfl dX3_show_45 (fun r gh' hp => ?_)
    obtain ⟨rfl, hgh⟩ := hp
    rw [hgh]
    clear hgh
    refine gV.eqs (st' := [vi (qRow F s i), vi (qCol F s i), .ref p, .ref q22, .ref q22, vi ((n : Int)), .ref ar]) rfl rfl rfl ?_
    refine g_callI (rest := [.ref q22, vi ((n : Int)), .ref ar]) hC (kX5_init hl  gh23 h27 h26) gc_RX3_57 rfl ⟨by decide, by decide⟩ ⟨by decide, by decide⟩ (Nat.le_of_ble_eq_true rfl) rfl dX3_show_48 (fun r gh' hp => ?_)
    obtain ⟨rfl, hgh⟩ := hp
    rw [hgh]
    clear hgh
    refine gV.eqs (st' := [.ref q22, vi ((n : Int)), .ref ar]) rfl rfl rfl ?_
    obtain ⟨gh28, egh28⟩ : ∃ g_, g_ = gset gh23 q22 (gO 9 [vi (F 6 i), vi (qCol F s i), vi (qRow F s i), .ref p, .null, vi ((-1)), vi ((-1))]) := ⟨_, rfl⟩
    rw [← egh28]
    have h29 : gh28 sh = some (gO 7 [(w0), (w1), vi (F 12 s), vi (F 13 s), vi (F 14 s), .ref ar, vi ((n : Int)), (w7), (w8)]) := by rw [egh28, gset_ne (gne h24 h27 (by simp))]; exact h24
    have h30 : gh28 ar = some (gR 8 14 (f)) := by rw [egh28, gset_ne (gne h25 h27 (by simp))]; exact h25
    have h31 : gh28 p = some (gO 6 [vi (F 4 i), vi (F 5 i), vi (F 6 i), (v3), (v4)]) := by rw [egh28, gset_ne (gne h26 h27 (by simp))]; exact h26
    have h32 : gh28 q22 = some (gO 9 [vi (F 6 i), vi (qCol F s i), vi (qRow F s i), .ref p, .null, vi ((-1)), vi ((-1))]) := by rw [egh28]; exact gset_eq
    refine g_goto (tgt := 64) hC dX3_show_51 (by decide) ?_
    refine g_aastK hC (n) dX3_show_64 h30 (by decide) rfl h32 rfl (by omega) (by omega) (by decide) ?_
    obtain ⟨gh33, egh33⟩ : ∃ g_, g_ = gset gh28 ar (gR 8 14 (gup (f) (n) (some q22))) := ⟨_, rfl⟩
    rw [← egh33]
    have h34 : gh33 sh = some (gO 7 [(w0), (w1), vi (F 12 s), vi (F 13 s), vi (F 14 s), .ref ar, vi ((n : Int)), (w7), (w8)]) := by rw [egh33, gset_ne (gne h29 h30 (by simp))]; exact h29
    have h35 : gh33 p = some (gO 6 [vi (F 4 i), vi (F 5 i), vi (F 6 i), (v3), (v4)]) := by rw [egh33, gset_ne (gne h31 h30 (by simp))]; exact h31
    have h36 : gh33 q22 = some (gO 9 [vi (F 6 i), vi (qCol F s i), vi (qRow F s i), .ref p, .null, vi ((-1)), vi ((-1))]) := by rw [egh33, gset_ne (gne h32 h30 (by simp))]; exact h32
    have h37 : gh33 ar = some (gR 8 14 (gup (f) (n) (some q22))) := by rw [egh33]; exact gset_eq
    refine g_ald_n hC dX3_show_65 rfl ?_
    refine g_dup hC dX3_show_66 rfl ?_
    refine g_get hC dX3_show_67 gf_RX3_40 h34 rfl ?_
    refine g_iconst hC dX3_show_70 rfl ?_
    refine g_iadd hC dX3_show_71 ?_
    refine g_put hC (fs' := [(w0), (w1), vi (F 12 s), vi (F 13 s), vi (F 14 s), .ref ar, vi (((n : Int)) + (1)), (w7), (w8)]) dX3_show_72 gp_RX3_40 h34 ⟨rfl, rfl⟩ rfl (Nat.le_of_ble_eq_true rfl) ?_
    obtain ⟨gh38, egh38⟩ : ∃ g_, g_ = gset gh33 sh (gO 7 [(w0), (w1), vi (F 12 s), vi (F 13 s), vi (F 14 s), .ref ar, vi (((n : Int)) + (1)), (w7), (w8)]) := ⟨_, rfl⟩
    rw [← egh38]
    have h39 : gh38 p = some (gO 6 [vi (F 4 i), vi (F 5 i), vi (F 6 i), (v3), (v4)]) := by rw [egh38, gset_ne (gne h35 h34 (by simp))]; exact h35
    have h40 : gh38 q22 = some (gO 9 [vi (F 6 i), vi (qCol F s i), vi (qRow F s i), .ref p, .null, vi ((-1)), vi ((-1))]) := by rw [egh38, gset_ne (gne h36 h34 (by simp))]; exact h36
    have h41 : gh38 ar = some (gR 8 14 (gup (f) (n) (some q22))) := by rw [egh38, gset_ne (gne h37 h34 (by simp))]; exact h37
    have h42 : gh38 sh = some (gO 7 [(w0), (w1), vi (F 12 s), vi (F 13 s), vi (F 14 s), .ref ar, vi (((n : Int)) + (1)), (w7), (w8)]) := by rw [egh38]; exact gset_eq
    exact g_vret hC hq dX3_show_75 (by decide) (by decide) ⟨rfl, q22, hnq22, by rw [ec, er, egh38, egh33, egh28, egh23, gset_set]⟩

end C8
