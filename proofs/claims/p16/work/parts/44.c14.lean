/-! the class: an edition keeps a picture -/
section C14
set_option maxHeartbeats 4000000 in
set_option maxRecDepth 100000 in
theorem kX0_keep {l : Launch} (hl : l.stackTraces = false) {D : gD} {base : Nat}  {e pa k g s : Nat} {f : Nat → Option Nat} {Q : Nat → Int} (hk : k < 4) (hQ : Pok Q) (gh : gH) (he : gh e = some (gO 4 [.ref pa])) (hpa : gh pa = some (gR 9 4 (f))) (hg : gh g = some (gO 5 [.ref s])) (hs : gh s = some (gI 0 960 (Q)))  : gM l D base yX0_keep cX0_keep 4 none 2 32 2 961 [.ref e, vi ((k : Int)), .ref g] gh (fun r gh' => r = none ∧ ∃ q1 q, gh q1 = none ∧ gh q = none ∧ q1 ≠ q ∧ gh' = gset (gset (gset gh q (gI 0 960 Q)) q1 (gO 5 [.ref q])) pa (gR 9 4 (gup f k (some q1)))) gNo := by
  refine gM.of hl (by decide) (by simp [Value.category]) (Nat.le_of_ble_eq_true rfl) [some (.ref e), some (vi ((k : Int))), some (.ref g), none] rfl (fun x hC hq => ?_)
  refine g_iload_n hC dX0_keep_0 rfl ?_
  refine g_if_lt (tgt := 33) hC dX0_keep_1 (by decide) (by omega) (fun c_1 => False.elim (by omega)) (fun c_1 => ?_)
  refine g_iload_n hC dX0_keep_4 rfl ?_
  refine g_ald_n hC dX0_keep_5 rfl ?_
  refine g_get hC dX0_keep_6 gf_RX0_11 he rfl ?_
  refine g_alenR hC dX0_keep_9 hpa (by decide) ?_
  refine g_top (b := 4) rfl ?_
  refine g_icmp_ge (tgt := 33) hC dX0_keep_10 (by decide) (by omega) (by omega) (fun c_10 => False.elim (by omega)) (fun c_10 => ?_)
  refine g_new hC dX0_keep_13 gn_RX0_9 (by decide) (by decide) (fun q1 hnq1 => ?_)
  obtain ⟨gh2, egh2⟩ : ∃ g_, g_ = gset gh q1 (gO 5 [.null]) := ⟨_, rfl⟩
  rw [← egh2]
  have h3 : gh2 e = some (gO 4 [.ref pa]) := by rw [egh2, gset_ne (fun z => by rw [z, hnq1] at he; cases he)]; exact he
  have h4 : gh2 pa = some (gR 9 4 (f)) := by rw [egh2, gset_ne (fun z => by rw [z, hnq1] at hpa; cases hpa)]; exact hpa
  have h5 : gh2 g = some (gO 5 [.ref s]) := by rw [egh2, gset_ne (fun z => by rw [z, hnq1] at hg; cases hg)]; exact hg
  have h6 : gh2 s = some (gI 0 960 (Q)) := by rw [egh2, gset_ne (fun z => by rw [z, hnq1] at hs; cases hs)]; exact hs
  have h7 : gh2 q1 = some (gO 5 [.null]) := by rw [egh2]; exact gset_eq
  refine g_dup hC dX0_keep_16 rfl ?_
  refine g_callI (rest := [.ref q1]) hC (kX1_init hl  gh2 h7) gc_RX0_17 rfl ⟨by decide, by decide⟩ ⟨by decide, by decide⟩ (Nat.le_of_ble_eq_true rfl) rfl dX0_keep_17 (fun r gh' hp => ?_)
  obtain ⟨rfl, q, hq0, hgh⟩ := hp
  rw [hgh]
  clear hgh
  refine gV.eqs (st' := [.ref q1]) rfl rfl rfl ?_
  have hne : s ≠ q := fun e => by have h9 := h6; rw [e, hq0] at h9; cases h9
  have hng : g ≠ q := fun e => by have h9 := h5; rw [e, hq0] at h9; cases h9
  have hn1 : q1 ≠ q := fun e => by have h9 := h7; rw [e, hq0] at h9; cases h9
  have hq00 : gh q = none := by have h9 := hq0; rw [egh2, gset_ne hn1.symm] at h9; exact h9
  obtain ⟨gh8, egh8⟩ : ∃ g_, g_ = gset gh2 q (gI 0 960 (fun _ => 0)) := ⟨_, rfl⟩
  rw [← egh8]
  have h9 : gh8 e = some (gO 4 [.ref pa]) := by rw [egh8, gset_ne (fun z => by rw [z, hq0] at h3; cases h3)]; exact h3
  have h10 : gh8 pa = some (gR 9 4 (f)) := by rw [egh8, gset_ne (fun z => by rw [z, hq0] at h4; cases h4)]; exact h4
  have h11 : gh8 g = some (gO 5 [.ref s]) := by rw [egh8, gset_ne (fun z => by rw [z, hq0] at h5; cases h5)]; exact h5
  have h12 : gh8 s = some (gI 0 960 (Q)) := by rw [egh8, gset_ne (fun z => by rw [z, hq0] at h6; cases h6)]; exact h6
  have h13 : gh8 q1 = some (gO 5 [.null]) := by rw [egh8, gset_ne (fun z => by rw [z, hq0] at h7; cases h7)]; exact h7
  have h14 : gh8 q = some (gI 0 960 (fun _ => 0)) := by rw [egh8]; exact gset_eq
  obtain ⟨gh15, egh15⟩ : ∃ g_, g_ = gset gh8 q1 (gO 5 [.ref q]) := ⟨_, rfl⟩
  rw [← egh15]
  have h16 : gh15 e = some (gO 4 [.ref pa]) := by rw [egh15, gset_ne (gne h9 h13 (by simp))]; exact h9
  have h17 : gh15 pa = some (gR 9 4 (f)) := by rw [egh15, gset_ne (gne h10 h13 (by simp))]; exact h10
  have h18 : gh15 g = some (gO 5 [.ref s]) := by rw [egh15, gset_ne (gne h11 h13 (by simp))]; exact h11
  have h19 : gh15 s = some (gI 0 960 (Q)) := by rw [egh15, gset_ne (gne h12 h13 (by simp))]; exact h12
  have h20 : gh15 q = some (gI 0 960 (fun _ => 0)) := by rw [egh15, gset_ne (gne h14 h13 (by simp))]; exact h14
  have h21 : gh15 q1 = some (gO 5 [.ref q]) := by rw [egh15]; exact gset_eq
  refine g_ast_n (lv' := [some (.ref e), some (vi ((k : Int))), some (.ref g), some (.ref q1)]) hC dX0_keep_20 (by decide) rfl ?_
  refine g_ald_n hC dX0_keep_21 rfl ?_
  refine g_ald_n hC dX0_keep_22 rfl ?_
  refine g_callV (rest := []) hC (kX1_copyFrom hl hQ hne hng gh15 h21 h20 h18 h19) gc_RX0_18 rfl h21 rfl ⟨by decide, by decide⟩ ⟨by decide, by decide⟩ (Nat.le_of_ble_eq_true rfl) rfl dX0_keep_23 (fun r gh' hp => ?_)
  obtain ⟨rfl, hgh⟩ := hp
  rw [hgh]
  clear hgh
  refine gV.eqs (st' := []) rfl rfl rfl ?_
  obtain ⟨gh22, egh22⟩ : ∃ g_, g_ = gset gh15 q (gI 0 960 (Q)) := ⟨_, rfl⟩
  rw [← egh22]
  have h23 : gh22 e = some (gO 4 [.ref pa]) := by rw [egh22, gset_ne (gne h16 h20 (by simp))]; exact h16
  have h24 : gh22 pa = some (gR 9 4 (f)) := by rw [egh22, gset_ne (gne h17 h20 (by simp))]; exact h17
  have h25 : gh22 g = some (gO 5 [.ref s]) := by rw [egh22, gset_ne (gne h18 h20 (by simp))]; exact h18
  have h26 : gh22 s = some (gI 0 960 (Q)) := by rw [egh22, gset_ne hne]; exact h19
  have h27 : gh22 q1 = some (gO 5 [.ref q]) := by rw [egh22, gset_ne (gne h21 h20 (by simp))]; exact h21
  have h28 : gh22 q = some (gI 0 960 (Q)) := by rw [egh22]; exact gset_eq
  refine g_ald_n hC dX0_keep_26 rfl ?_
  refine g_get hC dX0_keep_27 gf_RX0_11 h23 rfl ?_
  refine g_iload_n hC dX0_keep_30 rfl ?_
  refine g_ald_n hC dX0_keep_31 rfl ?_
  refine g_aastK hC (k) dX0_keep_32 h24 (by decide) rfl h27 rfl (by omega) (by omega) (by decide) ?_
  obtain ⟨gh29, egh29⟩ : ∃ g_, g_ = gset gh22 pa (gR 9 4 (gup (f) (k) (some q1))) := ⟨_, rfl⟩
  rw [← egh29]
  have h30 : gh29 e = some (gO 4 [.ref pa]) := by rw [egh29, gset_ne (gne h23 h24 (by simp))]; exact h23
  have h31 : gh29 g = some (gO 5 [.ref s]) := by rw [egh29, gset_ne (gne h25 h24 (by simp))]; exact h25
  have h32 : gh29 s = some (gI 0 960 (Q)) := by rw [egh29, gset_ne (gne h26 h24 (by simp))]; exact h26
  have h33 : gh29 q1 = some (gO 5 [.ref q]) := by rw [egh29, gset_ne (gne h27 h24 (by simp))]; exact h27
  have h34 : gh29 q = some (gI 0 960 (Q)) := by rw [egh29, gset_ne (gne h28 h24 (by simp))]; exact h28
  have h35 : gh29 pa = some (gR 9 4 (gup (f) (k) (some q1))) := by rw [egh29]; exact gset_eq
  exact g_vret hC hq dX0_keep_33 (by decide) (by decide) ⟨rfl, q1, q, hnq1, hq00, hn1, by rw [egh29, egh22, egh15, egh8, egh2, gset_comm hn1, gset_set, gset_comm hn1, gset_set]⟩

end C14
