/-! the constructors of the class and of the reference -/
section C28
set_option maxHeartbeats 4000000 in
set_option maxRecDepth 100000 in
theorem kX6_init {l : Launch} (hl : l.stackTraces = false) {D : gD} {base : Nat}  {ad : Tg → Nat} {z : Nat → Int} {F : Nat → Nat → Int} {ct : Tg → Option gC} (z0 : z 0 = 0) (z1 : z 1 = 0) (z3 : z 3 = 0) (z11 : z 11 = 0) (z22 : z 22 = 0) (hx : ct (2, 0, 0) = some (gO 10 [.null, .null, .null, .null, vi 0, vi 0, vi 0, vi 0])) (gh : gH) (hR : cR ad ct gh) : gM l D base yX6_init cX6_init 1 none 3 53 5 43 [.ref (ad (2, 0, 0))] gh (fun r gh' => r = none ∧ xOK ad ct z F gh') gNo := by
  refine gM.of hl (by decide) (by simp [Value.category]) (Nat.le_of_ble_eq_true rfl) [some (.ref (ad (2, 0, 0)))] rfl (fun x hC hq => ?_)
  obtain ⟨xa, pa0_0⟩ : ∃ x, ad (2, 0, 0) = x := ⟨_, rfl⟩
  rw [pa0_0]
  have pc0_0 := hx
  have fr0 : ∀ t : Tg, (t.1 ≤ 1 ∨ 24 ≤ t.1) → ct t = ct t ∧ ad t = ad t := fun _ _ => ⟨rfl, rfl⟩
  have h00 : gh xa = some (gO 10 [.null, .null, .null, .null, vi (0), vi (0), vi (0), vi (0)]) := by have h9_ := hR.1 _ _ hx; rw [pa0_0] at h9_; exact h9_
  refine g_ald_n hC dX6_init_0 rfl ?_
  refine g_objInit hC dX6_init_1 go_RX6 go_i go_c (by decide) (by decide) ?_
  refine g_ald_n hC dX6_init_4 rfl ?_
  refine g_new hC dX6_init_5 gn_RX6_7 (by decide) (by decide) (fun q1 hnq1 => ?_)
  obtain ⟨gh2, egh2⟩ : ∃ g_, g_ = gset gh q1 (gO 1 [.null, vi (0), vi (0), vi (0)]) := ⟨_, rfl⟩
  rw [← egh2]
  have h3 : gh2 xa = some (gO 10 [.null, .null, .null, .null, vi (0), vi (0), vi (0), vi (0)]) := by rw [egh2, gset_ne (fun z => by rw [z, hnq1] at h00; cases h00)]; exact h00
  have h4 : gh2 q1 = some (gO 1 [.null, vi (0), vi (0), vi (0)]) := by rw [egh2]; exact gset_eq
  have Rk5 := hR.new (t := (2, 1, 0)) hnq1 (gO 1 [.null, vi (0), vi (0), vi (0)])
  obtain ⟨adk5, eadk5⟩ : ∃ x, x = aup ad (2, 1, 0) q1 := ⟨_, rfl⟩
  obtain ⟨ctk5, ectk5⟩ : ∃ x, x = cup ct (2, 1, 0) (gO 1 [.null, vi (0), vi (0), vi (0)]) := ⟨_, rfl⟩
  rw [← eadk5, ← ectk5, ← egh2] at Rk5
  have pa0_k5 : adk5 (2, 0, 0) = xa := by rw [eadk5, aup_ne (by simp)]; exact pa0_0
  have pc0_k5 : ctk5 (2, 0, 0) = some (gO 10 [.null, .null, .null, .null, vi (0), vi (0), vi (0), vi (0)]) := by rw [ectk5, cup_ne (by simp)]; exact pc0_0
  have pa1_k5 : adk5 (2, 1, 0) = q1 := by rw [eadk5, aup_eq]
  have pc1_k5 : ctk5 (2, 1, 0) = some (gO 1 [.null, vi (0), vi (0), vi (0)]) := by rw [ectk5, cup_eq]
  have frk5 : ∀ t : Tg, (t.1 ≤ 1 ∨ 24 ≤ t.1) → ctk5 t = ct t ∧ adk5 t = ad t := fun t ht => by
    have e0 : t ≠ (2, 1, 0) := fun e => by rw [e] at ht; simp only at ht; omega
    exact ⟨(show ctk5 t = ct t by rw [ectk5, cup_ne e0]).trans (fr0 t ht).1, (show adk5 t = ad t by rw [eadk5, aup_ne e0]).trans (fr0 t ht).2⟩
  refine g_dup hC dX6_init_8 rfl ?_
  refine g_callI (rest := [.ref q1, .ref xa]) hC (kJ4_init hl  gh2 h4) gc_RX6_9 rfl ⟨by decide, by decide⟩ ⟨by decide, by decide⟩ (Nat.le_of_ble_eq_true rfl) rfl dX6_init_9 (fun r gz hp => ?_)
  obtain ⟨rfl, qb, hnqb, hgh⟩ := hp
  rw [hgh]
  clear hgh
  obtain ⟨gh6, egh6⟩ : ∃ g_, g_ = gset gh2 qb (gI 2 16 (fun _ => 0)) := ⟨_, rfl⟩
  rw [← egh6]
  have h7 : gh6 xa = some (gO 10 [.null, .null, .null, .null, vi (0), vi (0), vi (0), vi (0)]) := by rw [egh6, gset_ne (fun z => by rw [z, hnqb] at h3; cases h3)]; exact h3
  have h8 : gh6 q1 = some (gO 1 [.null, vi (0), vi (0), vi (0)]) := by rw [egh6, gset_ne (fun z => by rw [z, hnqb] at h4; cases h4)]; exact h4
  have h9 : gh6 qb = some (gI 2 16 (fun _ => 0)) := by rw [egh6]; exact gset_eq
  have Rk10 := Rk5.new (t := (2, 2, 0)) hnqb (gI 2 16 (fun _ => 0))
  obtain ⟨adk10, eadk10⟩ : ∃ x, x = aup adk5 (2, 2, 0) qb := ⟨_, rfl⟩
  obtain ⟨ctk10, ectk10⟩ : ∃ x, x = cup ctk5 (2, 2, 0) (gI 2 16 (fun _ => 0)) := ⟨_, rfl⟩
  rw [← eadk10, ← ectk10, ← egh6] at Rk10
  have pa0_k10 : adk10 (2, 0, 0) = xa := by rw [eadk10, aup_ne (by simp)]; exact pa0_k5
  have pc0_k10 : ctk10 (2, 0, 0) = some (gO 10 [.null, .null, .null, .null, vi (0), vi (0), vi (0), vi (0)]) := by rw [ectk10, cup_ne (by simp)]; exact pc0_k5
  have pa1_k10 : adk10 (2, 1, 0) = q1 := by rw [eadk10, aup_ne (by simp)]; exact pa1_k5
  have pc1_k10 : ctk10 (2, 1, 0) = some (gO 1 [.null, vi (0), vi (0), vi (0)]) := by rw [ectk10, cup_ne (by simp)]; exact pc1_k5
  have pa2_k10 : adk10 (2, 2, 0) = qb := by rw [eadk10, aup_eq]
  have pc2_k10 : ctk10 (2, 2, 0) = some (gI 2 16 (fun _ => 0)) := by rw [ectk10, cup_eq]
  have frk10 : ∀ t : Tg, (t.1 ≤ 1 ∨ 24 ≤ t.1) → ctk10 t = ct t ∧ adk10 t = ad t := fun t ht => by
    have e0 : t ≠ (2, 2, 0) := fun e => by rw [e] at ht; simp only at ht; omega
    exact ⟨(show ctk10 t = ctk5 t by rw [ectk10, cup_ne e0]).trans (frk5 t ht).1, (show adk10 t = adk5 t by rw [eadk10, aup_ne e0]).trans (frk5 t ht).2⟩
  obtain ⟨gh11, egh11⟩ : ∃ g_, g_ = gset gh6 q1 (gO 1 [.ref qb, vi (0), vi (0), vi (0)]) := ⟨_, rfl⟩
  rw [← egh11]
  have h12 : gh11 xa = some (gO 10 [.null, .null, .null, .null, vi (0), vi (0), vi (0), vi (0)]) := by rw [egh11, gset_ne (gne h7 h8 (by simp))]; exact h7
  have h13 : gh11 qb = some (gI 2 16 (fun _ => 0)) := by rw [egh11, gset_ne (gne h9 h8 (by simp))]; exact h9
  have h14 : gh11 q1 = some (gO 1 [.ref qb, vi (0), vi (0), vi (0)]) := by rw [egh11]; exact gset_eq
  have Rk15 := Rk10.put pc1_k10 (gO 1 [.ref qb, vi (0), vi (0), vi (0)])
  obtain ⟨ctk15, ectk15⟩ : ∃ x, x = cup ctk10 (2, 1, 0) (gO 1 [.ref qb, vi (0), vi (0), vi (0)]) := ⟨_, rfl⟩
  rw [pa1_k10, ← ectk15, ← egh11] at Rk15
  have pa0_k15 := pa0_k10
  have pc0_k15 : ctk15 (2, 0, 0) = some (gO 10 [.null, .null, .null, .null, vi (0), vi (0), vi (0), vi (0)]) := by rw [ectk15, cup_ne (by simp)]; exact pc0_k10
  have pa1_k15 := pa1_k10
  have pc1_k15 : ctk15 (2, 1, 0) = some (gO 1 [.ref qb, vi (0), vi (0), vi (0)]) := by rw [ectk15, cup_eq]
  have pa2_k15 := pa2_k10
  have pc2_k15 : ctk15 (2, 2, 0) = some (gI 2 16 (fun _ => 0)) := by rw [ectk15, cup_ne (by simp)]; exact pc2_k10
  have frk15 : ∀ t : Tg, (t.1 ≤ 1 ∨ 24 ≤ t.1) → ctk15 t = ct t ∧ adk10 t = ad t := fun t ht => by
    have e0 : t ≠ (2, 1, 0) := fun e => by rw [e] at ht; simp only at ht; omega
    exact ⟨(show ctk15 t = ctk10 t by rw [ectk15, cup_ne e0]).trans (frk10 t ht).1, (frk10 t ht).2⟩
  refine gV.eqs (st' := [.ref q1, .ref xa]) rfl rfl rfl ?_
  refine g_putF hC hq (fs' := [.ref q1, .null, .null, .null, vi (0), vi (0), vi (0), vi (0)]) dX6_init_12 gp_RX6_10 h12 ⟨rfl, rfl⟩ rfl (Nat.le_of_ble_eq_true rfl) ?_
  obtain ⟨gh16, egh16⟩ : ∃ g_, g_ = gset gh11 xa (gO 10 [.ref q1, .null, .null, .null, vi (0), vi (0), vi (0), vi (0)]) := ⟨_, rfl⟩
  rw [← egh16]
  have h17 : gh16 qb = some (gI 2 16 (fun _ => 0)) := by rw [egh16, gset_ne (gne h13 h12 (by simp))]; exact h13
  have h18 : gh16 q1 = some (gO 1 [.ref qb, vi (0), vi (0), vi (0)]) := by rw [egh16, gset_ne (gne h14 h12 (by simp))]; exact h14
  have h19 : gh16 xa = some (gO 10 [.ref q1, .null, .null, .null, vi (0), vi (0), vi (0), vi (0)]) := by rw [egh16]; exact gset_eq
  have Rk20 := Rk15.put pc0_k15 (gO 10 [.ref q1, .null, .null, .null, vi (0), vi (0), vi (0), vi (0)])
  obtain ⟨ctk20, ectk20⟩ : ∃ x, x = cup ctk15 (2, 0, 0) (gO 10 [.ref q1, .null, .null, .null, vi (0), vi (0), vi (0), vi (0)]) := ⟨_, rfl⟩
  rw [pa0_k15, ← ectk20, ← egh16] at Rk20
  have pa0_k20 := pa0_k15
  have pc0_k20 : ctk20 (2, 0, 0) = some (gO 10 [.ref q1, .null, .null, .null, vi (0), vi (0), vi (0), vi (0)]) := by rw [ectk20, cup_eq]
  have pa1_k20 := pa1_k15
  have pc1_k20 : ctk20 (2, 1, 0) = some (gO 1 [.ref qb, vi (0), vi (0), vi (0)]) := by rw [ectk20, cup_ne (by simp)]; exact pc1_k15
  have pa2_k20 := pa2_k15
  have pc2_k20 : ctk20 (2, 2, 0) = some (gI 2 16 (fun _ => 0)) := by rw [ectk20, cup_ne (by simp)]; exact pc2_k15
  have frk20 : ∀ t : Tg, (t.1 ≤ 1 ∨ 24 ≤ t.1) → ctk20 t = ct t ∧ adk10 t = ad t := fun t ht => by
    have e0 : t ≠ (2, 0, 0) := fun e => by rw [e] at ht; simp only at ht; omega
    exact ⟨(show ctk20 t = ctk15 t by rw [ectk20, cup_ne e0]).trans (frk15 t ht).1, (frk15 t ht).2⟩
  refine g_ald_n hC dX6_init_15 rfl ?_
  refine g_bipush (z := 14) hC dX6_init_16 rfl ?_
  refine g_newR (n := 14) (kd := 4) hC dX6_init_18 ga_RX6_16.1 ga_RX6_16.2 (by decide) rfl rfl (by decide) (by decide) (by decide) (fun q21 hnq21 => ?_)
  obtain ⟨gh22, egh22⟩ : ∃ g_, g_ = gset gh16 q21 (gR 4 14 (fun _ => none)) := ⟨_, rfl⟩
  rw [← egh22]
  have h23 : gh22 qb = some (gI 2 16 (fun _ => 0)) := by rw [egh22, gset_ne (fun z => by rw [z, hnq21] at h17; cases h17)]; exact h17
  have h24 : gh22 q1 = some (gO 1 [.ref qb, vi (0), vi (0), vi (0)]) := by rw [egh22, gset_ne (fun z => by rw [z, hnq21] at h18; cases h18)]; exact h18
  have h25 : gh22 xa = some (gO 10 [.ref q1, .null, .null, .null, vi (0), vi (0), vi (0), vi (0)]) := by rw [egh22, gset_ne (fun z => by rw [z, hnq21] at h19; cases h19)]; exact h19
  have h26 : gh22 q21 = some (gR 4 14 (fun _ => none)) := by rw [egh22]; exact gset_eq
  have Rk27 := Rk20.new (t := (2, 3, 0)) hnq21 (gR 4 14 (fun _ => none))
  obtain ⟨adk27, eadk27⟩ : ∃ x, x = aup adk10 (2, 3, 0) q21 := ⟨_, rfl⟩
  obtain ⟨ctk27, ectk27⟩ : ∃ x, x = cup ctk20 (2, 3, 0) (gR 4 14 (fun _ => none)) := ⟨_, rfl⟩
  rw [← eadk27, ← ectk27, ← egh22] at Rk27
  have pa0_k27 : adk27 (2, 0, 0) = xa := by rw [eadk27, aup_ne (by simp)]; exact pa0_k20
  have pc0_k27 : ctk27 (2, 0, 0) = some (gO 10 [.ref q1, .null, .null, .null, vi (0), vi (0), vi (0), vi (0)]) := by rw [ectk27, cup_ne (by simp)]; exact pc0_k20
  have pa1_k27 : adk27 (2, 1, 0) = q1 := by rw [eadk27, aup_ne (by simp)]; exact pa1_k20
  have pc1_k27 : ctk27 (2, 1, 0) = some (gO 1 [.ref qb, vi (0), vi (0), vi (0)]) := by rw [ectk27, cup_ne (by simp)]; exact pc1_k20
  have pa2_k27 : adk27 (2, 2, 0) = qb := by rw [eadk27, aup_ne (by simp)]; exact pa2_k20
  have pc2_k27 : ctk27 (2, 2, 0) = some (gI 2 16 (fun _ => 0)) := by rw [ectk27, cup_ne (by simp)]; exact pc2_k20
  have pa3_k27 : adk27 (2, 3, 0) = q21 := by rw [eadk27, aup_eq]
  have pc3_k27 : ctk27 (2, 3, 0) = some (gR 4 14 (fun _ => none)) := by rw [ectk27, cup_eq]
  have frk27 : ∀ t : Tg, (t.1 ≤ 1 ∨ 24 ≤ t.1) → ctk27 t = ct t ∧ adk27 t = ad t := fun t ht => by
    have e0 : t ≠ (2, 3, 0) := fun e => by rw [e] at ht; simp only at ht; omega
    exact ⟨(show ctk27 t = ctk20 t by rw [ectk27, cup_ne e0]).trans (frk20 t ht).1, (show adk27 t = adk10 t by rw [eadk27, aup_ne e0]).trans (frk20 t ht).2⟩
  refine g_putF hC hq (fs' := [.ref q1, .ref q21, .null, .null, vi (0), vi (0), vi (0), vi (0)]) dX6_init_21 gp_RX6_18 h25 ⟨rfl, rfl⟩ rfl (Nat.le_of_ble_eq_true rfl) ?_
  obtain ⟨gh28, egh28⟩ : ∃ g_, g_ = gset gh22 xa (gO 10 [.ref q1, .ref q21, .null, .null, vi (0), vi (0), vi (0), vi (0)]) := ⟨_, rfl⟩
  rw [← egh28]
  have h29 : gh28 qb = some (gI 2 16 (fun _ => 0)) := by rw [egh28, gset_ne (gne h23 h25 (by simp))]; exact h23
  have h30 : gh28 q1 = some (gO 1 [.ref qb, vi (0), vi (0), vi (0)]) := by rw [egh28, gset_ne (gne h24 h25 (by simp))]; exact h24
  have h31 : gh28 q21 = some (gR 4 14 (fun _ => none)) := by rw [egh28, gset_ne (gne h26 h25 (by simp))]; exact h26
  have h32 : gh28 xa = some (gO 10 [.ref q1, .ref q21, .null, .null, vi (0), vi (0), vi (0), vi (0)]) := by rw [egh28]; exact gset_eq
  have Rk33 := Rk27.put pc0_k27 (gO 10 [.ref q1, .ref q21, .null, .null, vi (0), vi (0), vi (0), vi (0)])
  obtain ⟨ctk33, ectk33⟩ : ∃ x, x = cup ctk27 (2, 0, 0) (gO 10 [.ref q1, .ref q21, .null, .null, vi (0), vi (0), vi (0), vi (0)]) := ⟨_, rfl⟩
  rw [pa0_k27, ← ectk33, ← egh28] at Rk33
  have pa0_k33 := pa0_k27
  have pc0_k33 : ctk33 (2, 0, 0) = some (gO 10 [.ref q1, .ref q21, .null, .null, vi (0), vi (0), vi (0), vi (0)]) := by rw [ectk33, cup_eq]
  have pa1_k33 := pa1_k27
  have pc1_k33 : ctk33 (2, 1, 0) = some (gO 1 [.ref qb, vi (0), vi (0), vi (0)]) := by rw [ectk33, cup_ne (by simp)]; exact pc1_k27
  have pa2_k33 := pa2_k27
  have pc2_k33 : ctk33 (2, 2, 0) = some (gI 2 16 (fun _ => 0)) := by rw [ectk33, cup_ne (by simp)]; exact pc2_k27
  have pa3_k33 := pa3_k27
  have pc3_k33 : ctk33 (2, 3, 0) = some (gR 4 14 (fun _ => none)) := by rw [ectk33, cup_ne (by simp)]; exact pc3_k27
  have frk33 : ∀ t : Tg, (t.1 ≤ 1 ∨ 24 ≤ t.1) → ctk33 t = ct t ∧ adk27 t = ad t := fun t ht => by
    have e0 : t ≠ (2, 0, 0) := fun e => by rw [e] at ht; simp only at ht; omega
    exact ⟨(show ctk33 t = ctk27 t by rw [ectk33, cup_ne e0]).trans (frk27 t ht).1, (frk27 t ht).2⟩
  refine g_ald_n hC dX6_init_24 rfl ?_
  refine g_iconst hC dX6_init_25 rfl ?_
  refine g_newR (n := 4) (kd := 5) hC dX6_init_26 ga_RX6_22.1 ga_RX6_22.2 (by decide) rfl rfl (by decide) (by decide) (by decide) (fun q34 hnq34 => ?_)
  obtain ⟨gh35, egh35⟩ : ∃ g_, g_ = gset gh28 q34 (gR 5 4 (fun _ => none)) := ⟨_, rfl⟩
  rw [← egh35]
  have h36 : gh35 qb = some (gI 2 16 (fun _ => 0)) := by rw [egh35, gset_ne (fun z => by rw [z, hnq34] at h29; cases h29)]; exact h29
  have h37 : gh35 q1 = some (gO 1 [.ref qb, vi (0), vi (0), vi (0)]) := by rw [egh35, gset_ne (fun z => by rw [z, hnq34] at h30; cases h30)]; exact h30
  have h38 : gh35 q21 = some (gR 4 14 (fun _ => none)) := by rw [egh35, gset_ne (fun z => by rw [z, hnq34] at h31; cases h31)]; exact h31
  have h39 : gh35 xa = some (gO 10 [.ref q1, .ref q21, .null, .null, vi (0), vi (0), vi (0), vi (0)]) := by rw [egh35, gset_ne (fun z => by rw [z, hnq34] at h32; cases h32)]; exact h32
  have h40 : gh35 q34 = some (gR 5 4 (fun _ => none)) := by rw [egh35]; exact gset_eq
  have Rk41 := Rk33.new (t := (2, 4, 0)) hnq34 (gR 5 4 (fun _ => none))
  obtain ⟨adk41, eadk41⟩ : ∃ x, x = aup adk27 (2, 4, 0) q34 := ⟨_, rfl⟩
  obtain ⟨ctk41, ectk41⟩ : ∃ x, x = cup ctk33 (2, 4, 0) (gR 5 4 (fun _ => none)) := ⟨_, rfl⟩
  rw [← eadk41, ← ectk41, ← egh35] at Rk41
  have pa0_k41 : adk41 (2, 0, 0) = xa := by rw [eadk41, aup_ne (by simp)]; exact pa0_k33
  have pc0_k41 : ctk41 (2, 0, 0) = some (gO 10 [.ref q1, .ref q21, .null, .null, vi (0), vi (0), vi (0), vi (0)]) := by rw [ectk41, cup_ne (by simp)]; exact pc0_k33
  have pa1_k41 : adk41 (2, 1, 0) = q1 := by rw [eadk41, aup_ne (by simp)]; exact pa1_k33
  have pc1_k41 : ctk41 (2, 1, 0) = some (gO 1 [.ref qb, vi (0), vi (0), vi (0)]) := by rw [ectk41, cup_ne (by simp)]; exact pc1_k33
  have pa2_k41 : adk41 (2, 2, 0) = qb := by rw [eadk41, aup_ne (by simp)]; exact pa2_k33
  have pc2_k41 : ctk41 (2, 2, 0) = some (gI 2 16 (fun _ => 0)) := by rw [ectk41, cup_ne (by simp)]; exact pc2_k33
  have pa3_k41 : adk41 (2, 3, 0) = q21 := by rw [eadk41, aup_ne (by simp)]; exact pa3_k33
  have pc3_k41 : ctk41 (2, 3, 0) = some (gR 4 14 (fun _ => none)) := by rw [ectk41, cup_ne (by simp)]; exact pc3_k33
  have pa4_k41 : adk41 (2, 4, 0) = q34 := by rw [eadk41, aup_eq]
  have pc4_k41 : ctk41 (2, 4, 0) = some (gR 5 4 (fun _ => none)) := by rw [ectk41, cup_eq]
  have frk41 : ∀ t : Tg, (t.1 ≤ 1 ∨ 24 ≤ t.1) → ctk41 t = ct t ∧ adk41 t = ad t := fun t ht => by
    have e0 : t ≠ (2, 4, 0) := fun e => by rw [e] at ht; simp only at ht; omega
    exact ⟨(show ctk41 t = ctk33 t by rw [ectk41, cup_ne e0]).trans (frk33 t ht).1, (show adk41 t = adk27 t by rw [eadk41, aup_ne e0]).trans (frk33 t ht).2⟩
  refine g_putF hC hq (fs' := [.ref q1, .ref q21, .ref q34, .null, vi (0), vi (0), vi (0), vi (0)]) dX6_init_29 gp_RX6_24 h39 ⟨rfl, rfl⟩ rfl (Nat.le_of_ble_eq_true rfl) ?_
  obtain ⟨gh42, egh42⟩ : ∃ g_, g_ = gset gh35 xa (gO 10 [.ref q1, .ref q21, .ref q34, .null, vi (0), vi (0), vi (0), vi (0)]) := ⟨_, rfl⟩
  rw [← egh42]
  have h43 : gh42 qb = some (gI 2 16 (fun _ => 0)) := by rw [egh42, gset_ne (gne h36 h39 (by simp))]; exact h36
  have h44 : gh42 q1 = some (gO 1 [.ref qb, vi (0), vi (0), vi (0)]) := by rw [egh42, gset_ne (gne h37 h39 (by simp))]; exact h37
  have h45 : gh42 q21 = some (gR 4 14 (fun _ => none)) := by rw [egh42, gset_ne (gne h38 h39 (by simp))]; exact h38
  have h46 : gh42 q34 = some (gR 5 4 (fun _ => none)) := by rw [egh42, gset_ne (gne h40 h39 (by simp))]; exact h40
  have h47 : gh42 xa = some (gO 10 [.ref q1, .ref q21, .ref q34, .null, vi (0), vi (0), vi (0), vi (0)]) := by rw [egh42]; exact gset_eq
  have Rk48 := Rk41.put pc0_k41 (gO 10 [.ref q1, .ref q21, .ref q34, .null, vi (0), vi (0), vi (0), vi (0)])
  obtain ⟨ctk48, ectk48⟩ : ∃ x, x = cup ctk41 (2, 0, 0) (gO 10 [.ref q1, .ref q21, .ref q34, .null, vi (0), vi (0), vi (0), vi (0)]) := ⟨_, rfl⟩
  rw [pa0_k41, ← ectk48, ← egh42] at Rk48
  have pa0_k48 := pa0_k41
  have pc0_k48 : ctk48 (2, 0, 0) = some (gO 10 [.ref q1, .ref q21, .ref q34, .null, vi (0), vi (0), vi (0), vi (0)]) := by rw [ectk48, cup_eq]
  have pa1_k48 := pa1_k41
  have pc1_k48 : ctk48 (2, 1, 0) = some (gO 1 [.ref qb, vi (0), vi (0), vi (0)]) := by rw [ectk48, cup_ne (by simp)]; exact pc1_k41
  have pa2_k48 := pa2_k41
  have pc2_k48 : ctk48 (2, 2, 0) = some (gI 2 16 (fun _ => 0)) := by rw [ectk48, cup_ne (by simp)]; exact pc2_k41
  have pa3_k48 := pa3_k41
  have pc3_k48 : ctk48 (2, 3, 0) = some (gR 4 14 (fun _ => none)) := by rw [ectk48, cup_ne (by simp)]; exact pc3_k41
  have pa4_k48 := pa4_k41
  have pc4_k48 : ctk48 (2, 4, 0) = some (gR 5 4 (fun _ => none)) := by rw [ectk48, cup_ne (by simp)]; exact pc4_k41
  have frk48 : ∀ t : Tg, (t.1 ≤ 1 ∨ 24 ≤ t.1) → ctk48 t = ct t ∧ adk41 t = ad t := fun t ht => by
    have e0 : t ≠ (2, 0, 0) := fun e => by rw [e] at ht; simp only at ht; omega
    exact ⟨(show ctk48 t = ctk41 t by rw [ectk48, cup_ne e0]).trans (frk41 t ht).1, (frk41 t ht).2⟩
  refine g_ald_n hC dX6_init_32 rfl ?_
  refine g_iconst hC dX6_init_33 rfl ?_
  refine g_newR (n := 5) (kd := 6) hC dX6_init_34 ga_RX6_28.1 ga_RX6_28.2 (by decide) rfl rfl (by decide) (by decide) (by decide) (fun q49 hnq49 => ?_)
  obtain ⟨gh50, egh50⟩ : ∃ g_, g_ = gset gh42 q49 (gR 6 5 (fun _ => none)) := ⟨_, rfl⟩
  rw [← egh50]
  have h51 : gh50 qb = some (gI 2 16 (fun _ => 0)) := by rw [egh50, gset_ne (fun z => by rw [z, hnq49] at h43; cases h43)]; exact h43
  have h52 : gh50 q1 = some (gO 1 [.ref qb, vi (0), vi (0), vi (0)]) := by rw [egh50, gset_ne (fun z => by rw [z, hnq49] at h44; cases h44)]; exact h44
  have h53 : gh50 q21 = some (gR 4 14 (fun _ => none)) := by rw [egh50, gset_ne (fun z => by rw [z, hnq49] at h45; cases h45)]; exact h45
  have h54 : gh50 q34 = some (gR 5 4 (fun _ => none)) := by rw [egh50, gset_ne (fun z => by rw [z, hnq49] at h46; cases h46)]; exact h46
  have h55 : gh50 xa = some (gO 10 [.ref q1, .ref q21, .ref q34, .null, vi (0), vi (0), vi (0), vi (0)]) := by rw [egh50, gset_ne (fun z => by rw [z, hnq49] at h47; cases h47)]; exact h47
  have h56 : gh50 q49 = some (gR 6 5 (fun _ => none)) := by rw [egh50]; exact gset_eq
  have Rk57 := Rk48.new (t := (2, 5, 0)) hnq49 (gR 6 5 (fun _ => none))
  obtain ⟨adk57, eadk57⟩ : ∃ x, x = aup adk41 (2, 5, 0) q49 := ⟨_, rfl⟩
  obtain ⟨ctk57, ectk57⟩ : ∃ x, x = cup ctk48 (2, 5, 0) (gR 6 5 (fun _ => none)) := ⟨_, rfl⟩
  rw [← eadk57, ← ectk57, ← egh50] at Rk57
  have pa0_k57 : adk57 (2, 0, 0) = xa := by rw [eadk57, aup_ne (by simp)]; exact pa0_k48
  have pc0_k57 : ctk57 (2, 0, 0) = some (gO 10 [.ref q1, .ref q21, .ref q34, .null, vi (0), vi (0), vi (0), vi (0)]) := by rw [ectk57, cup_ne (by simp)]; exact pc0_k48
  have pa1_k57 : adk57 (2, 1, 0) = q1 := by rw [eadk57, aup_ne (by simp)]; exact pa1_k48
  have pc1_k57 : ctk57 (2, 1, 0) = some (gO 1 [.ref qb, vi (0), vi (0), vi (0)]) := by rw [ectk57, cup_ne (by simp)]; exact pc1_k48
  have pa2_k57 : adk57 (2, 2, 0) = qb := by rw [eadk57, aup_ne (by simp)]; exact pa2_k48
  have pc2_k57 : ctk57 (2, 2, 0) = some (gI 2 16 (fun _ => 0)) := by rw [ectk57, cup_ne (by simp)]; exact pc2_k48
  have pa3_k57 : adk57 (2, 3, 0) = q21 := by rw [eadk57, aup_ne (by simp)]; exact pa3_k48
  have pc3_k57 : ctk57 (2, 3, 0) = some (gR 4 14 (fun _ => none)) := by rw [ectk57, cup_ne (by simp)]; exact pc3_k48
  have pa4_k57 : adk57 (2, 4, 0) = q34 := by rw [eadk57, aup_ne (by simp)]; exact pa4_k48
  have pc4_k57 : ctk57 (2, 4, 0) = some (gR 5 4 (fun _ => none)) := by rw [ectk57, cup_ne (by simp)]; exact pc4_k48
  have pa5_k57 : adk57 (2, 5, 0) = q49 := by rw [eadk57, aup_eq]
  have pc5_k57 : ctk57 (2, 5, 0) = some (gR 6 5 (fun _ => none)) := by rw [ectk57, cup_eq]
  have frk57 : ∀ t : Tg, (t.1 ≤ 1 ∨ 24 ≤ t.1) → ctk57 t = ct t ∧ adk57 t = ad t := fun t ht => by
    have e0 : t ≠ (2, 5, 0) := fun e => by rw [e] at ht; simp only at ht; omega
    exact ⟨(show ctk57 t = ctk48 t by rw [ectk57, cup_ne e0]).trans (frk48 t ht).1, (show adk57 t = adk41 t by rw [eadk57, aup_ne e0]).trans (frk48 t ht).2⟩
  refine g_putF hC hq (fs' := [.ref q1, .ref q21, .ref q34, .ref q49, vi (0), vi (0), vi (0), vi (0)]) dX6_init_37 gp_RX6_30 h55 ⟨rfl, rfl⟩ rfl (Nat.le_of_ble_eq_true rfl) ?_
  obtain ⟨gh58, egh58⟩ : ∃ g_, g_ = gset gh50 xa (gO 10 [.ref q1, .ref q21, .ref q34, .ref q49, vi (0), vi (0), vi (0), vi (0)]) := ⟨_, rfl⟩
  rw [← egh58]
  have h59 : gh58 qb = some (gI 2 16 (fun _ => 0)) := by rw [egh58, gset_ne (gne h51 h55 (by simp))]; exact h51
  have h60 : gh58 q1 = some (gO 1 [.ref qb, vi (0), vi (0), vi (0)]) := by rw [egh58, gset_ne (gne h52 h55 (by simp))]; exact h52
  have h61 : gh58 q21 = some (gR 4 14 (fun _ => none)) := by rw [egh58, gset_ne (gne h53 h55 (by simp))]; exact h53
  have h62 : gh58 q34 = some (gR 5 4 (fun _ => none)) := by rw [egh58, gset_ne (gne h54 h55 (by simp))]; exact h54
  have h63 : gh58 q49 = some (gR 6 5 (fun _ => none)) := by rw [egh58, gset_ne (gne h56 h55 (by simp))]; exact h56
  have h64 : gh58 xa = some (gO 10 [.ref q1, .ref q21, .ref q34, .ref q49, vi (0), vi (0), vi (0), vi (0)]) := by rw [egh58]; exact gset_eq
  have Rk65 := Rk57.put pc0_k57 (gO 10 [.ref q1, .ref q21, .ref q34, .ref q49, vi (0), vi (0), vi (0), vi (0)])
  obtain ⟨ctk65, ectk65⟩ : ∃ x, x = cup ctk57 (2, 0, 0) (gO 10 [.ref q1, .ref q21, .ref q34, .ref q49, vi (0), vi (0), vi (0), vi (0)]) := ⟨_, rfl⟩
  rw [pa0_k57, ← ectk65, ← egh58] at Rk65
  have pa0_k65 := pa0_k57
  have pc0_k65 : ctk65 (2, 0, 0) = some (gO 10 [.ref q1, .ref q21, .ref q34, .ref q49, vi (0), vi (0), vi (0), vi (0)]) := by rw [ectk65, cup_eq]
  have pa1_k65 := pa1_k57
  have pc1_k65 : ctk65 (2, 1, 0) = some (gO 1 [.ref qb, vi (0), vi (0), vi (0)]) := by rw [ectk65, cup_ne (by simp)]; exact pc1_k57
  have pa2_k65 := pa2_k57
  have pc2_k65 : ctk65 (2, 2, 0) = some (gI 2 16 (fun _ => 0)) := by rw [ectk65, cup_ne (by simp)]; exact pc2_k57
  have pa3_k65 := pa3_k57
  have pc3_k65 : ctk65 (2, 3, 0) = some (gR 4 14 (fun _ => none)) := by rw [ectk65, cup_ne (by simp)]; exact pc3_k57
  have pa4_k65 := pa4_k57
  have pc4_k65 : ctk65 (2, 4, 0) = some (gR 5 4 (fun _ => none)) := by rw [ectk65, cup_ne (by simp)]; exact pc4_k57
  have pa5_k65 := pa5_k57
  have pc5_k65 : ctk65 (2, 5, 0) = some (gR 6 5 (fun _ => none)) := by rw [ectk65, cup_ne (by simp)]; exact pc5_k57
  have frk65 : ∀ t : Tg, (t.1 ≤ 1 ∨ 24 ≤ t.1) → ctk65 t = ct t ∧ adk57 t = ad t := fun t ht => by
    have e0 : t ≠ (2, 0, 0) := fun e => by rw [e] at ht; simp only at ht; omega
    exact ⟨(show ctk65 t = ctk57 t by rw [ectk65, cup_ne e0]).trans (frk57 t ht).1, (frk57 t ht).2⟩
  refine g_ald_n hC dX6_init_40 rfl ?_
  refine g_iconst hC dX6_init_41 rfl ?_
  refine g_put hC (fs' := [.ref q1, .ref q21, .ref q34, .ref q49, vi (0), vi (0), vi (0), vi (0)]) dX6_init_42 gp_RX6_34 h64 ⟨rfl, rfl⟩ rfl (Nat.le_of_ble_eq_true rfl) ?_
  obtain ⟨gh66, egh66⟩ : ∃ g_, g_ = gset gh58 xa (gO 10 [.ref q1, .ref q21, .ref q34, .ref q49, vi (0), vi (0), vi (0), vi (0)]) := ⟨_, rfl⟩
  rw [← egh66]
  have h67 : gh66 qb = some (gI 2 16 (fun _ => 0)) := by rw [egh66, gset_ne (gne h59 h64 (by simp))]; exact h59
  have h68 : gh66 q1 = some (gO 1 [.ref qb, vi (0), vi (0), vi (0)]) := by rw [egh66, gset_ne (gne h60 h64 (by simp))]; exact h60
  have h69 : gh66 q21 = some (gR 4 14 (fun _ => none)) := by rw [egh66, gset_ne (gne h61 h64 (by simp))]; exact h61
  have h70 : gh66 q34 = some (gR 5 4 (fun _ => none)) := by rw [egh66, gset_ne (gne h62 h64 (by simp))]; exact h62
  have h71 : gh66 q49 = some (gR 6 5 (fun _ => none)) := by rw [egh66, gset_ne (gne h63 h64 (by simp))]; exact h63
  have h72 : gh66 xa = some (gO 10 [.ref q1, .ref q21, .ref q34, .ref q49, vi (0), vi (0), vi (0), vi (0)]) := by rw [egh66]; exact gset_eq
  have Rk73 := Rk65.put pc0_k65 (gO 10 [.ref q1, .ref q21, .ref q34, .ref q49, vi (0), vi (0), vi (0), vi (0)])
  obtain ⟨ctk73, ectk73⟩ : ∃ x, x = cup ctk65 (2, 0, 0) (gO 10 [.ref q1, .ref q21, .ref q34, .ref q49, vi (0), vi (0), vi (0), vi (0)]) := ⟨_, rfl⟩
  rw [pa0_k65, ← ectk73, ← egh66] at Rk73
  have pa0_k73 := pa0_k65
  have pc0_k73 : ctk73 (2, 0, 0) = some (gO 10 [.ref q1, .ref q21, .ref q34, .ref q49, vi (0), vi (0), vi (0), vi (0)]) := by rw [ectk73, cup_eq]
  have pa1_k73 := pa1_k65
  have pc1_k73 : ctk73 (2, 1, 0) = some (gO 1 [.ref qb, vi (0), vi (0), vi (0)]) := by rw [ectk73, cup_ne (by simp)]; exact pc1_k65
  have pa2_k73 := pa2_k65
  have pc2_k73 : ctk73 (2, 2, 0) = some (gI 2 16 (fun _ => 0)) := by rw [ectk73, cup_ne (by simp)]; exact pc2_k65
  have pa3_k73 := pa3_k65
  have pc3_k73 : ctk73 (2, 3, 0) = some (gR 4 14 (fun _ => none)) := by rw [ectk73, cup_ne (by simp)]; exact pc3_k65
  have pa4_k73 := pa4_k65
  have pc4_k73 : ctk73 (2, 4, 0) = some (gR 5 4 (fun _ => none)) := by rw [ectk73, cup_ne (by simp)]; exact pc4_k65
  have pa5_k73 := pa5_k65
  have pc5_k73 : ctk73 (2, 5, 0) = some (gR 6 5 (fun _ => none)) := by rw [ectk73, cup_ne (by simp)]; exact pc5_k65
  have frk73 : ∀ t : Tg, (t.1 ≤ 1 ∨ 24 ≤ t.1) → ctk73 t = ct t ∧ adk57 t = ad t := fun t ht => by
    have e0 : t ≠ (2, 0, 0) := fun e => by rw [e] at ht; simp only at ht; omega
    exact ⟨(show ctk73 t = ctk65 t by rw [ectk73, cup_ne e0]).trans (frk65 t ht).1, (frk65 t ht).2⟩
  refine g_ald_n hC dX6_init_45 rfl ?_
  refine g_iconst hC dX6_init_46 rfl ?_
  refine g_put hC (fs' := [.ref q1, .ref q21, .ref q34, .ref q49, vi (0), vi (0), vi (0), vi (0)]) dX6_init_47 gp_RX6_38 h72 ⟨rfl, rfl⟩ rfl (Nat.le_of_ble_eq_true rfl) ?_
  obtain ⟨gh74, egh74⟩ : ∃ g_, g_ = gset gh66 xa (gO 10 [.ref q1, .ref q21, .ref q34, .ref q49, vi (0), vi (0), vi (0), vi (0)]) := ⟨_, rfl⟩
  rw [← egh74]
  have h75 : gh74 qb = some (gI 2 16 (fun _ => 0)) := by rw [egh74, gset_ne (gne h67 h72 (by simp))]; exact h67
  have h76 : gh74 q1 = some (gO 1 [.ref qb, vi (0), vi (0), vi (0)]) := by rw [egh74, gset_ne (gne h68 h72 (by simp))]; exact h68
  have h77 : gh74 q21 = some (gR 4 14 (fun _ => none)) := by rw [egh74, gset_ne (gne h69 h72 (by simp))]; exact h69
  have h78 : gh74 q34 = some (gR 5 4 (fun _ => none)) := by rw [egh74, gset_ne (gne h70 h72 (by simp))]; exact h70
  have h79 : gh74 q49 = some (gR 6 5 (fun _ => none)) := by rw [egh74, gset_ne (gne h71 h72 (by simp))]; exact h71
  have h80 : gh74 xa = some (gO 10 [.ref q1, .ref q21, .ref q34, .ref q49, vi (0), vi (0), vi (0), vi (0)]) := by rw [egh74]; exact gset_eq
  have Rk81 := Rk73.put pc0_k73 (gO 10 [.ref q1, .ref q21, .ref q34, .ref q49, vi (0), vi (0), vi (0), vi (0)])
  obtain ⟨ctk81, ectk81⟩ : ∃ x, x = cup ctk73 (2, 0, 0) (gO 10 [.ref q1, .ref q21, .ref q34, .ref q49, vi (0), vi (0), vi (0), vi (0)]) := ⟨_, rfl⟩
  rw [pa0_k73, ← ectk81, ← egh74] at Rk81
  have pa0_k81 := pa0_k73
  have pc0_k81 : ctk81 (2, 0, 0) = some (gO 10 [.ref q1, .ref q21, .ref q34, .ref q49, vi (0), vi (0), vi (0), vi (0)]) := by rw [ectk81, cup_eq]
  have pa1_k81 := pa1_k73
  have pc1_k81 : ctk81 (2, 1, 0) = some (gO 1 [.ref qb, vi (0), vi (0), vi (0)]) := by rw [ectk81, cup_ne (by simp)]; exact pc1_k73
  have pa2_k81 := pa2_k73
  have pc2_k81 : ctk81 (2, 2, 0) = some (gI 2 16 (fun _ => 0)) := by rw [ectk81, cup_ne (by simp)]; exact pc2_k73
  have pa3_k81 := pa3_k73
  have pc3_k81 : ctk81 (2, 3, 0) = some (gR 4 14 (fun _ => none)) := by rw [ectk81, cup_ne (by simp)]; exact pc3_k73
  have pa4_k81 := pa4_k73
  have pc4_k81 : ctk81 (2, 4, 0) = some (gR 5 4 (fun _ => none)) := by rw [ectk81, cup_ne (by simp)]; exact pc4_k73
  have pa5_k81 := pa5_k73
  have pc5_k81 : ctk81 (2, 5, 0) = some (gR 6 5 (fun _ => none)) := by rw [ectk81, cup_ne (by simp)]; exact pc5_k73
  have frk81 : ∀ t : Tg, (t.1 ≤ 1 ∨ 24 ≤ t.1) → ctk81 t = ct t ∧ adk57 t = ad t := fun t ht => by
    have e0 : t ≠ (2, 0, 0) := fun e => by rw [e] at ht; simp only at ht; omega
    exact ⟨(show ctk81 t = ctk73 t by rw [ectk81, cup_ne e0]).trans (frk73 t ht).1, (frk73 t ht).2⟩
  refine g_ald_n hC dX6_init_50 rfl ?_
  refine g_iconst hC dX6_init_51 rfl ?_
  refine g_put hC (fs' := [.ref q1, .ref q21, .ref q34, .ref q49, vi (0), vi (0), vi (0), vi (0)]) dX6_init_52 gp_RX6_41 h80 ⟨rfl, rfl⟩ rfl (Nat.le_of_ble_eq_true rfl) ?_
  obtain ⟨gh82, egh82⟩ : ∃ g_, g_ = gset gh74 xa (gO 10 [.ref q1, .ref q21, .ref q34, .ref q49, vi (0), vi (0), vi (0), vi (0)]) := ⟨_, rfl⟩
  rw [← egh82]
  have h83 : gh82 qb = some (gI 2 16 (fun _ => 0)) := by rw [egh82, gset_ne (gne h75 h80 (by simp))]; exact h75
  have h84 : gh82 q1 = some (gO 1 [.ref qb, vi (0), vi (0), vi (0)]) := by rw [egh82, gset_ne (gne h76 h80 (by simp))]; exact h76
  have h85 : gh82 q21 = some (gR 4 14 (fun _ => none)) := by rw [egh82, gset_ne (gne h77 h80 (by simp))]; exact h77
  have h86 : gh82 q34 = some (gR 5 4 (fun _ => none)) := by rw [egh82, gset_ne (gne h78 h80 (by simp))]; exact h78
  have h87 : gh82 q49 = some (gR 6 5 (fun _ => none)) := by rw [egh82, gset_ne (gne h79 h80 (by simp))]; exact h79
  have h88 : gh82 xa = some (gO 10 [.ref q1, .ref q21, .ref q34, .ref q49, vi (0), vi (0), vi (0), vi (0)]) := by rw [egh82]; exact gset_eq
  have Rk89 := Rk81.put pc0_k81 (gO 10 [.ref q1, .ref q21, .ref q34, .ref q49, vi (0), vi (0), vi (0), vi (0)])
  obtain ⟨ctk89, ectk89⟩ : ∃ x, x = cup ctk81 (2, 0, 0) (gO 10 [.ref q1, .ref q21, .ref q34, .ref q49, vi (0), vi (0), vi (0), vi (0)]) := ⟨_, rfl⟩
  rw [pa0_k81, ← ectk89, ← egh82] at Rk89
  have pa0_k89 := pa0_k81
  have pc0_k89 : ctk89 (2, 0, 0) = some (gO 10 [.ref q1, .ref q21, .ref q34, .ref q49, vi (0), vi (0), vi (0), vi (0)]) := by rw [ectk89, cup_eq]
  have pa1_k89 := pa1_k81
  have pc1_k89 : ctk89 (2, 1, 0) = some (gO 1 [.ref qb, vi (0), vi (0), vi (0)]) := by rw [ectk89, cup_ne (by simp)]; exact pc1_k81
  have pa2_k89 := pa2_k81
  have pc2_k89 : ctk89 (2, 2, 0) = some (gI 2 16 (fun _ => 0)) := by rw [ectk89, cup_ne (by simp)]; exact pc2_k81
  have pa3_k89 := pa3_k81
  have pc3_k89 : ctk89 (2, 3, 0) = some (gR 4 14 (fun _ => none)) := by rw [ectk89, cup_ne (by simp)]; exact pc3_k81
  have pa4_k89 := pa4_k81
  have pc4_k89 : ctk89 (2, 4, 0) = some (gR 5 4 (fun _ => none)) := by rw [ectk89, cup_ne (by simp)]; exact pc4_k81
  have pa5_k89 := pa5_k81
  have pc5_k89 : ctk89 (2, 5, 0) = some (gR 6 5 (fun _ => none)) := by rw [ectk89, cup_ne (by simp)]; exact pc5_k81
  have frk89 : ∀ t : Tg, (t.1 ≤ 1 ∨ 24 ≤ t.1) → ctk89 t = ct t ∧ adk57 t = ad t := fun t ht => by
    have e0 : t ≠ (2, 0, 0) := fun e => by rw [e] at ht; simp only at ht; omega
    exact ⟨(show ctk89 t = ctk81 t by rw [ectk89, cup_ne e0]).trans (frk81 t ht).1, (frk81 t ht).2⟩
  refine g_ald_n hC dX6_init_55 rfl ?_
  refine g_iconst hC dX6_init_56 rfl ?_
  refine g_put hC (fs' := [.ref q1, .ref q21, .ref q34, .ref q49, vi (0), vi (0), vi (0), vi (0)]) dX6_init_57 gp_RX6_44 h88 ⟨rfl, rfl⟩ rfl (Nat.le_of_ble_eq_true rfl) ?_
  obtain ⟨gh90, egh90⟩ : ∃ g_, g_ = gset gh82 xa (gO 10 [.ref q1, .ref q21, .ref q34, .ref q49, vi (0), vi (0), vi (0), vi (0)]) := ⟨_, rfl⟩
  rw [← egh90]
  have h91 : gh90 qb = some (gI 2 16 (fun _ => 0)) := by rw [egh90, gset_ne (gne h83 h88 (by simp))]; exact h83
  have h92 : gh90 q1 = some (gO 1 [.ref qb, vi (0), vi (0), vi (0)]) := by rw [egh90, gset_ne (gne h84 h88 (by simp))]; exact h84
  have h93 : gh90 q21 = some (gR 4 14 (fun _ => none)) := by rw [egh90, gset_ne (gne h85 h88 (by simp))]; exact h85
  have h94 : gh90 q34 = some (gR 5 4 (fun _ => none)) := by rw [egh90, gset_ne (gne h86 h88 (by simp))]; exact h86
  have h95 : gh90 q49 = some (gR 6 5 (fun _ => none)) := by rw [egh90, gset_ne (gne h87 h88 (by simp))]; exact h87
  have h96 : gh90 xa = some (gO 10 [.ref q1, .ref q21, .ref q34, .ref q49, vi (0), vi (0), vi (0), vi (0)]) := by rw [egh90]; exact gset_eq
  have Rk97 := Rk89.put pc0_k89 (gO 10 [.ref q1, .ref q21, .ref q34, .ref q49, vi (0), vi (0), vi (0), vi (0)])
  obtain ⟨ctk97, ectk97⟩ : ∃ x, x = cup ctk89 (2, 0, 0) (gO 10 [.ref q1, .ref q21, .ref q34, .ref q49, vi (0), vi (0), vi (0), vi (0)]) := ⟨_, rfl⟩
  rw [pa0_k89, ← ectk97, ← egh90] at Rk97
  have pa0_k97 := pa0_k89
  have pc0_k97 : ctk97 (2, 0, 0) = some (gO 10 [.ref q1, .ref q21, .ref q34, .ref q49, vi (0), vi (0), vi (0), vi (0)]) := by rw [ectk97, cup_eq]
  have pa1_k97 := pa1_k89
  have pc1_k97 : ctk97 (2, 1, 0) = some (gO 1 [.ref qb, vi (0), vi (0), vi (0)]) := by rw [ectk97, cup_ne (by simp)]; exact pc1_k89
  have pa2_k97 := pa2_k89
  have pc2_k97 : ctk97 (2, 2, 0) = some (gI 2 16 (fun _ => 0)) := by rw [ectk97, cup_ne (by simp)]; exact pc2_k89
  have pa3_k97 := pa3_k89
  have pc3_k97 : ctk97 (2, 3, 0) = some (gR 4 14 (fun _ => none)) := by rw [ectk97, cup_ne (by simp)]; exact pc3_k89
  have pa4_k97 := pa4_k89
  have pc4_k97 : ctk97 (2, 4, 0) = some (gR 5 4 (fun _ => none)) := by rw [ectk97, cup_ne (by simp)]; exact pc4_k89
  have pa5_k97 := pa5_k89
  have pc5_k97 : ctk97 (2, 5, 0) = some (gR 6 5 (fun _ => none)) := by rw [ectk97, cup_ne (by simp)]; exact pc5_k89
  have frk97 : ∀ t : Tg, (t.1 ≤ 1 ∨ 24 ≤ t.1) → ctk97 t = ct t ∧ adk57 t = ad t := fun t ht => by
    have e0 : t ≠ (2, 0, 0) := fun e => by rw [e] at ht; simp only at ht; omega
    exact ⟨(show ctk97 t = ctk89 t by rw [ectk97, cup_ne e0]).trans (frk89 t ht).1, (frk89 t ht).2⟩
  refine g_vret hC hq dX6_init_60 (by decide) (by decide) ⟨rfl, adk57, ctk97, Rk97, ?_, frk97, by rw [pa0_k97]; exact pa0_0.symm⟩
  refine ⟨?_, ⟨0, fun _ => 0, ?_, ?_, fun t ht => by rw [z1] at ht; omega⟩, ?_, ?_, ?_, fun i hi => by rw [z3] at hi; omega, fun i hi => by rw [z11] at hi; omega, fun i hi => by rw [z22] at hi; omega⟩
  · rw [pc0_k97]; unfold clO; rw [z0, z3, z11, z22, pa1_k97, pa3_k97, pa4_k97, pa5_k97]
  · rw [pc1_k97, z1, pa2_k97]
  · exact pc2_k97
  · rw [pc3_k97, z3]; exact congrArg (fun f => some (gR 4 14 f)) (funext (fun s => (if_neg (by omega)).symm))
  · rw [pc4_k97, z11]; exact congrArg (fun f => some (gR 5 4 f)) (funext (fun s => (if_neg (by omega)).symm))
  · rw [pc5_k97, z22]; exact congrArg (fun f => some (gR 6 5 f)) (funext (fun s => (if_neg (by omega)).symm))

end C28
