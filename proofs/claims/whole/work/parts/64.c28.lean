/-! the constructors of the class and of the reference -/
section C28
set_option maxHeartbeats 4000000 in
set_option maxRecDepth 100000 in
theorem kX6_init {l : Launch} (hl : l.stackTraces = false) {D : gD} {base : Nat}  {ad : Tg → Nat} {z : Nat → Int} {F : Nat → Nat → Int} {ct : Tg → Option gC} (z0 : z 0 = 0) (z1 : z 1 = 0) (z3 : z 3 = 0) (z11 : z 11 = 0) (z22 : z 22 = 0) (hx : ct (2, 0, 0) = some (gO 10 [.null, .null, .null, .null, vi 0, vi 0, vi 0, vi 0])) (gh : gH) (hR : cR ad ct gh) : gM l D base yX6_init cX6_init 1 none 3 53 5 43 [.ref (ad (2, 0, 0))] gh (fun r gh' => r = none ∧ xOK ad ct z F gh') gNo := by
  refine gM.of hl (by decide) (by simp [Value.category]) (Nat.le_of_ble_eq_true rfl) [some (.ref (ad (2, 0, 0)))] rfl (fun x hC hq => ?_)
  obtain ⟨xa, pa0_0⟩ : ∃ x, ad (2, 0, 0) = x := ⟨_, rfl⟩
  rw [pa0_0]
  have pc0_0 := hx
  have fr0 : ∀ t : Tg, (t.1 ≤ 1 ∨ 24 ≤ t.1) → ct t = ct t ∧ ad t = ad t := fun _ _ => ⟨rfl, rfl⟩
  have h00 : gh xa = some (gO 10 [.null, .null, .null, .null, vi (0), vi (0), vi (0), vi (0)]) := by have h9_ := hR.1 _ _ hx; rw [pa0_0] at h9_; exact h9_
  refine g_ald_n hC dX6_init_0 rfl ?_
  refine g_objInit hC dX6_init_1 go_RX6 go_i go_c (by decide) (by decide) ?_
  refine g_ald_n hC dX6_init_4 rfl ?_
  refine g_new hC dX6_init_5 gn_RX6_7 (by decide) (by decide) (fun q1 hnq1 => ?_)
  obtain ⟨gh2, egh2⟩ : ∃ g_, g_ = gset gh q1 (gO 1 [.null, vi (0), vi (0), vi (0)]) := ⟨_, rfl⟩
  rw [← egh2]
  have h3 : gh2 xa = some (gO 10 [.null, .null, .null, .null, vi (0), vi (0), vi (0), vi (0)]) := by rw [egh2, gset_ne (fun z => by rw [z, hnq1] at h00; cases h00)]; exact h00
  have h4 : gh2 q1 = some (gO 1 [.null, vi (0), vi (0), vi (0)]) := by rw [egh2]; exact gset_eq
  have Rk5 := hR.new (t := (2, 1, 0)) hnq1 (gO 1 [.null, vi (0), vi (0), vi (0)])
  obtain ⟨adk5, eadk5⟩ : ∃ x, x = aup ad (2, 1, 0) q1 := ⟨_, rfl⟩
  obtain ⟨ctk5, ectk5⟩ : ∃ x, x = cup ct (2, 1, 0) (gO 1 [.null, vi (0), vi (0), vi (0)]) := ⟨_, rfl⟩
  rw [← eadk5, ← ectk5, ← egh2] at Rk5
  have pa0_k5 : adk5 (2, 0, 0) = xa := by rw [eadk5, aup_ne (by simp)]; exact pa0_0
  have pc0_k5 : ctk5 (2, 0, 0) = some (gO 10 [.null, .null, .null, .null, vi (0), vi (0), vi (0), vi (0)]) := by rw [ectk5, cup_ne (by simp)]; exact pc0_0
  have pa1_k5 : adk5 (2, 1, 0) = q1 := by rw [eadk5, aup_eq]
  have pc1_k5 : ctk5 (2, 1, 0) = some (gO 1 [.null, vi (0), vi (0), vi (0)]) := by rw [ectk5, cup_eq]
  have frk5 : ∀ t : Tg, (t.1 ≤ 1 ∨ 24 ≤ t.1) → ctk5 t = ct t ∧ adk5 t = ad t := fun t ht => by
    have e0 : t ≠ (2, 1, 0) := fun e => by rw [e] at ht; simp only at ht; omega
    exact ⟨(show ctk5 t = ct t by rw [ectk5, cup_ne e0]).trans (fr0 t ht).1, (show adk5 t = ad t by rw [eadk5, aup_ne e0]).trans (fr0 t ht).2⟩
  refine g_dup hC dX6_init_8 rfl ?_
  refine g_callI (rest := [.ref q1, .ref xa]) hC (kJ4_init hl  gh2 h4) gc_RX6_9 rfl ⟨by decide, by decide⟩ ⟨by decide, by decide⟩ (Nat.le_of_ble_eq_true rfl) rfl dX6_init_9 (fun r gz hp => ?_)
  obtain ⟨rfl, qb, hnqb, hgh⟩ := hp
  rw [hgh]
  clear hgh
  obtain ⟨gh6, egh6⟩ : ∃ g_, g_ = gset gh2 qb (gI 2 16 (fun _ => 0)) := ⟨_, rfl⟩
  rw [← egh6]
  have h7 : gh6 xa = some (gO 10 [.null, .null, .null, .null, vi (0), vi (0), vi (0), vi (0)]) := by rw [egh6, gset_ne (fun z => by rw [z, hnqb] at h3; cases h3)]; exact h3
  have h8 : gh6 q1 = some (gO 1 [.null, vi (0), vi (0), vi (0)]) := by rw [egh6, gset_ne (fun z => by rw [z, hnqb] at h4; cases h4)]; exact h4
  have h9 : gh6 qb = some (gI 2 16 (fun _ => 0)) := by rw [egh6]; exact gset_eq
  have Rk10 := Rk5.new (t := (2, 2, 0)) hnqb (gI 2 16 (fun _ => 0))
  obtain ⟨adk10, eadk10⟩ : ∃ x, x = aup adk5 (2, 2, 0) qb := ⟨_, rfl⟩
  obtain ⟨ctk10, ectk10⟩ : ∃ x, x = cup ctk5 (2, 2, 0) (gI 2 16 (fun _ => 0)) := ⟨_, rfl⟩
  rw [← eadk10, ← ectk10, ← egh6] at Rk10
  have pa0_k10 : adk10 (2, 0, 0) = xa := by rw [eadk10, aup_ne (by simp)]; exact pa0_k5
  have pc0_k10 : ctk10 (2, 0, 0) = some (gO 10 [.null, .null, .null, .null, vi (0), vi (0), vi (0), vi (0)]) := by rw [ectk10, cup_ne (by simp)]; exact pc0_k5
  have pa1_k10 : adk10 (2, 1, 0) = q1 := by rw [eadk10, aup_ne (by simp)]; exact pa1_k5
  have pc1_k10 : ctk10 (2, 1, 0) = some (gO 1 [.null, vi (0), vi (0), vi (0)]) := by rw [ectk10, cup_ne (by simp)]; exact pc1_k5
  have pa2_k10 : adk10 (2, 2, 0) = qb := by rw [eadk10, aup_eq]
  have pc2_k10 : ctk10 (2, 2, 0) = some (gI 2 16 (fun _ => 0)) := by rw [ectk10, cup_eq]
  have frk10 : ∀ t : Tg, (t.1 ≤ 1 ∨ 24 ≤ t.1) → ctk10 t = ct t ∧ adk10 t = ad t := fun t ht => by
    have e0 : t ≠ (2, 2, 0) := fun e => by rw [e] at ht; simp only at ht; omega
    exact ⟨(show ctk10 t = ctk5 t by rw [ectk10, cup_ne e0]).trans (frk5 t ht).1, (show adk10 t = adk5 t by rw [eadk10, aup_ne e0]).trans (frk5 t ht).2⟩
  obtain ⟨gh11, egh11⟩ : ∃ g_, g_ = gset gh6 q1 (gO 1 [.ref qb, vi (0), vi (0), vi (0)]) := ⟨_, rfl⟩
  rw [← egh11]
  have h12 : gh11 xa = some (gO 10 [.null, .null, .null, .null, vi (0), vi (0), vi (0), vi (0)]) := by rw [egh11, gset_ne (gne h7 h8 (by simp))]; exact h7
  have h13 : gh11 qb = some (gI 2 16 (fun _ => 0)) := by rw [egh11, gset_ne (gne h9 h8 (by simp))]; exact h9
  have h14 : gh11 q1 = some (gO 1 [.ref qb, vi (0), vi (0), vi (0)]) := by rw [egh11]; exact gset_eq
  have Rk15 := Rk10.put pc1_k10 (gO 1 [.ref qb, vi (0), vi (0), vi (0)])
  obtain ⟨ctk15, ectk15⟩ : ∃ x, x = cup ctk10 (2, 1, 0) (gO 1 [.ref qb, vi (0), vi (0), vi (0)]) := ⟨_, rfl⟩
  rw [pa1_k10, ← ectk15, ← egh11] at Rk15
  have pa0_k15 := pa0_k10
  have pc0_k15 : ctk15 (2, 0, 0) = some (gO 10 [.null, .null, .null, .null, vi (0), vi (0), vi (0), vi (0)]) := by rw [ectk15, cup_ne (by simp)]; exact pc0_k10
  have pa1_k15 := pa1_k10
  have pc1_k15 : ctk15 (2, 1, 0) = some (gO 1 [.ref qb, vi (0), vi (0), vi (0)]) := by rw [ectk15, cup_eq]
  have pa2_k15 := pa2_k10
  have pc2_k15 : ctk15 (2, 2, 0) = some (gI 2 16 (fun _ => 0)) := by rw [ectk15, cup_ne (by simp)]; exact pc2_k10
  have frk15 : ∀ t : Tg, (t.1 ≤ 1 ∨ 24 ≤ t.1) → ctk15 t = ct t ∧ adk10 t = ad t := fun t ht => by
    have e0 : t ≠ (2, 1, 0) := fun e => by rw [e] at ht; simp only at ht; omega
    exact ⟨(show ctk15 t = ctk10 t by rw [ectk15, cup_ne e0]).trans (frk10 t ht).1, (frk10 t ht).2⟩
  refine gV.eqs (st' := [.ref q1, .ref xa]) rfl rfl rfl ?_
  refine g_putF hC hq (fs' := [.ref q1, .null, .null, .null, vi (0), vi (0), vi (0), vi (0)]) dX6_init_12 gp_RX6_10 h12 ⟨rfl, rfl⟩ rfl (Nat.le_of_ble_eq_true rfl) ?_
  obtain ⟨gh16, egh16⟩ : ∃ g_, g_ = gset gh11 xa (gO 10 [.ref q1, .null, .null, .null, vi (0), vi (0), vi (0), vi (0)]) := ⟨_, rfl⟩
  rw [← egh16]
  have h17 : gh16 qb = some (gI 2 16 (fun _ => 0)) := by rw [egh16, gset_ne (gne h13 h12 (by simp))]; exact h13
  have h18 : gh16 q1 = some (gO 1 [.ref qb, vi (0), vi (0), vi (0)]) := by rw [egh16, gset_ne (gne h14 h12 (by simp))]; exact h14
  have h19 : gh16 xa = some (gO 10 [.ref q1, .null, .null, .null, vi (0), vi (0), vi (0), vi (0)]) := by rw [egh16]; exact gset_eq
  have Rk20 := Rk15.put pc0_k15 (gO 10 [.ref q1, .null, .null, .null, vi (0), vi (0), vi (0), vi (0)])
  obtain ⟨ctk20, ectk20⟩ : ∃ x, x = cup ctk15 (2, 0, 0) (gO 10 [.ref q1, .null, .null, .null, vi (0), vi (0), vi (0), vi (0)]) := ⟨_, rfl⟩
  rw [pa0_k15, ← ectk20, ← egh16] at Rk20
  have pa0_k20 := pa0_k15
  have pc0_k20 : ctk20 (2, 0, 0) = some (gO 10 [.ref q1, .null, .null, .null, vi (0), vi (0), vi (0), vi (0)]) := by rw [ectk20, cup_eq]
  have pa1_k20 := pa1_k15
  have pc1_k20 : ctk20 (2, 1, 0) = some (gO 1 [.ref qb, vi (0), vi (0), vi (0)]) := by rw [ectk20, cup_ne (by simp)]; exact pc1_k15
  have pa2_k20 := pa2_k15
  have pc2_k20 : ctk20 (2, 2, 0) = some (gI 2 16 (fun _ => 0)) := by rw [ectk20, cup_ne (by simp)]; exact pc2_k15
  have frk20 : ∀ t : Tg, (t.1 ≤ 1 ∨ 24 ≤ t.1) → ctk20 t = ct t ∧ adk10 t = ad t := fun t ht => by
    have e0 : t ≠ (2, 0, 0) := fun e => by rw [e] at ht; simp only at ht; omega
    exact ⟨(show ctk20 t = ctk15 t by rw [ectk20, cup_ne e0]).trans (frk15 t ht).1, (frk15 t ht).2⟩
  refine g_ald_n hC dX6_init_15 rfl ?_
  refine g_bipush (z := 14) hC dX6_init_16 rfl ?_
  refine g_newR (n := 14) (kd := 4) hC dX6_init_18 ga_RX6_16.1 ga_RX6_16.2 (by decide) rfl rfl (by decide) (by decide) (by decide) (fun q21 hnq21 => ?_)
  obtain ⟨gh22, egh22⟩ : ∃ g_, g_ = gset gh16 q21 (gR 4 14 (fun _ => none)) := ⟨_, rfl⟩
  rw [← egh22]
  have h23 : gh22 qb = some (gI 2 16 (fun _ => 0)) := by rw [egh22, gset_ne (fun z => by rw [z, hnq21] at h17; cases h17)]; exact h17
  have h24 : gh22 q1 = some (gO 1 [.ref qb, vi (0), vi (0), vi (0)]) := by rw [egh22, gset_ne (fun z => by rw [z, hnq21] at h18; cases h18)]; exact h18
  have h25 : gh22 xa = some (gO 10 [.ref q1, .null, .null, .null, vi (0), vi (0), vi (0), vi (0)]) := by rw [egh22, gset_ne (fun z => by rw [z, hnq21] at h19; cases h19)]; exact h19
  have h26 : gh22 q21 = some (gR 4 14 (fun _ => none)) := by rw [egh22]; exact gset_eq
  have Rk27 := Rk20.new (t := (2, 3, 0)) hnq21 (gR 4 14 (fun _ => none))
  obtain ⟨adk27, eadk27⟩ : ∃ x, x = aup adk10 (2, 3, 0) q21 := ⟨_, rfl⟩
  obtain ⟨ctk27, ectk27⟩ : ∃ x, x = cup ctk20 (2, 3, 0) (gR 4 14 (fun _ => none)) := ⟨_, rfl⟩
  rw [← eadk27, ← ectk27, ← egh22] at Rk27
  have pa0_k27 : adk27 (2, 0, 0) = xa := by rw [eadk27, aup_ne (by simp)]; exact pa0_k20
  have pc0_k27 : ctk27 (2, 0, 0) = some (gO 10 [.ref q1, .null, .null, .null, vi (0), vi (0), vi (0), vi (0)]) := by rw [ectk27, cup_ne (by simp)]; exact pc0_k20
  have pa1_k27 : adk27 (2, 1, 0) = q1 := by rw [eadk27, aup_ne (by simp)]; exact pa1_k20
  have pc1_k27 : ctk27 (2, 1, 0) = some (gO 1 [.ref qb, vi (0), vi (0), vi (0)]) := by rw [ectk27, cup_ne (by simp)]; exact pc1_k20
  have pa2_k27 : adk27 (2, 2, 0) = qb := by rw [eadk27, aup_ne (by simp)]; exact pa2_k20
  have pc2_k27 : ctk27 (2, 2, 0) = some (gI 2 16 (fun _ => 0)) := by rw [ectk27, cup_ne (by simp)]; exact pc2_k20
  have pa3_k27 : adk27 (2, 3, 0) = q21 := by rw [eadk27, aup_eq]
  have pc3_k27 : ctk27 (2, 3, 0) = some (gR 4 14 (fun _ => none)) := by rw [ectk27, cup_eq]
  have frk27 : ∀ t : Tg, (t.1 ≤ 1 ∨ 24 ≤ t.1) → ctk27 t = ct t ∧ adk27 t = ad t := fun t ht => by
    have e0 : t ≠ (2, 3, 0) := fun e => by rw [e] at ht; simp only at ht; omega
    exact ⟨(show ctk27 t = ctk20 t by rw [ectk27, cup_ne e0]).trans (frk20 t ht).1, (show adk27 t = adk10 t by rw [eadk27, aup_ne e0]).trans (frk20 t ht).2⟩
  refine g_putF hC hq (fs' := [.ref q1, .ref q21, .null, .null, vi (0), vi (0), vi (0), vi (0)]) dX6_init_21 gp_RX6_18 h25 ⟨rfl, rfl⟩ rfl (Nat.le_of_ble_eq_true rfl) ?_
  obtain ⟨gh28, egh28⟩ : ∃ g_, g_ = gset gh22 xa (gO 10 [.ref q1, .ref q21, .null, .null, vi (0), vi (0), vi (0), vi (0)]) := ⟨_, rfl⟩
  rw [← egh28]
  have h29 : gh28 qb = some (gI 2 16 (fun _ => 0)) := by rw [egh28, gset_ne (gne h23 h25 (by simp))]; exact h23
  have h30 : gh28 q1 = some (gO 1 [.ref qb, vi (0), vi (0), vi (0)]) := by rw [egh28, gset_ne (gne h24 h25 (by simp))]; exact h24
  have h31 : gh28 q21 = some (gR 4 14 (fun _ => none)) := by rw [egh28, gset_ne (gne h26 h25 (by simp))]; exact h26
  have h32 : gh28 xa = some (gO 10 [.ref q1, .ref q21, .null, .null, vi (0), vi (0), vi (0), vi (0)]) := by rw [egh28]; exact gset_eq
  have Rk33 := Rk27.put pc0_k27 (gO 10 [.ref q1, .ref q21, .null, .null, vi (0), vi (0), vi (0), vi (0)])
  obtain ⟨ctk33, ectk33⟩ : ∃ x, x = cup ctk27 (2, 0, 0) (gO 10 [.ref q1, .ref q21, .null, .null, vi (0), vi (0), vi (0), vi (0)]) := ⟨_, rfl⟩
  rw [pa0_k27, ← ectk33, ← egh28] at Rk33
  have pa0_k33 := pa0_k27
  have pc0_k33 : ctk33 (2, 0, 0) = some (gO 10 [.ref q1, .ref q21, .null, .null, vi (0), vi (0), vi (0), vi (0)]) := by rw [ectk33, cup_eq]
  have pa1_k33 := pa1_k27
  have pc1_k33 : ctk33 (2, 1, 0) = some (gO 1 [.ref qb, vi (0), vi (0), vi (0)]) := by rw [ectk33, cup_ne (by simp)]; exact pc1_k27
  have pa2_k33 := pa2_k27
  have pc2_k33 : ctk33 (2, 2, 0) = some (gI 2 16 (fun _ => 0)) := by rw [ectk33, cup_ne (by simp)]; exact pc2_k27
  have pa3_k33 := pa3_k27
  have pc3_k33 : ctk33 (2, 3, 0) = some (gR 4 14 (fun _ => none)) := by rw [ectk33, cup_ne (by simp)]; exact pc3_k27
  have frk33 : ∀ t : Tg, (t.1 ≤ 1 ∨ 24 ≤ t.1) → ctk33 t = ct t ∧ adk27 t = ad t := fun t ht => by
    have e0 : t ≠ (2, 0, 0) := fun e => by rw [e] at ht; simp only at ht; omega
    exact ⟨(show ctk33 t = ctk27 t by rw [ectk33, cup_ne e0]).trans (frk27 t ht).1, (frk27 t ht).2⟩
  refine g_ald_n hC dX6_init_24 rfl ?_
  refine g_iconst hC dX6_init_25 rfl ?_
  refine g_newR (n := 4) (kd := 5) hC dX6_init_26 ga_RX6_22.1 ga_RX6_22.2 (by decide) rfl rfl (by decide) (by decide) (by decide) (fun q34 hnq34 => ?_)
  obtain ⟨gh35, egh35⟩ : ∃ g_, g_ = gset gh28 q34 (gR 5 4 (fun _ => none)) := ⟨_, rfl⟩
  rw [← egh35]
  have h36 : gh35 qb = some (gI 2 16 (fun _ => 0)) := by rw [egh35, gset_ne (fun z => by rw [z, hnq34] at h29; cases h29)]; exact h29
  have h37 : gh35 q1 = some (gO 1 [.ref qb, vi (0), vi (0), vi (0)]) := by rw [egh35, gset_ne (fun z => by rw [z, hnq34] at h30; cases h30)]; exact h30
  have h38 : gh35 q21 = some (gR 4 14 (fun _ => none)) := by rw [egh35, gset_ne (fun z => by rw [z, hnq34] at h31; cases h31)]; exact h31
  have h39 : gh35 xa = some (gO 10 [.ref q1, .ref q21, .null, .null, vi (0), vi (0), vi (0), vi (0)]) := by rw [egh35, gset_ne (fun z => by rw [z, hnq34] at h32; cases h32)]; exact h32
  have h40 : gh35 q34 = some (gR 5 4 (fun _ => none)) := by rw [egh35]; exact gset_eq
  have Rk41 := Rk33.new (t := (2, 4, 0)) hnq34 (gR 5 4 (fun _ => none))
  obtain ⟨adk41, eadk41⟩ : ∃ x, x = aup adk27 (2, 4, 0) q34 := ⟨_, rfl⟩
  obtain ⟨ctk41, ectk41⟩ : ∃ x, x = cup ctk33 (2, 4, 0) (gR 5 4 (fun _ => none)) := ⟨_, rfl⟩
  rw [← eadk41, ← ectk41, ← egh35] at Rk41
  have pa0_k41 : adk41 (2, 0, 0) = xa := by rw [eadk41, aup_ne (by simp)]; exact pa0_k33
  have pc0_k41 : ctk41 (2, 0, 0) = some (gO 10 [.ref q1, .ref q21, .null, .null, vi (0), vi (0), vi (0), vi (0)]) := by rw [ectk41, cup_ne (by simp)]; exact pc0_k33
  have pa1_k41 : adk41 (2, 1, 0) = q1 := by rw [eadk41, aup_ne (by simp)]; exact pa1_k33
  have pc1_k41 : ctk41 (2, 1, 0) = some (gO 1 [.ref qb, vi (0), vi (0), vi (0)]) := by rw [ectk41, cup_ne (by simp)]; exact pc1_k33
  have pa2_k41 : adk41 (2, 2, 0) = qb := by rw [eadk41, aup_ne (by simp)]; exact pa2_k33
  have pc2_k41 : ctk41 (2, 2, 0) = some (gI 2 16 (fun _ => 0)) := by rw [ectk41, cup_ne (by simp)]; exact pc2_k33
  have pa3_k41 : adk41 (2, 3, 0) = q21 := by rw [eadk41, aup_ne (by simp)]; exact pa3_k33
  have pc3_k41 : ctk41 (2, 3, 0) = some (gR 4 14 (fun _ => none)) := by rw [ectk41, cup_ne (by simp)]; exact pc3_k33
  have pa4_k41 : adk41 (2, 4, 0) = q34 := by rw [eadk41, aup_eq]
  have pc4_k41 : ctk41 (2, 4, 0) = some (gR 5 4 (fun _ => none)) := by rw [ectk41, cup_eq]
  have frk41 : ∀ t : Tg, (t.1 ≤ 1 ∨ 24 ≤ t.1) → ctk41 t = ct t ∧ adk41 t = ad t := fun t ht => by
    have e0 : t ≠ (2, 4, 0) := fun e => by rw [e] at ht; simp only at ht; omega
    exact ⟨(show ctk41 t = ctk33 t by rw [ectk41, cup_ne e0]).trans (frk33 t ht).1, (show adk41 t = adk27 t by rw [eadk41, aup_ne e0]).trans (frk33 t ht).2⟩
  refine g_putF hC hq (fs' := [.ref q1, .ref q21, .ref q34, .null, vi (0), vi (0), vi (0), vi (0)]) dX6_init_29 gp_RX6_24 h39 ⟨rfl, rfl⟩ rfl (Nat.le_of_ble_eq_true rfl) ?_
  obtain ⟨gh42, egh42⟩ : ∃ g_, g_ = gset gh35 xa (gO 10 [.ref q1, .ref q21, .ref q34, .null, vi (0), vi (0), vi (0), vi (0)]) := ⟨_, rfl⟩
  rw [← egh42]
  have h43 : gh42 qb = some (gI 2 16 (fun _ => 0)) := by rw [egh42, gset_ne (gne h36 h39 (by simp))]; exact h36
  have h44 : gh42 q1 = some (gO 1 [.ref qb, vi (0), vi (0), vi (0)]) := by rw [egh42, gset_ne (gne h37 h39 (by simp))]; exact h37
  have h45 : gh42 q21 = some (gR 4 14 (fun _ => none)) := by rw [egh42, gset_ne (gne h38 h39 (by simp))]; exact h38
  have h46 : gh42 q34 = some (gR 5 4 (fun _ => none)) := by rw [egh42, gset_ne (gne h40 h39 (by simp))]; exact h40
  have h47 : gh42 xa = some (gO 10 [.ref q1, .ref q21, .ref q34, .null, vi (0), vi (0), vi (0), vi (0)]) := by rw [egh42]; exact gset_eq
  have Rk48 := Rk41.put pc0_k41 (gO 10 [.ref q1, .ref q21, .ref q34, .null, vi (0), vi (0), vi (0), vi (0)])
  obtain ⟨ctk48, ectk48⟩ : ∃ x, x = cup ctk41 (2, 0, 0) (gO 10 [.ref q1, .ref q21, .ref q34, .null, vi (0), vi (0), vi (0), vi (0)]) := ⟨_, rfl⟩
  rw [pa0_k41, ← ectk48, ← egh42] at Rk48
  have pa0_k48 := pa0_k41
  have pc0_k48 : ctk48 (2, 0, 0) = some (gO 10 [.ref q1, .ref q21, .ref q34, .null, vi (0), vi (0), vi (0), vi (0)]) := by rw [ectk48, cup_eq]
  have pa1_k48 := pa1_k41
  have pc1_k48 : ctk48 (2, 1, 0) = some (gO 1 [.ref qb, vi (0), vi (0), vi (0)]) := by rw [ectk48, cup_ne (by simp)]; exact pc1_k41
  have pa2_k48 := pa2_k41
  have pc2_k48 : ctk48 (2, 2, 0) = some (gI 2 16 (fun _ => 0)) := by rw [ectk48, cup_ne (by simp)]; exact pc2_k41
  have pa3_k48 := pa3_k41
  have pc3_k48 : ctk48 (2, 3, 0) = some (gR 4 14 (fun _ => none)) := by rw [ectk48, cup_ne (by simp)]; exact pc3_k41
  have pa4_k48 := pa4_k41
  have pc4_k48 : ctk48 (2, 4, 0) = some (gR 5 4 (fun _ => none)) := by rw [ectk48, cup_ne (by simp)]; exact pc4_k41
  have frk48 : ∀ t : Tg, (t.1 ≤ 1 ∨ 24 ≤ t.1) → ctk48 t = ct t ∧ adk41 t = ad t := fun t ht => by
    have e0 : t ≠ (2, 0, 0) := fun e => by rw [e] at ht; simp only at ht; omega
    exact ⟨(show ctk48 t = ctk41 t by rw [ectk48, cup_ne e0]).trans (frk41 t ht).1, (frk41 t ht).2⟩
  refine g_ald_n hC dX6_init_32 rfl ?_
  refine g_iconst hC dX6_init_33 rfl ?_
  refine g_newR (n := 5) (kd := 6) hC dX6_init_34 ga_RX6_28.1 ga_RX6_28.2 (by decide) rfl rfl (by decide) (by decide) (by decide) (fun q49 hnq49 => ?_)
  obtain ⟨gh50, egh50⟩ : ∃ g_, g_ = gset gh42 q49 (gR 6 5 (fun _ => none)) := ⟨_, rfl⟩
  rw [← egh50]
  have h51 : gh50 qb = some (gI 2 16 (fun _ => 0)) := by rw [egh50, gset_ne (fun z => by rw [z, hnq49] at h43; cases h43)]; exact h43
  have h52 : gh50 q1 = some (gO 1 [.ref qb, vi (0), vi (0), vi (0)]) := by rw [egh50, gset_ne (fun z => by rw [z, hnq49] at h44; cases h44)]; exact h44
  have h53 : gh50 q21 = some (gR 4 14 (fun _ => none)) := by rw [egh50, gset_ne (fun z => by rw [z, hnq49] at h45; cases h45)]; exact h45
  have h54 : gh50 q34 = some (gR 5 4 (fun _ => none)) := by rw [egh50, gset_ne (fun z => by rw [z, hnq49] at h46; cases h46)]; exact h46
  have h55 : gh50 xa = some (gO 10 [.ref q1, .ref q21, .ref q34, .null, vi (0), vi (0), vi (0), vi (0)]) := by rw [egh50, gset_ne (fun z => by rw [z, hnq49] at h47; cases h47)]; exact h47
  have h56 : gh50 q49 = some (gR 6 5 (fun _ => none)) := by rw [egh50]; exact gset_eq
  have Rk57 := Rk48.new (t := (2, 5, 0)) hnq49 (gR 6 5 (fun _ => none))
  obtain ⟨adk57, eadk57⟩ : ∃ x, x = aup adk41 (2, 5, 0) q49 := ⟨_, rfl⟩
  obtain ⟨ctk57, ectk57⟩ : ∃ x, x = cup ctk48 (2, 5, 0) (gR 6 5 (fun _ => none)) := ⟨_, rfl⟩
  rw [← eadk57, ← ectk57, ← egh50] at Rk57
  have pa0_k57 : adk57 (2, 0, 0) = xa := by rw [eadk57, aup_ne (by simp)]; exact pa0_k48
  have pc0_k57 : ctk57 (2, 0, 0) = some (gO 10 [.ref q1, .ref q21, .ref q34, .null, vi (0), vi (0), vi (0), vi (0)]) := by rw [ectk57, cup_ne (by simp)]; exact pc0_k48
  have pa1_k57 : adk57 (2, 1, 0) = q1 := by rw [eadk57, aup_ne (by simp)]; exact pa1_k48
  have pc1_k57 : ctk57 (2, 1, 0) = some (gO 1 [.ref qb, vi (0), vi (0), vi (0)]) := by rw [ectk57, cup_ne (by simp)]; exact pc1_k48
  have pa2_k57 : adk57 (2, 2, 0) = qb := by rw [eadk57, aup_ne (by simp)]; exact pa2_k48
  have pc2_k57 : ctk57 (2, 2, 0) = some (gI 2 16 (fun _ => 0)) := by rw [ectk57, cup_ne (by simp)]; exact pc2_k48
  have pa3_k57 : adk57 (2, 3, 0) = q21 := by rw [eadk57, aup_ne (by simp)]; exact pa3_k48
  have pc3_k57 : ctk57 (2, 3, 0) = some (gR 4 14 (fun _ => none)) := by rw [ectk57, cup_ne (by simp)]; exact pc3_k48
  have pa4_k57 : adk57 (2, 4, 0) = q34 := by rw [eadk57, aup_ne (by simp)]; exact pa4_k48
  have pc4_k57 : ctk57 (2, 4, 0) = some (gR 5 4 (fun _ => none)) := by rw [ectk57, cup_ne (by simp)]; exact pc4_k48
  have pa5_k57 : adk57 (2, 5, 0) = q49 := by rw [eadk57, aup_eq]
  have pc5_k57 : ctk57 (2, 5, 0) = some (gR 6 5 (fun _ => none)) := by rw [ectk57, cup_eq]
  have frk57 : ∀ t : Tg, (t.1 ≤ 1 ∨ 24 ≤ t.1) → ctk57 t = ct t ∧ adk57 t = ad t := fun t ht => by
    have e0 : t ≠ (2, 5, 0) := fun e => by rw [e] at ht; simp only at ht; omega
    exact ⟨(show ctk57 t = ctk48 t by rw [ectk57, cup_ne e0]).trans (frk48 t ht).1, (show adk57 t = adk41 t by rw [eadk57, aup_ne e0]).trans (frk48 t ht).2⟩
  refine g_putF hC hq (fs' := [.ref q1, .ref q21, .ref q34, .ref q49, vi (0), vi (0), vi (0), vi (0)]) dX6_init_37 gp_RX6_30 h55 ⟨rfl, rfl⟩ rfl (Nat.le_of_ble_eq_true rfl) ?_
  obtain ⟨gh58, egh58⟩ : ∃ g_, g_ = gset gh50 xa (gO 10 [.ref q1, .ref q21, .ref q34, .ref q49, vi (0), vi (0), vi (0), vi (0)]) := ⟨_, rfl⟩
  rw [← egh58]
  have h59 : gh58 qb = some (gI 2 16 (fun _ => 0)) := by rw [egh58, gset_ne (gne h51 h55 (by simp))]; exact h51
  have h60 : gh58 q1 = some (gO 1 [.ref qb, vi (0), vi (0), vi (0)]) := by rw [egh58, gset_ne (gne h52 h55 (by simp))]; exact h52
  have h61 : gh58 q21 = some (gR 4 14 (fun _ => none)) := by rw [egh58, gset_ne (gne h53 h55 (by simp))]; exact h53
  have h62 : gh58 q34 = some (gR 5 4 (fun _ => none)) := by rw [egh58, gset_ne (gne h54 h55 (by simp))]; exact h54
  have h63 : gh58 q49 = some (gR 6 5 (fun _ => none)) := by rw [egh58, gset_ne (gne h56 h55 (by simp))]; exact h56
  have h64 : gh58 xa = some (gO 10 [.ref q1, .ref q21, .ref q34, .ref q49, vi (0), vi (0), vi (0), vi (0)]) := by rw [egh58]; exact gset_eq
  have Rk65 := Rk57.put pc0_k57 (gO 10 [.ref q1, .ref q21, .ref q34, .ref q49, vi (0), vi (0), vi (0), vi (0)])
  obtain ⟨ctk65, ectk65⟩ : ∃ x, x = cup ctk57 (2, 0, 0) (gO 10 [.ref q1, .ref q21, .ref q34, .ref q49, vi (0), vi (0), vi (0), vi (0)]) := ⟨_, rfl⟩
  rw [pa0_k57, ← ectk65, ← egh58] at Rk65
  have pa0_k65 := pa0_k57
  have pc0_k65 : ctk65 (2, 0, 0) = some (gO 10 [.ref q1, .ref q21, .ref q34, .ref q49, vi (0), vi (0), vi (0), vi (0)]) := by rw [ectk65, cup_eq]
  have pa1_k65 := pa1_k57
  have pc1_k65 : ctk65 (2, 1, 0) = some (gO 1 [.ref qb, vi (0), vi (0), vi (0)]) := by rw [ectk65, cup_ne (by simp)]; exact pc1_k57
  have pa2_k65 := pa2_k57
  have pc2_k65 : ctk65 (2, 2, 0) = some (gI 2 16 (fun _ => 0)) := by rw [ectk65, cup_ne (by simp)]; exact pc2_k57
  have pa3_k65 := pa3_k57
  have pc3_k65 : ctk65 (2, 3, 0) = some (gR 4 14 (fun _ => none)) := by rw [ectk65, cup_ne (by simp)]; exact pc3_k57
  have pa4_k65 := pa4_k57
  have pc4_k65 : ctk65 (2, 4, 0) = some (gR 5 4 (fun _ => none)) := by rw [ectk65, cup_ne (by simp)]; exact pc4_k57
  have pa5_k65 := pa5_k57
  have pc5_k65 : ctk65 (2, 5, 0) = some (gR 6 5 (fun _ => none)) := by rw [ectk65, cup_ne (by simp)]; exact pc5_k57
  have frk65 : ∀ t : Tg, (t.1 ≤ 1 ∨ 24 ≤ t.1) → ctk65 t = ct t ∧ adk57 t = ad t := fun t ht => by
    have e0 : t ≠ (2, 0, 0) := fun e => by rw [e] at ht; simp only at ht; omega
    exact ⟨(show ctk65 t = ctk57 t by rw [ectk65, cup_ne e0]).trans (frk57 t ht).1, (frk57 t ht).2⟩
  refine g_ald_n hC dX6_init_40 rfl ?_
  refine g_iconst hC dX6_init_41 rfl ?_
  refine g_put hC (fs' := [.ref q1, .ref q21, .ref q34, .ref q49, vi (0), vi (0), vi (0), vi (0)]) dX6_init_42 gp_RX6_34 h64 ⟨rfl, rfl⟩ rfl (Nat.le_of_ble_eq_true rfl) ?_
  obtain ⟨gh66, egh66⟩ : ∃ g_, g_ = gset gh58 xa (gO 10 [.ref q1, .ref q21, .ref q34, .ref q49, vi (0), vi (0), vi (0), vi (0)]) := ⟨_, rfl⟩
  rw [← egh66]
  have h67 : gh66 qb = some (gI 2 16 (fun _ => 0)) := by rw [egh66, gset_ne (gne h59 h64 (by simp))]; exact h59
  have h68 : gh66 q1 = some (gO 1 [.ref qb, vi (0), vi (0), vi (0)]) := by rw [egh66, gset_ne (gne h60 h64 (by simp))]; exact h60
  have h69 : gh66 q21 = some (gR 4 14 (fun _ => none)) := by rw [egh66, gset_ne (gne h61 h64 (by simp))]; exact h61
  have h70 : gh66 q34 = some (gR 5 4 (fun _ => none)) := by rw [egh66, gset_ne (gne h62 h64 (by simp))]; exact h62
  have h71 : gh66 q49 = some (gR 6 5 (fun _ => none)) := by rw [egh66, gset_ne (gne h63 h64 (by simp))]; exact h63
  have h72 : gh66 xa = some (gO 10 [.ref q1, .ref q21, .ref q34, .ref q49, vi (0), vi (0), vi (0), vi (0)]) := by rw [egh66]; exact gset_eq
  have Rk73 := Rk65.put pc0_k65 (gO 10 [.ref q1, .ref q21, .ref q34, .ref q49, vi (0), vi (0), vi (0), vi (0)])
  obtain ⟨ctk73, ectk73⟩ : ∃ x, x = cup ctk65 (2, 0, 0) (gO 10 [.ref q1, .ref q21, .ref q34, .ref q49, vi (0), vi (0), vi (0), vi (0)]) := ⟨_, rfl⟩
  rw [pa0_k65, ← ectk73, ← egh66] at Rk73
  have pa0_k73 := pa0_k65
  have pc0_k73 : ctk73 (2, 0, 0) = some (gO 10 [.ref q1, .ref q21, .ref q34, .ref q49, vi (0), vi (0), vi (0), vi (0)]) := by rw [ectk73, cup_eq]
  have pa1_k73 := pa1_k65
  have pc1_k73 : ctk73 (2, 1, 0) = some (gO 1 [.ref qb, vi (0), vi (0), vi (0)]) := by rw [ectk73, cup_ne (by simp)]; exact pc1_k65
  have pa2_k73 := pa2_k65
  have pc2_k73 : ctk73 (2, 2, 0) = some (gI 2 16 (fun _ => 0)) := by rw [ectk73, cup_ne (by simp)]; exact pc2_k65
  have pa3_k73 := pa3_k65
  have pc3_k73 : ctk73 (2, 3, 0) = some (gR 4 14 (fun _ => none)) := by rw [ectk73, cup_ne (by simp)]; exact pc3_k65
  have pa4_k73 := pa4_k65
  have pc4_k73 : ctk73 (2, 4, 0) = some (gR 5 4 (fun _ => none)) := by rw [ectk73, cup_ne (by simp)]; exact pc4_k65
  have pa5_k73 := pa5_k65
  have pc5_k73 : ctk73 (2, 5, 0) = some (gR 6 5 (fun _ => none)) := by rw [ectk73, cup_ne (by simp)]; exact pc5_k65
  have frk73 : ∀ t : Tg, (t.1 ≤ 1 ∨ 24 ≤ t.1) → ctk73 t = ct t ∧ adk57 t = ad t := fun t ht => by
    have e0 : t ≠ (2, 0, 0) := fun e => by rw [e] at ht; simp only at ht; omega
    exact ⟨(show ctk73 t = ctk65 t by rw [ectk73, cup_ne e0]).trans (frk65 t ht).1, (frk65 t ht).2⟩
  refine g_ald_n hC dX6_init_45 rfl ?_
  refine g_iconst hC dX6_init_46 rfl ?_
  refine g_put hC (fs' := [.ref q1, .ref q21, .ref q34, .ref q49, vi (0), vi (0), vi (0), vi (0)]) dX6_init_47 gp_RX6_38 h72 ⟨rfl, rfl⟩ rfl (Nat.le_of_ble_eq_true rfl) ?_
  obtain ⟨gh74, egh74⟩ : ∃ g_, g_ = gset gh66 xa (gO 10 [.ref q1, .ref q21, .ref q34, .ref q49, vi (0), vi (0), vi (0), vi (0)]) := ⟨_, rfl⟩
  rw [← egh74]
  have h75 : gh74 qb = some (gI 2 16 (fun _ => 0)) := by rw [egh74, gset_ne (gne h67 h72 (by simp))]; exact h67
  have h76 : gh74 q1 = some (gO 1 [.ref qb, vi (0), vi (0), vi (0)]) := by rw [egh74, gset_ne (gne h68 h72 (by simp))]; exact h68
  have h77 : gh74 q21 = some (gR 4 14 (fun _ => none)) := by rw [egh74, gset_ne (gne h69 h72 (by simp))]; exact h69
  have h78 : gh74 q34 = some (gR 5 4 (fun _ => none)) := by rw [egh74, gset_ne (gne h70 h72 (by simp))]; exact h70
  have h79 : gh74 q49 = some (gR 6 5 (fun _ => none)) := by rw [egh74, gset_ne (gne h71 h72 (by simp))]; exact h71
  have h80 : gh74 xa = some (gO 10 [.ref q1, .ref q21, .ref q34, .ref q49, vi (0), vi (0), vi (0), vi (0)]) := by rw [egh74]; exact gset_eq
  have Rk81 := Rk73.put pc0_k73 (gO 10 [.ref q1, .ref q21, .ref q34, .ref q49, vi (0), vi (0), vi (0), vi (0)])
  obtain ⟨ctk81, ectk81⟩ : ∃ x, x = cup ctk73 (2, 0, 0) (gO 10 [.ref q1, .ref q21, .ref q34, .ref q49, vi (0), vi (0), vi (0), vi (0)]) := ⟨_, rfl⟩
  rw [pa0_k73, ← ectk81, ← egh74] at Rk81
  have pa0_k81 := pa0_k73
  have pc0_k81 : ctk81 (2, 0, 0) = some (gO 10 [.ref q1, .ref q21, .ref q34, .ref q49, vi (0), vi (0), vi (0), vi (0)]) := by rw [ectk81, cup_eq]
  have pa1_k81 := pa1_k73
  have pc1_k81 : ctk81 (2, 1, 0) = some (gO 1 [.ref qb, vi (0), vi (0), vi (0)]) := by rw [ectk81, cup_ne (by simp)]; exact pc1_k73
  have pa2_k81 := pa2_k73
  have pc2_k81 : ctk81 (2, 2, 0) = some (gI 2 16 (fun _ => 0)) := by rw [ectk81, cup_ne (by simp)]; exact pc2_k73
  have pa3_k81 := pa3_k73
  have pc3_k81 : ctk81 (2, 3, 0) = some (gR 4 14 (fun _ => none)) := by rw [ectk81, cup_ne (by simp)]; exact pc3_k73
  have pa4_k81 := pa4_k73
  have pc4_k81 : ctk81 (2, 4, 0) = some (gR 5 4 (fun _ => none)) := by rw [ectk81, cup_ne (by simp)]; exact pc4_k73
  have pa5_k81 := pa5_k73
  have pc5_k81 : ctk81 (2, 5, 0) = some (gR 6 5 (fun _ => none)) := by rw [ectk81, cup_ne (by simp)]; exact pc5_k73
  have frk81 : ∀ t : Tg, (t.1 ≤ 1 ∨ 24 ≤ t.1) → ctk81 t = ct t ∧ adk57 t = ad t := fun t ht => by
    have e0 : t ≠ (2, 0, 0) := fun e => by rw [e] at ht; simp only at ht; omega
    exact ⟨(show ctk81 t = ctk73 t by rw [ectk81, cup_ne e0]).trans (frk73 t ht).1, (frk73 t ht).2⟩
  refine g_ald_n hC dX6_init_50 rfl ?_
  refine g_iconst hC dX6_init_51 rfl ?_
  refine g_put hC (fs' := [.ref q1, .ref q21, .ref q34, .ref q49, vi (0), vi (0), vi (0), vi (0)]) dX6_init_52 gp_RX6_41 h80 ⟨rfl, rfl⟩ rfl (Nat.le_of_ble_eq_true rfl) ?_
  obtain ⟨gh82, egh82⟩ : ∃ g_, g_ = gset gh74 xa (gO 10 [.ref q1, .ref q21, .ref q34, .ref q49, vi (0), vi (0), vi (0), vi (0)]) := ⟨_, rfl⟩
  rw [← egh82]
  have h83 : gh82 qb = some (gI 2 16 (fun _ => 0)) := by rw [egh82, gset_ne (gne h75 h80 (by simp))]; exact h75
  have h84 : gh82 q1 = some (gO 1 [.ref qb, vi (0), vi (0), vi (0)]) := by rw [egh82, gset_ne (gne h76 h80 (by simp))]; exact h76
  have h85 : gh82 q21 = some (gR 4 14 (fun _ => none)) := by rw [egh82, gset_ne (gne h77 h80 (by simp))]; exact h77
  have h86 : gh82 q34 = some (gR 5 4 (fun _ => none)) := by rw [egh82, gset_ne (gne h78 h80 (by simp))]; exact h78
  have h87 : gh82 q49 = some (gR 6 5 (fun _ => none)) := by rw [egh82, gset_ne (gne h79 h80 (by simp))]; exact h79
  have h88 : gh82 xa = some (gO 10 [.ref q1, .ref q21, .ref q34, .ref q49, vi (0), vi (0), vi (0), vi (0)]) := by rw [egh82]; exact gset_eq
  have Rk89 := Rk81.put pc0_k81 (gO 10 [.ref q1, .ref q21, .ref q34, .ref q49, vi (0), vi (0), vi (0), vi (0)])
  obtain ⟨ctk89, ectk89⟩ : ∃ x, x = cup ctk81 (2, 0, 0) (gO 10 [.ref q1, .ref q21, .ref q34, .ref q49, vi (0), vi (0), vi (0), vi (0)]) := ⟨_, rfl⟩
  rw [pa0_k81, ← ectk89, ← egh82] at Rk89
  have pa0_k89 := pa0_k81
  have pc0_k89 : ctk89 (2, 0, 0) = some (gO 10 [.ref q1, .ref q21, .ref q34, .ref q49, vi (0), vi (0), vi (0), vi (0)]) := by rw [ectk89, cup_eq]
  have pa1_k89 := pa1_k81
  have pc1_k89 : ctk89 (2, 1, 0) = some (gO 1 [.ref qb, vi (0), vi (0), vi (0)]) := by rw [ectk89, cup_ne (by simp)]; exact pc1_k81
  have pa2_k89 := pa2_k81
  have pc2_k89 : ctk89 (2, 2, 0) = some (gI 2 16 (fun _ => 0)) := by rw [ectk89, cup_ne (by simp)]; exact pc2_k81
  have pa3_k89 := pa3_k81
  have pc3_k89 : ctk89 (2, 3, 0) = some (gR 4 14 (fun _ => none)) := by rw [ectk89, cup_ne (by simp)]; exact pc3_k81
  have pa4_k89 := pa4_k81
  have pc4_k89 : ctk89 (2, 4, 0) = some (gR 5 4 (fun _ => none)) := by rw [ectk89, cup_ne (by simp)]; exact pc4_k81
  have pa5_k89 := pa5_k81
  have pc5_k89 : ctk89 (2, 5, 0) = some (gR 6 5 (fun _ => none)) := by rw [ectk89, cup_ne (by simp)]; exact pc5_k81
  have frk89 : ∀ t : Tg, (t.1 ≤ 1 ∨ 24 ≤ t.1) → ctk89 t = ct t ∧ adk57 t = ad t := fun t ht => by
    have e0 : t ≠ (2, 0, 0) := fun e => by rw [e] at ht; simp only at ht; omega
    exact ⟨(show ctk89 t = ctk81 t by rw [ectk89, cup_ne e0]).trans (frk81 t ht).1, (frk81 t ht).2⟩
  refine g_ald_n hC dX6_init_55 rfl ?_
  refine g_iconst hC dX6_init_56 rfl ?_
  refine g_put hC (fs' := [.ref q1, .ref q21, .ref q34, .ref q49, vi (0), vi (0), vi (0), vi (0)]) dX6_init_57 gp_RX6_44 h88 ⟨rfl, rfl⟩ rfl (Nat.le_of_ble_eq_true rfl) ?_
  obtain ⟨gh90, egh90⟩ : ∃ g_, g_ = gset gh82 xa (gO 10 [.ref q1, .ref q21, .ref q34, .ref q49, vi (0), vi (0), vi (0), vi (0)]) := ⟨_, rfl⟩
  rw [← egh90]
  have h91 : gh90 qb = some (gI 2 16 (fun _ => 0)) := by rw [egh90, gset_ne (gne h83 h88 (by simp))]; exact h83
  have h92 : gh90 q1 = some (gO 1 [.ref qb, vi (0), vi (0), vi (0)]) := by rw [egh90, gset_ne (gne h84 h88 (by simp))]; exact h84
  have h93 : gh90 q21 = some (gR 4 14 (fun _ => none)) := by rw [egh90, gset_ne (gne h85 h88 (by simp))]; exact h85
  have h94 : gh90 q34 = some (gR 5 4 (fun _ => none)) := by rw [egh90, gset_ne (gne h86 h88 (by simp))]; exact h86
  have h95 : gh90 q49 = some (gR 6 5 (fun _ => none)) := by rw [egh90, gset_ne (gne h87 h88 (by simp))]; exact h87
  have h96 : gh90 xa = some (gO 10 [.ref q1, .ref q21, .ref q34, .ref q49, vi (0), vi (0), vi (0), vi (0)]) := by rw [egh90]; exact gset_eq
  have Rk97 := Rk89.put pc0_k89 (gO 10 [.ref q1, .ref q21, .ref q34, .ref q49, vi (0), vi (0), vi (0), vi (0)])
  obtain ⟨ctk97, ectk97⟩ : ∃ x, x = cup ctk89 (2, 0, 0) (gO 10 [.ref q1, .ref q21, .ref q34, .ref q49, vi (0), vi (0), vi (0), vi (0)]) := ⟨_, rfl⟩
  rw [pa0_k89, ← ectk97, ← egh90] at Rk97
  have pa0_k97 := pa0_k89
  have pc0_k97 : ctk97 (2, 0, 0) = some (gO 10 [.ref q1, .ref q21, .ref q34, .ref q49, vi (0), vi (0), vi (0), vi (0)]) := by rw [ectk97, cup_eq]
  have pa1_k97 := pa1_k89
  have pc1_k97 : ctk97 (2, 1, 0) = some (gO 1 [.ref qb, vi (0), vi (0), vi (0)]) := by rw [ectk97, cup_ne (by simp)]; exact pc1_k89
  have pa2_k97 := pa2_k89
  have pc2_k97 : ctk97 (2, 2, 0) = some (gI 2 16 (fun _ => 0)) := by rw [ectk97, cup_ne (by simp)]; exact pc2_k89
  have pa3_k97 := pa3_k89
  have pc3_k97 : ctk97 (2, 3, 0) = some (gR 4 14 (fun _ => none)) := by rw [ectk97, cup_ne (by simp)]; exact pc3_k89
  have pa4_k97 := pa4_k89
  have pc4_k97 : ctk97 (2, 4, 0) = some (gR 5 4 (fun _ => none)) := by rw [ectk97, cup_ne (by simp)]; exact pc4_k89
  have pa5_k97 := pa5_k89
  have pc5_k97 : ctk97 (2, 5, 0) = some (gR 6 5 (fun _ => none)) := by rw [ectk97, cup_ne (by simp)]; exact pc5_k89
  have frk97 : ∀ t : Tg, (t.1 ≤ 1 ∨ 24 ≤ t.1) → ctk97 t = ct t ∧ adk57 t = ad t := fun t ht => by
    have e0 : t ≠ (2, 0, 0) := fun e => by rw [e] at ht; simp only at ht; omega
    exact ⟨(show ctk97 t = ctk89 t by rw [ectk97, cup_ne e0]).trans (frk89 t ht).1, (frk89 t ht).2⟩
  refine g_vret hC hq dX6_init_60 (by decide) (by decide) ⟨rfl, adk57, ctk97, Rk97, ?_, frk97, by rw [pa0_k97]; exact pa0_0.symm⟩
  refine ⟨?_, ⟨0, fun _ => 0, ?_, ?_, fun t ht => by rw [z1] at ht; omega⟩, ?_, ?_, ?_, fun i hi => by rw [z3] at hi; omega, fun i hi => by rw [z11] at hi; omega, fun i hi => by rw [z22] at hi; omega⟩
  · rw [pc0_k97]; unfold clO; rw [z0, z3, z11, z22, pa1_k97, pa3_k97, pa4_k97, pa5_k97]
  · rw [pc1_k97, z1, pa2_k97]
  · exact pc2_k97
  · rw [pc3_k97, z3]; exact congrArg (fun f => some (gR 4 14 f)) (funext (fun s => (if_neg (by omega)).symm))
  · rw [pc4_k97, z11]; exact congrArg (fun f => some (gR 5 4 f)) (funext (fun s => (if_neg (by omega)).symm))
  · rw [pc5_k97, z22]; exact congrArg (fun f => some (gR 6 5 f)) (funext (fun s => (if_neg (by omega)).symm))

set_option maxHeartbeats 4000000 in
set_option maxRecDepth 100000 in
theorem kX7_init {l : Launch} (hl : l.stackTraces = false) {D : gD} {base : Nat}  {ad : Tg → Nat} {ct : Tg → Option gC} (hx : ct (0, 0, 0) = some (gO 11 [vi (0), vi (0), .null, vi (0), .null, .null, .null, .null, .null, .null, .null, vi (0), .null, .null, .null, .null, .null, .null, .null, .null, vi (0), .null, vi (0), .null, .null, .null, .null, vi (0)])) (gh : gH) (hR : cR ad ct gh) : gM l D base yX7_init cX7_init 1 none 1 12 21 2338 [.ref (ad (0, 0, 0))] gh (fun r gh' => r = none ∧ ∃ ad' ct', cR ad' ct' gh' ∧ MRP ad' (fun _ => 0) (fun _ _ => 0) ct' ∧ (∀ t : Tg, 2 ≤ t.1 → ct' t = ct t ∧ ad' t = ad t) ∧ ad' (0, 0, 0) = ad (0, 0, 0)) gNo := by
  refine gM.of hl (by decide) (by simp [Value.category]) (Nat.le_of_ble_eq_true rfl) [some (.ref (ad (0, 0, 0)))] rfl (fun x hC hq => ?_)
  obtain ⟨xa, pa0_0⟩ : ∃ x, ad (0, 0, 0) = x := ⟨_, rfl⟩
  rw [pa0_0]
  have pc0_0 := hx
  have fr0 : ∀ t : Tg, (2 ≤ t.1) → ct t = ct t ∧ ad t = ad t := fun _ _ => ⟨rfl, rfl⟩
  have h00 : gh xa = some (gO 11 [vi (0), vi (0), .null, vi (0), .null, .null, .null, .null, .null, .null, .null, vi (0), .null, .null, .null, .null, .null, .null, .null, .null, vi (0), .null, vi (0), .null, .null, .null, .null, vi (0)]) := by have h9_ := hR.1 _ _ hx; rw [pa0_0] at h9_; exact h9_
  refine g_ald_n hC dX7_init_0 rfl ?_
  refine g_objInit hC dX7_init_1 go_RX7 go_i go_c (by decide) (by decide) ?_
  refine g_ald_n hC dX7_init_4 rfl ?_
  refine g_bipush (z := 8) hC dX7_init_5 rfl ?_
  refine g_newC (n := 8) hC dX7_init_7 ga_char rfl (by decide) (by decide) (by decide) (fun q1 hnq1 => ?_)
  obtain ⟨gh2, egh2⟩ : ∃ g_, g_ = gset gh q1 (gI 0 8 (fun _ => 0)) := ⟨_, rfl⟩
  rw [← egh2]
  have h3 : gh2 xa = some (gO 11 [vi (0), vi (0), .null, vi (0), .null, .null, .null, .null, .null, .null, .null, vi (0), .null, .null, .null, .null, .null, .null, .null, .null, vi (0), .null, vi (0), .null, .null, .null, .null, vi (0)]) := by rw [egh2, gset_ne (fun z => by rw [z, hnq1] at h00; cases h00)]; exact h00
  have h4 : gh2 q1 = some (gI 0 8 (fun _ => 0)) := by rw [egh2]; exact gset_eq
  have Rk5 := hR.new (t := (1, 2, 0)) hnq1 (gI 0 8 (fun _ => 0))
  obtain ⟨adk5, eadk5⟩ : ∃ x, x = aup ad (1, 2, 0) q1 := ⟨_, rfl⟩
  obtain ⟨ctk5, ectk5⟩ : ∃ x, x = cup ct (1, 2, 0) (gI 0 8 (fun _ => 0)) := ⟨_, rfl⟩
  rw [← eadk5, ← ectk5, ← egh2] at Rk5
  have pa0_k5 : adk5 (0, 0, 0) = xa := by rw [eadk5, aup_ne (by simp)]; exact pa0_0
  have pc0_k5 : ctk5 (0, 0, 0) = some (gO 11 [vi (0), vi (0), .null, vi (0), .null, .null, .null, .null, .null, .null, .null, vi (0), .null, .null, .null, .null, .null, .null, .null, .null, vi (0), .null, vi (0), .null, .null, .null, .null, vi (0)]) := by rw [ectk5, cup_ne (by simp)]; exact pc0_0
  have pa1_k5 : adk5 (1, 2, 0) = q1 := by rw [eadk5, aup_eq]
  have pc1_k5 : ctk5 (1, 2, 0) = some (gI 0 8 (fun _ => 0)) := by rw [ectk5, cup_eq]
  have frk5 : ∀ t : Tg, (2 ≤ t.1) → ctk5 t = ct t ∧ adk5 t = ad t := fun t ht => by
    have e0 : t ≠ (1, 2, 0) := fun e => by rw [e] at ht; simp only at ht; omega
    exact ⟨(show ctk5 t = ct t by rw [ectk5, cup_ne e0]).trans (fr0 t ht).1, (show adk5 t = ad t by rw [eadk5, aup_ne e0]).trans (fr0 t ht).2⟩
  refine g_putF hC hq (fs' := [vi (0), vi (0), .ref q1, vi (0), .null, .null, .null, .null, .null, .null, .null, vi (0), .null, .null, .null, .null, .null, .null, .null, .null, vi (0), .null, vi (0), .null, .null, .null, .null, vi (0)]) dX7_init_9 gp_RX7_7 h3 ⟨rfl, rfl⟩ rfl (Nat.le_of_ble_eq_true rfl) ?_
  obtain ⟨gh6, egh6⟩ : ∃ g_, g_ = gset gh2 xa (gO 11 [vi (0), vi (0), .ref q1, vi (0), .null, .null, .null, .null, .null, .null, .null, vi (0), .null, .null, .null, .null, .null, .null, .null, .null, vi (0), .null, vi (0), .null, .null, .null, .null, vi (0)]) := ⟨_, rfl⟩
  rw [← egh6]
  have h7 : gh6 q1 = some (gI 0 8 (fun _ => 0)) := by rw [egh6, gset_ne (gne h4 h3 (by simp))]; exact h4
  have h8 : gh6 xa = some (gO 11 [vi (0), vi (0), .ref q1, vi (0), .null, .null, .null, .null, .null, .null, .null, vi (0), .null, .null, .null, .null, .null, .null, .null, .null, vi (0), .null, vi (0), .null, .null, .null, .null, vi (0)]) := by rw [egh6]; exact gset_eq
  have Rk9 := Rk5.put pc0_k5 (gO 11 [vi (0), vi (0), .ref q1, vi (0), .null, .null, .null, .null, .null, .null, .null, vi (0), .null, .null, .null, .null, .null, .null, .null, .null, vi (0), .null, vi (0), .null, .null, .null, .null, vi (0)])
  obtain ⟨ctk9, ectk9⟩ : ∃ x, x = cup ctk5 (0, 0, 0) (gO 11 [vi (0), vi (0), .ref q1, vi (0), .null, .null, .null, .null, .null, .null, .null, vi (0), .null, .null, .null, .null, .null, .null, .null, .null, vi (0), .null, vi (0), .null, .null, .null, .null, vi (0)]) := ⟨_, rfl⟩
  rw [pa0_k5, ← ectk9, ← egh6] at Rk9
  have pa0_k9 := pa0_k5
  have pc0_k9 : ctk9 (0, 0, 0) = some (gO 11 [vi (0), vi (0), .ref q1, vi (0), .null, .null, .null, .null, .null, .null, .null, vi (0), .null, .null, .null, .null, .null, .null, .null, .null, vi (0), .null, vi (0), .null, .null, .null, .null, vi (0)]) := by rw [ectk9, cup_eq]
  have pa1_k9 := pa1_k5
  have pc1_k9 : ctk9 (1, 2, 0) = some (gI 0 8 (fun _ => 0)) := by rw [ectk9, cup_ne (by simp)]; exact pc1_k5
  have frk9 : ∀ t : Tg, (2 ≤ t.1) → ctk9 t = ct t ∧ adk5 t = ad t := fun t ht => by
    have e0 : t ≠ (0, 0, 0) := fun e => by rw [e] at ht; simp only at ht; omega
    exact ⟨(show ctk9 t = ctk5 t by rw [ectk9, cup_ne e0]).trans (frk5 t ht).1, (frk5 t ht).2⟩
  refine g_ald_n hC dX7_init_12 rfl ?_
  refine g_bipush (z := 14) hC dX7_init_13 rfl ?_
  refine g_newI (n := 14) hC dX7_init_15 ga_int rfl (by decide) (by decide) (by decide) (fun q10 hnq10 => ?_)
  obtain ⟨gh11, egh11⟩ : ∃ g_, g_ = gset gh6 q10 (gI 1 14 (fun _ => 0)) := ⟨_, rfl⟩
  rw [← egh11]
  have h12 : gh11 q1 = some (gI 0 8 (fun _ => 0)) := by rw [egh11, gset_ne (fun z => by rw [z, hnq10] at h7; cases h7)]; exact h7
  have h13 : gh11 xa = some (gO 11 [vi (0), vi (0), .ref q1, vi (0), .null, .null, .null, .null, .null, .null, .null, vi (0), .null, .null, .null, .null, .null, .null, .null, .null, vi (0), .null, vi (0), .null, .null, .null, .null, vi (0)]) := by rw [egh11, gset_ne (fun z => by rw [z, hnq10] at h8; cases h8)]; exact h8
  have h14 : gh11 q10 = some (gI 1 14 (fun _ => 0)) := by rw [egh11]; exact gset_eq
  have Rk15 := Rk9.new (t := (1, 4, 0)) hnq10 (gI 1 14 (fun _ => 0))
  obtain ⟨adk15, eadk15⟩ : ∃ x, x = aup adk5 (1, 4, 0) q10 := ⟨_, rfl⟩
  obtain ⟨ctk15, ectk15⟩ : ∃ x, x = cup ctk9 (1, 4, 0) (gI 1 14 (fun _ => 0)) := ⟨_, rfl⟩
  rw [← eadk15, ← ectk15, ← egh11] at Rk15
  have pa0_k15 : adk15 (0, 0, 0) = xa := by rw [eadk15, aup_ne (by simp)]; exact pa0_k9
  have pc0_k15 : ctk15 (0, 0, 0) = some (gO 11 [vi (0), vi (0), .ref q1, vi (0), .null, .null, .null, .null, .null, .null, .null, vi (0), .null, .null, .null, .null, .null, .null, .null, .null, vi (0), .null, vi (0), .null, .null, .null, .null, vi (0)]) := by rw [ectk15, cup_ne (by simp)]; exact pc0_k9
  have pa1_k15 : adk15 (1, 2, 0) = q1 := by rw [eadk15, aup_ne (by simp)]; exact pa1_k9
  have pc1_k15 : ctk15 (1, 2, 0) = some (gI 0 8 (fun _ => 0)) := by rw [ectk15, cup_ne (by simp)]; exact pc1_k9
  have pa2_k15 : adk15 (1, 4, 0) = q10 := by rw [eadk15, aup_eq]
  have pc2_k15 : ctk15 (1, 4, 0) = some (gI 1 14 (fun _ => 0)) := by rw [ectk15, cup_eq]
  have frk15 : ∀ t : Tg, (2 ≤ t.1) → ctk15 t = ct t ∧ adk15 t = ad t := fun t ht => by
    have e0 : t ≠ (1, 4, 0) := fun e => by rw [e] at ht; simp only at ht; omega
    exact ⟨(show ctk15 t = ctk9 t by rw [ectk15, cup_ne e0]).trans (frk9 t ht).1, (show adk15 t = adk5 t by rw [eadk15, aup_ne e0]).trans (frk9 t ht).2⟩
  refine g_putF hC hq (fs' := [vi (0), vi (0), .ref q1, vi (0), .ref q10, .null, .null, .null, .null, .null, .null, vi (0), .null, .null, .null, .null, .null, .null, .null, .null, vi (0), .null, vi (0), .null, .null, .null, .null, vi (0)]) dX7_init_17 gp_RX7_13 h13 ⟨rfl, rfl⟩ rfl (Nat.le_of_ble_eq_true rfl) ?_
  obtain ⟨gh16, egh16⟩ : ∃ g_, g_ = gset gh11 xa (gO 11 [vi (0), vi (0), .ref q1, vi (0), .ref q10, .null, .null, .null, .null, .null, .null, vi (0), .null, .null, .null, .null, .null, .null, .null, .null, vi (0), .null, vi (0), .null, .null, .null, .null, vi (0)]) := ⟨_, rfl⟩
  rw [← egh16]
  have h17 : gh16 q1 = some (gI 0 8 (fun _ => 0)) := by rw [egh16, gset_ne (gne h12 h13 (by simp))]; exact h12
  have h18 : gh16 q10 = some (gI 1 14 (fun _ => 0)) := by rw [egh16, gset_ne (gne h14 h13 (by simp))]; exact h14
  have h19 : gh16 xa = some (gO 11 [vi (0), vi (0), .ref q1, vi (0), .ref q10, .null, .null, .null, .null, .null, .null, vi (0), .null, .null, .null, .null, .null, .null, .null, .null, vi (0), .null, vi (0), .null, .null, .null, .null, vi (0)]) := by rw [egh16]; exact gset_eq
  have Rk20 := Rk15.put pc0_k15 (gO 11 [vi (0), vi (0), .ref q1, vi (0), .ref q10, .null, .null, .null, .null, .null, .null, vi (0), .null, .null, .null, .null, .null, .null, .null, .null, vi (0), .null, vi (0), .null, .null, .null, .null, vi (0)])
  obtain ⟨ctk20, ectk20⟩ : ∃ x, x = cup ctk15 (0, 0, 0) (gO 11 [vi (0), vi (0), .ref q1, vi (0), .ref q10, .null, .null, .null, .null, .null, .null, vi (0), .null, .null, .null, .null, .null, .null, .null, .null, vi (0), .null, vi (0), .null, .null, .null, .null, vi (0)]) := ⟨_, rfl⟩
  rw [pa0_k15, ← ectk20, ← egh16] at Rk20
  have pa0_k20 := pa0_k15
  have pc0_k20 : ctk20 (0, 0, 0) = some (gO 11 [vi (0), vi (0), .ref q1, vi (0), .ref q10, .null, .null, .null, .null, .null, .null, vi (0), .null, .null, .null, .null, .null, .null, .null, .null, vi (0), .null, vi (0), .null, .null, .null, .null, vi (0)]) := by rw [ectk20, cup_eq]
  have pa1_k20 := pa1_k15
  have pc1_k20 : ctk20 (1, 2, 0) = some (gI 0 8 (fun _ => 0)) := by rw [ectk20, cup_ne (by simp)]; exact pc1_k15
  have pa2_k20 := pa2_k15
  have pc2_k20 : ctk20 (1, 4, 0) = some (gI 1 14 (fun _ => 0)) := by rw [ectk20, cup_ne (by simp)]; exact pc2_k15
  have frk20 : ∀ t : Tg, (2 ≤ t.1) → ctk20 t = ct t ∧ adk15 t = ad t := fun t ht => by
    have e0 : t ≠ (0, 0, 0) := fun e => by rw [e] at ht; simp only at ht; omega
    exact ⟨(show ctk20 t = ctk15 t by rw [ectk20, cup_ne e0]).trans (frk15 t ht).1, (frk15 t ht).2⟩
  refine g_ald_n hC dX7_init_20 rfl ?_
  refine g_bipush (z := 14) hC dX7_init_21 rfl ?_
  refine g_newI (n := 14) hC dX7_init_23 ga_int rfl (by decide) (by decide) (by decide) (fun q21 hnq21 => ?_)
  obtain ⟨gh22, egh22⟩ : ∃ g_, g_ = gset gh16 q21 (gI 1 14 (fun _ => 0)) := ⟨_, rfl⟩
  rw [← egh22]
  have h23 : gh22 q1 = some (gI 0 8 (fun _ => 0)) := by rw [egh22, gset_ne (fun z => by rw [z, hnq21] at h17; cases h17)]; exact h17
  have h24 : gh22 q10 = some (gI 1 14 (fun _ => 0)) := by rw [egh22, gset_ne (fun z => by rw [z, hnq21] at h18; cases h18)]; exact h18
  have h25 : gh22 xa = some (gO 11 [vi (0), vi (0), .ref q1, vi (0), .ref q10, .null, .null, .null, .null, .null, .null, vi (0), .null, .null, .null, .null, .null, .null, .null, .null, vi (0), .null, vi (0), .null, .null, .null, .null, vi (0)]) := by rw [egh22, gset_ne (fun z => by rw [z, hnq21] at h19; cases h19)]; exact h19
  have h26 : gh22 q21 = some (gI 1 14 (fun _ => 0)) := by rw [egh22]; exact gset_eq
  have Rk27 := Rk20.new (t := (1, 5, 0)) hnq21 (gI 1 14 (fun _ => 0))
  obtain ⟨adk27, eadk27⟩ : ∃ x, x = aup adk15 (1, 5, 0) q21 := ⟨_, rfl⟩
  obtain ⟨ctk27, ectk27⟩ : ∃ x, x = cup ctk20 (1, 5, 0) (gI 1 14 (fun _ => 0)) := ⟨_, rfl⟩
  rw [← eadk27, ← ectk27, ← egh22] at Rk27
  have pa0_k27 : adk27 (0, 0, 0) = xa := by rw [eadk27, aup_ne (by simp)]; exact pa0_k20
  have pc0_k27 : ctk27 (0, 0, 0) = some (gO 11 [vi (0), vi (0), .ref q1, vi (0), .ref q10, .null, .null, .null, .null, .null, .null, vi (0), .null, .null, .null, .null, .null, .null, .null, .null, vi (0), .null, vi (0), .null, .null, .null, .null, vi (0)]) := by rw [ectk27, cup_ne (by simp)]; exact pc0_k20
  have pa1_k27 : adk27 (1, 2, 0) = q1 := by rw [eadk27, aup_ne (by simp)]; exact pa1_k20
  have pc1_k27 : ctk27 (1, 2, 0) = some (gI 0 8 (fun _ => 0)) := by rw [ectk27, cup_ne (by simp)]; exact pc1_k20
  have pa2_k27 : adk27 (1, 4, 0) = q10 := by rw [eadk27, aup_ne (by simp)]; exact pa2_k20
  have pc2_k27 : ctk27 (1, 4, 0) = some (gI 1 14 (fun _ => 0)) := by rw [ectk27, cup_ne (by simp)]; exact pc2_k20
  have pa3_k27 : adk27 (1, 5, 0) = q21 := by rw [eadk27, aup_eq]
  have pc3_k27 : ctk27 (1, 5, 0) = some (gI 1 14 (fun _ => 0)) := by rw [ectk27, cup_eq]
  have frk27 : ∀ t : Tg, (2 ≤ t.1) → ctk27 t = ct t ∧ adk27 t = ad t := fun t ht => by
    have e0 : t ≠ (1, 5, 0) := fun e => by rw [e] at ht; simp only at ht; omega
    exact ⟨(show ctk27 t = ctk20 t by rw [ectk27, cup_ne e0]).trans (frk20 t ht).1, (show adk27 t = adk15 t by rw [eadk27, aup_ne e0]).trans (frk20 t ht).2⟩
  refine g_putF hC hq (fs' := [vi (0), vi (0), .ref q1, vi (0), .ref q10, .ref q21, .null, .null, .null, .null, .null, vi (0), .null, .null, .null, .null, .null, .null, .null, .null, vi (0), .null, vi (0), .null, .null, .null, .null, vi (0)]) dX7_init_25 gp_RX7_17 h25 ⟨rfl, rfl⟩ rfl (Nat.le_of_ble_eq_true rfl) ?_
  obtain ⟨gh28, egh28⟩ : ∃ g_, g_ = gset gh22 xa (gO 11 [vi (0), vi (0), .ref q1, vi (0), .ref q10, .ref q21, .null, .null, .null, .null, .null, vi (0), .null, .null, .null, .null, .null, .null, .null, .null, vi (0), .null, vi (0), .null, .null, .null, .null, vi (0)]) := ⟨_, rfl⟩
  rw [← egh28]
  have h29 : gh28 q1 = some (gI 0 8 (fun _ => 0)) := by rw [egh28, gset_ne (gne h23 h25 (by simp))]; exact h23
  have h30 : gh28 q10 = some (gI 1 14 (fun _ => 0)) := by rw [egh28, gset_ne (gne h24 h25 (by simp))]; exact h24
  have h31 : gh28 q21 = some (gI 1 14 (fun _ => 0)) := by rw [egh28, gset_ne (gne h26 h25 (by simp))]; exact h26
  have h32 : gh28 xa = some (gO 11 [vi (0), vi (0), .ref q1, vi (0), .ref q10, .ref q21, .null, .null, .null, .null, .null, vi (0), .null, .null, .null, .null, .null, .null, .null, .null, vi (0), .null, vi (0), .null, .null, .null, .null, vi (0)]) := by rw [egh28]; exact gset_eq
  have Rk33 := Rk27.put pc0_k27 (gO 11 [vi (0), vi (0), .ref q1, vi (0), .ref q10, .ref q21, .null, .null, .null, .null, .null, vi (0), .null, .null, .null, .null, .null, .null, .null, .null, vi (0), .null, vi (0), .null, .null, .null, .null, vi (0)])
  obtain ⟨ctk33, ectk33⟩ : ∃ x, x = cup ctk27 (0, 0, 0) (gO 11 [vi (0), vi (0), .ref q1, vi (0), .ref q10, .ref q21, .null, .null, .null, .null, .null, vi (0), .null, .null, .null, .null, .null, .null, .null, .null, vi (0), .null, vi (0), .null, .null, .null, .null, vi (0)]) := ⟨_, rfl⟩
  rw [pa0_k27, ← ectk33, ← egh28] at Rk33
  have pa0_k33 := pa0_k27
  have pc0_k33 : ctk33 (0, 0, 0) = some (gO 11 [vi (0), vi (0), .ref q1, vi (0), .ref q10, .ref q21, .null, .null, .null, .null, .null, vi (0), .null, .null, .null, .null, .null, .null, .null, .null, vi (0), .null, vi (0), .null, .null, .null, .null, vi (0)]) := by rw [ectk33, cup_eq]
  have pa1_k33 := pa1_k27
  have pc1_k33 : ctk33 (1, 2, 0) = some (gI 0 8 (fun _ => 0)) := by rw [ectk33, cup_ne (by simp)]; exact pc1_k27
  have pa2_k33 := pa2_k27
  have pc2_k33 : ctk33 (1, 4, 0) = some (gI 1 14 (fun _ => 0)) := by rw [ectk33, cup_ne (by simp)]; exact pc2_k27
  have pa3_k33 := pa3_k27
  have pc3_k33 : ctk33 (1, 5, 0) = some (gI 1 14 (fun _ => 0)) := by rw [ectk33, cup_ne (by simp)]; exact pc3_k27
  have frk33 : ∀ t : Tg, (2 ≤ t.1) → ctk33 t = ct t ∧ adk27 t = ad t := fun t ht => by
    have e0 : t ≠ (0, 0, 0) := fun e => by rw [e] at ht; simp only at ht; omega
    exact ⟨(show ctk33 t = ctk27 t by rw [ectk33, cup_ne e0]).trans (frk27 t ht).1, (frk27 t ht).2⟩
  refine g_ald_n hC dX7_init_28 rfl ?_
  refine g_bipush (z := 14) hC dX7_init_29 rfl ?_
  refine g_newI (n := 14) hC dX7_init_31 ga_int rfl (by decide) (by decide) (by decide) (fun q34 hnq34 => ?_)
  obtain ⟨gh35, egh35⟩ : ∃ g_, g_ = gset gh28 q34 (gI 1 14 (fun _ => 0)) := ⟨_, rfl⟩
  rw [← egh35]
  have h36 : gh35 q1 = some (gI 0 8 (fun _ => 0)) := by rw [egh35, gset_ne (fun z => by rw [z, hnq34] at h29; cases h29)]; exact h29
  have h37 : gh35 q10 = some (gI 1 14 (fun _ => 0)) := by rw [egh35, gset_ne (fun z => by rw [z, hnq34] at h30; cases h30)]; exact h30
  have h38 : gh35 q21 = some (gI 1 14 (fun _ => 0)) := by rw [egh35, gset_ne (fun z => by rw [z, hnq34] at h31; cases h31)]; exact h31
  have h39 : gh35 xa = some (gO 11 [vi (0), vi (0), .ref q1, vi (0), .ref q10, .ref q21, .null, .null, .null, .null, .null, vi (0), .null, .null, .null, .null, .null, .null, .null, .null, vi (0), .null, vi (0), .null, .null, .null, .null, vi (0)]) := by rw [egh35, gset_ne (fun z => by rw [z, hnq34] at h32; cases h32)]; exact h32
  have h40 : gh35 q34 = some (gI 1 14 (fun _ => 0)) := by rw [egh35]; exact gset_eq
  have Rk41 := Rk33.new (t := (1, 6, 0)) hnq34 (gI 1 14 (fun _ => 0))
  obtain ⟨adk41, eadk41⟩ : ∃ x, x = aup adk27 (1, 6, 0) q34 := ⟨_, rfl⟩
  obtain ⟨ctk41, ectk41⟩ : ∃ x, x = cup ctk33 (1, 6, 0) (gI 1 14 (fun _ => 0)) := ⟨_, rfl⟩
  rw [← eadk41, ← ectk41, ← egh35] at Rk41
  have pa0_k41 : adk41 (0, 0, 0) = xa := by rw [eadk41, aup_ne (by simp)]; exact pa0_k33
  have pc0_k41 : ctk41 (0, 0, 0) = some (gO 11 [vi (0), vi (0), .ref q1, vi (0), .ref q10, .ref q21, .null, .null, .null, .null, .null, vi (0), .null, .null, .null, .null, .null, .null, .null, .null, vi (0), .null, vi (0), .null, .null, .null, .null, vi (0)]) := by rw [ectk41, cup_ne (by simp)]; exact pc0_k33
  have pa1_k41 : adk41 (1, 2, 0) = q1 := by rw [eadk41, aup_ne (by simp)]; exact pa1_k33
  have pc1_k41 : ctk41 (1, 2, 0) = some (gI 0 8 (fun _ => 0)) := by rw [ectk41, cup_ne (by simp)]; exact pc1_k33
  have pa2_k41 : adk41 (1, 4, 0) = q10 := by rw [eadk41, aup_ne (by simp)]; exact pa2_k33
  have pc2_k41 : ctk41 (1, 4, 0) = some (gI 1 14 (fun _ => 0)) := by rw [ectk41, cup_ne (by simp)]; exact pc2_k33
  have pa3_k41 : adk41 (1, 5, 0) = q21 := by rw [eadk41, aup_ne (by simp)]; exact pa3_k33
  have pc3_k41 : ctk41 (1, 5, 0) = some (gI 1 14 (fun _ => 0)) := by rw [ectk41, cup_ne (by simp)]; exact pc3_k33
  have pa4_k41 : adk41 (1, 6, 0) = q34 := by rw [eadk41, aup_eq]
  have pc4_k41 : ctk41 (1, 6, 0) = some (gI 1 14 (fun _ => 0)) := by rw [ectk41, cup_eq]
  have frk41 : ∀ t : Tg, (2 ≤ t.1) → ctk41 t = ct t ∧ adk41 t = ad t := fun t ht => by
    have e0 : t ≠ (1, 6, 0) := fun e => by rw [e] at ht; simp only at ht; omega
    exact ⟨(show ctk41 t = ctk33 t by rw [ectk41, cup_ne e0]).trans (frk33 t ht).1, (show adk41 t = adk27 t by rw [eadk41, aup_ne e0]).trans (frk33 t ht).2⟩
  refine g_putF hC hq (fs' := [vi (0), vi (0), .ref q1, vi (0), .ref q10, .ref q21, .ref q34, .null, .null, .null, .null, vi (0), .null, .null, .null, .null, .null, .null, .null, .null, vi (0), .null, vi (0), .null, .null, .null, .null, vi (0)]) dX7_init_33 gp_RX7_20 h39 ⟨rfl, rfl⟩ rfl (Nat.le_of_ble_eq_true rfl) ?_
  obtain ⟨gh42, egh42⟩ : ∃ g_, g_ = gset gh35 xa (gO 11 [vi (0), vi (0), .ref q1, vi (0), .ref q10, .ref q21, .ref q34, .null, .null, .null, .null, vi (0), .null, .null, .null, .null, .null, .null, .null, .null, vi (0), .null, vi (0), .null, .null, .null, .null, vi (0)]) := ⟨_, rfl⟩
  rw [← egh42]
  have h43 : gh42 q1 = some (gI 0 8 (fun _ => 0)) := by rw [egh42, gset_ne (gne h36 h39 (by simp))]; exact h36
  have h44 : gh42 q10 = some (gI 1 14 (fun _ => 0)) := by rw [egh42, gset_ne (gne h37 h39 (by simp))]; exact h37
  have h45 : gh42 q21 = some (gI 1 14 (fun _ => 0)) := by rw [egh42, gset_ne (gne h38 h39 (by simp))]; exact h38
  have h46 : gh42 q34 = some (gI 1 14 (fun _ => 0)) := by rw [egh42, gset_ne (gne h40 h39 (by simp))]; exact h40
  have h47 : gh42 xa = some (gO 11 [vi (0), vi (0), .ref q1, vi (0), .ref q10, .ref q21, .ref q34, .null, .null, .null, .null, vi (0), .null, .null, .null, .null, .null, .null, .null, .null, vi (0), .null, vi (0), .null, .null, .null, .null, vi (0)]) := by rw [egh42]; exact gset_eq
  have Rk48 := Rk41.put pc0_k41 (gO 11 [vi (0), vi (0), .ref q1, vi (0), .ref q10, .ref q21, .ref q34, .null, .null, .null, .null, vi (0), .null, .null, .null, .null, .null, .null, .null, .null, vi (0), .null, vi (0), .null, .null, .null, .null, vi (0)])
  obtain ⟨ctk48, ectk48⟩ : ∃ x, x = cup ctk41 (0, 0, 0) (gO 11 [vi (0), vi (0), .ref q1, vi (0), .ref q10, .ref q21, .ref q34, .null, .null, .null, .null, vi (0), .null, .null, .null, .null, .null, .null, .null, .null, vi (0), .null, vi (0), .null, .null, .null, .null, vi (0)]) := ⟨_, rfl⟩
  rw [pa0_k41, ← ectk48, ← egh42] at Rk48
  have pa0_k48 := pa0_k41
  have pc0_k48 : ctk48 (0, 0, 0) = some (gO 11 [vi (0), vi (0), .ref q1, vi (0), .ref q10, .ref q21, .ref q34, .null, .null, .null, .null, vi (0), .null, .null, .null, .null, .null, .null, .null, .null, vi (0), .null, vi (0), .null, .null, .null, .null, vi (0)]) := by rw [ectk48, cup_eq]
  have pa1_k48 := pa1_k41
  have pc1_k48 : ctk48 (1, 2, 0) = some (gI 0 8 (fun _ => 0)) := by rw [ectk48, cup_ne (by simp)]; exact pc1_k41
  have pa2_k48 := pa2_k41
  have pc2_k48 : ctk48 (1, 4, 0) = some (gI 1 14 (fun _ => 0)) := by rw [ectk48, cup_ne (by simp)]; exact pc2_k41
  have pa3_k48 := pa3_k41
  have pc3_k48 : ctk48 (1, 5, 0) = some (gI 1 14 (fun _ => 0)) := by rw [ectk48, cup_ne (by simp)]; exact pc3_k41
  have pa4_k48 := pa4_k41
  have pc4_k48 : ctk48 (1, 6, 0) = some (gI 1 14 (fun _ => 0)) := by rw [ectk48, cup_ne (by simp)]; exact pc4_k41
  have frk48 : ∀ t : Tg, (2 ≤ t.1) → ctk48 t = ct t ∧ adk41 t = ad t := fun t ht => by
    have e0 : t ≠ (0, 0, 0) := fun e => by rw [e] at ht; simp only at ht; omega
    exact ⟨(show ctk48 t = ctk41 t by rw [ectk48, cup_ne e0]).trans (frk41 t ht).1, (frk41 t ht).2⟩
  refine g_ald_n hC dX7_init_36 rfl ?_
  refine g_bipush (z := 14) hC dX7_init_37 rfl ?_
  refine g_newI (n := 14) hC dX7_init_39 ga_int rfl (by decide) (by decide) (by decide) (fun q49 hnq49 => ?_)
  obtain ⟨gh50, egh50⟩ : ∃ g_, g_ = gset gh42 q49 (gI 1 14 (fun _ => 0)) := ⟨_, rfl⟩
  rw [← egh50]
  have h51 : gh50 q1 = some (gI 0 8 (fun _ => 0)) := by rw [egh50, gset_ne (fun z => by rw [z, hnq49] at h43; cases h43)]; exact h43
  have h52 : gh50 q10 = some (gI 1 14 (fun _ => 0)) := by rw [egh50, gset_ne (fun z => by rw [z, hnq49] at h44; cases h44)]; exact h44
  have h53 : gh50 q21 = some (gI 1 14 (fun _ => 0)) := by rw [egh50, gset_ne (fun z => by rw [z, hnq49] at h45; cases h45)]; exact h45
  have h54 : gh50 q34 = some (gI 1 14 (fun _ => 0)) := by rw [egh50, gset_ne (fun z => by rw [z, hnq49] at h46; cases h46)]; exact h46
  have h55 : gh50 xa = some (gO 11 [vi (0), vi (0), .ref q1, vi (0), .ref q10, .ref q21, .ref q34, .null, .null, .null, .null, vi (0), .null, .null, .null, .null, .null, .null, .null, .null, vi (0), .null, vi (0), .null, .null, .null, .null, vi (0)]) := by rw [egh50, gset_ne (fun z => by rw [z, hnq49] at h47; cases h47)]; exact h47
  have h56 : gh50 q49 = some (gI 1 14 (fun _ => 0)) := by rw [egh50]; exact gset_eq
  have Rk57 := Rk48.new (t := (1, 7, 0)) hnq49 (gI 1 14 (fun _ => 0))
  obtain ⟨adk57, eadk57⟩ : ∃ x, x = aup adk41 (1, 7, 0) q49 := ⟨_, rfl⟩
  obtain ⟨ctk57, ectk57⟩ : ∃ x, x = cup ctk48 (1, 7, 0) (gI 1 14 (fun _ => 0)) := ⟨_, rfl⟩
  rw [← eadk57, ← ectk57, ← egh50] at Rk57
  have pa0_k57 : adk57 (0, 0, 0) = xa := by rw [eadk57, aup_ne (by simp)]; exact pa0_k48
  have pc0_k57 : ctk57 (0, 0, 0) = some (gO 11 [vi (0), vi (0), .ref q1, vi (0), .ref q10, .ref q21, .ref q34, .null, .null, .null, .null, vi (0), .null, .null, .null, .null, .null, .null, .null, .null, vi (0), .null, vi (0), .null, .null, .null, .null, vi (0)]) := by rw [ectk57, cup_ne (by simp)]; exact pc0_k48
  have pa1_k57 : adk57 (1, 2, 0) = q1 := by rw [eadk57, aup_ne (by simp)]; exact pa1_k48
  have pc1_k57 : ctk57 (1, 2, 0) = some (gI 0 8 (fun _ => 0)) := by rw [ectk57, cup_ne (by simp)]; exact pc1_k48
  have pa2_k57 : adk57 (1, 4, 0) = q10 := by rw [eadk57, aup_ne (by simp)]; exact pa2_k48
  have pc2_k57 : ctk57 (1, 4, 0) = some (gI 1 14 (fun _ => 0)) := by rw [ectk57, cup_ne (by simp)]; exact pc2_k48
  have pa3_k57 : adk57 (1, 5, 0) = q21 := by rw [eadk57, aup_ne (by simp)]; exact pa3_k48
  have pc3_k57 : ctk57 (1, 5, 0) = some (gI 1 14 (fun _ => 0)) := by rw [ectk57, cup_ne (by simp)]; exact pc3_k48
  have pa4_k57 : adk57 (1, 6, 0) = q34 := by rw [eadk57, aup_ne (by simp)]; exact pa4_k48
  have pc4_k57 : ctk57 (1, 6, 0) = some (gI 1 14 (fun _ => 0)) := by rw [ectk57, cup_ne (by simp)]; exact pc4_k48
  have pa5_k57 : adk57 (1, 7, 0) = q49 := by rw [eadk57, aup_eq]
  have pc5_k57 : ctk57 (1, 7, 0) = some (gI 1 14 (fun _ => 0)) := by rw [ectk57, cup_eq]
  have frk57 : ∀ t : Tg, (2 ≤ t.1) → ctk57 t = ct t ∧ adk57 t = ad t := fun t ht => by
    have e0 : t ≠ (1, 7, 0) := fun e => by rw [e] at ht; simp only at ht; omega
    exact ⟨(show ctk57 t = ctk48 t by rw [ectk57, cup_ne e0]).trans (frk48 t ht).1, (show adk57 t = adk41 t by rw [eadk57, aup_ne e0]).trans (frk48 t ht).2⟩
  refine g_putF hC hq (fs' := [vi (0), vi (0), .ref q1, vi (0), .ref q10, .ref q21, .ref q34, .ref q49, .null, .null, .null, vi (0), .null, .null, .null, .null, .null, .null, .null, .null, vi (0), .null, vi (0), .null, .null, .null, .null, vi (0)]) dX7_init_41 gp_RX7_23 h55 ⟨rfl, rfl⟩ rfl (Nat.le_of_ble_eq_true rfl) ?_
  obtain ⟨gh58, egh58⟩ : ∃ g_, g_ = gset gh50 xa (gO 11 [vi (0), vi (0), .ref q1, vi (0), .ref q10, .ref q21, .ref q34, .ref q49, .null, .null, .null, vi (0), .null, .null, .null, .null, .null, .null, .null, .null, vi (0), .null, vi (0), .null, .null, .null, .null, vi (0)]) := ⟨_, rfl⟩
  rw [← egh58]
  have h59 : gh58 q1 = some (gI 0 8 (fun _ => 0)) := by rw [egh58, gset_ne (gne h51 h55 (by simp))]; exact h51
  have h60 : gh58 q10 = some (gI 1 14 (fun _ => 0)) := by rw [egh58, gset_ne (gne h52 h55 (by simp))]; exact h52
  have h61 : gh58 q21 = some (gI 1 14 (fun _ => 0)) := by rw [egh58, gset_ne (gne h53 h55 (by simp))]; exact h53
  have h62 : gh58 q34 = some (gI 1 14 (fun _ => 0)) := by rw [egh58, gset_ne (gne h54 h55 (by simp))]; exact h54
  have h63 : gh58 q49 = some (gI 1 14 (fun _ => 0)) := by rw [egh58, gset_ne (gne h56 h55 (by simp))]; exact h56
  have h64 : gh58 xa = some (gO 11 [vi (0), vi (0), .ref q1, vi (0), .ref q10, .ref q21, .ref q34, .ref q49, .null, .null, .null, vi (0), .null, .null, .null, .null, .null, .null, .null, .null, vi (0), .null, vi (0), .null, .null, .null, .null, vi (0)]) := by rw [egh58]; exact gset_eq
  have Rk65 := Rk57.put pc0_k57 (gO 11 [vi (0), vi (0), .ref q1, vi (0), .ref q10, .ref q21, .ref q34, .ref q49, .null, .null, .null, vi (0), .null, .null, .null, .null, .null, .null, .null, .null, vi (0), .null, vi (0), .null, .null, .null, .null, vi (0)])
  obtain ⟨ctk65, ectk65⟩ : ∃ x, x = cup ctk57 (0, 0, 0) (gO 11 [vi (0), vi (0), .ref q1, vi (0), .ref q10, .ref q21, .ref q34, .ref q49, .null, .null, .null, vi (0), .null, .null, .null, .null, .null, .null, .null, .null, vi (0), .null, vi (0), .null, .null, .null, .null, vi (0)]) := ⟨_, rfl⟩
  rw [pa0_k57, ← ectk65, ← egh58] at Rk65
  have pa0_k65 := pa0_k57
  have pc0_k65 : ctk65 (0, 0, 0) = some (gO 11 [vi (0), vi (0), .ref q1, vi (0), .ref q10, .ref q21, .ref q34, .ref q49, .null, .null, .null, vi (0), .null, .null, .null, .null, .null, .null, .null, .null, vi (0), .null, vi (0), .null, .null, .null, .null, vi (0)]) := by rw [ectk65, cup_eq]
  have pa1_k65 := pa1_k57
  have pc1_k65 : ctk65 (1, 2, 0) = some (gI 0 8 (fun _ => 0)) := by rw [ectk65, cup_ne (by simp)]; exact pc1_k57
  have pa2_k65 := pa2_k57
  have pc2_k65 : ctk65 (1, 4, 0) = some (gI 1 14 (fun _ => 0)) := by rw [ectk65, cup_ne (by simp)]; exact pc2_k57
  have pa3_k65 := pa3_k57
  have pc3_k65 : ctk65 (1, 5, 0) = some (gI 1 14 (fun _ => 0)) := by rw [ectk65, cup_ne (by simp)]; exact pc3_k57
  have pa4_k65 := pa4_k57
  have pc4_k65 : ctk65 (1, 6, 0) = some (gI 1 14 (fun _ => 0)) := by rw [ectk65, cup_ne (by simp)]; exact pc4_k57
  have pa5_k65 := pa5_k57
  have pc5_k65 : ctk65 (1, 7, 0) = some (gI 1 14 (fun _ => 0)) := by rw [ectk65, cup_ne (by simp)]; exact pc5_k57
  have frk65 : ∀ t : Tg, (2 ≤ t.1) → ctk65 t = ct t ∧ adk57 t = ad t := fun t ht => by
    have e0 : t ≠ (0, 0, 0) := fun e => by rw [e] at ht; simp only at ht; omega
    exact ⟨(show ctk65 t = ctk57 t by rw [ectk65, cup_ne e0]).trans (frk57 t ht).1, (frk57 t ht).2⟩
  refine g_ald_n hC dX7_init_44 rfl ?_
  refine g_bipush (z := 84) hC dX7_init_45 rfl ?_
  refine g_newI (n := 84) hC dX7_init_47 ga_int rfl (by decide) (by decide) (by decide) (fun q66 hnq66 => ?_)
  obtain ⟨gh67, egh67⟩ : ∃ g_, g_ = gset gh58 q66 (gI 1 84 (fun _ => 0)) := ⟨_, rfl⟩
  rw [← egh67]
  have h68 : gh67 q1 = some (gI 0 8 (fun _ => 0)) := by rw [egh67, gset_ne (fun z => by rw [z, hnq66] at h59; cases h59)]; exact h59
  have h69 : gh67 q10 = some (gI 1 14 (fun _ => 0)) := by rw [egh67, gset_ne (fun z => by rw [z, hnq66] at h60; cases h60)]; exact h60
  have h70 : gh67 q21 = some (gI 1 14 (fun _ => 0)) := by rw [egh67, gset_ne (fun z => by rw [z, hnq66] at h61; cases h61)]; exact h61
  have h71 : gh67 q34 = some (gI 1 14 (fun _ => 0)) := by rw [egh67, gset_ne (fun z => by rw [z, hnq66] at h62; cases h62)]; exact h62
  have h72 : gh67 q49 = some (gI 1 14 (fun _ => 0)) := by rw [egh67, gset_ne (fun z => by rw [z, hnq66] at h63; cases h63)]; exact h63
  have h73 : gh67 xa = some (gO 11 [vi (0), vi (0), .ref q1, vi (0), .ref q10, .ref q21, .ref q34, .ref q49, .null, .null, .null, vi (0), .null, .null, .null, .null, .null, .null, .null, .null, vi (0), .null, vi (0), .null, .null, .null, .null, vi (0)]) := by rw [egh67, gset_ne (fun z => by rw [z, hnq66] at h64; cases h64)]; exact h64
  have h74 : gh67 q66 = some (gI 1 84 (fun _ => 0)) := by rw [egh67]; exact gset_eq
  have Rk75 := Rk65.new (t := (1, 8, 0)) hnq66 (gI 1 84 (fun _ => 0))
  obtain ⟨adk75, eadk75⟩ : ∃ x, x = aup adk57 (1, 8, 0) q66 := ⟨_, rfl⟩
  obtain ⟨ctk75, ectk75⟩ : ∃ x, x = cup ctk65 (1, 8, 0) (gI 1 84 (fun _ => 0)) := ⟨_, rfl⟩
  rw [← eadk75, ← ectk75, ← egh67] at Rk75
  have pa0_k75 : adk75 (0, 0, 0) = xa := by rw [eadk75, aup_ne (by simp)]; exact pa0_k65
  have pc0_k75 : ctk75 (0, 0, 0) = some (gO 11 [vi (0), vi (0), .ref q1, vi (0), .ref q10, .ref q21, .ref q34, .ref q49, .null, .null, .null, vi (0), .null, .null, .null, .null, .null, .null, .null, .null, vi (0), .null, vi (0), .null, .null, .null, .null, vi (0)]) := by rw [ectk75, cup_ne (by simp)]; exact pc0_k65
  have pa1_k75 : adk75 (1, 2, 0) = q1 := by rw [eadk75, aup_ne (by simp)]; exact pa1_k65
  have pc1_k75 : ctk75 (1, 2, 0) = some (gI 0 8 (fun _ => 0)) := by rw [ectk75, cup_ne (by simp)]; exact pc1_k65
  have pa2_k75 : adk75 (1, 4, 0) = q10 := by rw [eadk75, aup_ne (by simp)]; exact pa2_k65
  have pc2_k75 : ctk75 (1, 4, 0) = some (gI 1 14 (fun _ => 0)) := by rw [ectk75, cup_ne (by simp)]; exact pc2_k65
  have pa3_k75 : adk75 (1, 5, 0) = q21 := by rw [eadk75, aup_ne (by simp)]; exact pa3_k65
  have pc3_k75 : ctk75 (1, 5, 0) = some (gI 1 14 (fun _ => 0)) := by rw [ectk75, cup_ne (by simp)]; exact pc3_k65
  have pa4_k75 : adk75 (1, 6, 0) = q34 := by rw [eadk75, aup_ne (by simp)]; exact pa4_k65
  have pc4_k75 : ctk75 (1, 6, 0) = some (gI 1 14 (fun _ => 0)) := by rw [ectk75, cup_ne (by simp)]; exact pc4_k65
  have pa5_k75 : adk75 (1, 7, 0) = q49 := by rw [eadk75, aup_ne (by simp)]; exact pa5_k65
  have pc5_k75 : ctk75 (1, 7, 0) = some (gI 1 14 (fun _ => 0)) := by rw [ectk75, cup_ne (by simp)]; exact pc5_k65
  have pa6_k75 : adk75 (1, 8, 0) = q66 := by rw [eadk75, aup_eq]
  have pc6_k75 : ctk75 (1, 8, 0) = some (gI 1 84 (fun _ => 0)) := by rw [ectk75, cup_eq]
  have frk75 : ∀ t : Tg, (2 ≤ t.1) → ctk75 t = ct t ∧ adk75 t = ad t := fun t ht => by
    have e0 : t ≠ (1, 8, 0) := fun e => by rw [e] at ht; simp only at ht; omega
    exact ⟨(show ctk75 t = ctk65 t by rw [ectk75, cup_ne e0]).trans (frk65 t ht).1, (show adk75 t = adk57 t by rw [eadk75, aup_ne e0]).trans (frk65 t ht).2⟩
  refine g_putF hC hq (fs' := [vi (0), vi (0), .ref q1, vi (0), .ref q10, .ref q21, .ref q34, .ref q49, .ref q66, .null, .null, vi (0), .null, .null, .null, .null, .null, .null, .null, .null, vi (0), .null, vi (0), .null, .null, .null, .null, vi (0)]) dX7_init_49 gp_RX7_26 h73 ⟨rfl, rfl⟩ rfl (Nat.le_of_ble_eq_true rfl) ?_
  obtain ⟨gh76, egh76⟩ : ∃ g_, g_ = gset gh67 xa (gO 11 [vi (0), vi (0), .ref q1, vi (0), .ref q10, .ref q21, .ref q34, .ref q49, .ref q66, .null, .null, vi (0), .null, .null, .null, .null, .null, .null, .null, .null, vi (0), .null, vi (0), .null, .null, .null, .null, vi (0)]) := ⟨_, rfl⟩
  rw [← egh76]
  have h77 : gh76 q1 = some (gI 0 8 (fun _ => 0)) := by rw [egh76, gset_ne (gne h68 h73 (by simp))]; exact h68
  have h78 : gh76 q10 = some (gI 1 14 (fun _ => 0)) := by rw [egh76, gset_ne (gne h69 h73 (by simp))]; exact h69
  have h79 : gh76 q21 = some (gI 1 14 (fun _ => 0)) := by rw [egh76, gset_ne (gne h70 h73 (by simp))]; exact h70
  have h80 : gh76 q34 = some (gI 1 14 (fun _ => 0)) := by rw [egh76, gset_ne (gne h71 h73 (by simp))]; exact h71
  have h81 : gh76 q49 = some (gI 1 14 (fun _ => 0)) := by rw [egh76, gset_ne (gne h72 h73 (by simp))]; exact h72
  have h82 : gh76 q66 = some (gI 1 84 (fun _ => 0)) := by rw [egh76, gset_ne (gne h74 h73 (by simp))]; exact h74
  have h83 : gh76 xa = some (gO 11 [vi (0), vi (0), .ref q1, vi (0), .ref q10, .ref q21, .ref q34, .ref q49, .ref q66, .null, .null, vi (0), .null, .null, .null, .null, .null, .null, .null, .null, vi (0), .null, vi (0), .null, .null, .null, .null, vi (0)]) := by rw [egh76]; exact gset_eq
  have Rk84 := Rk75.put pc0_k75 (gO 11 [vi (0), vi (0), .ref q1, vi (0), .ref q10, .ref q21, .ref q34, .ref q49, .ref q66, .null, .null, vi (0), .null, .null, .null, .null, .null, .null, .null, .null, vi (0), .null, vi (0), .null, .null, .null, .null, vi (0)])
  obtain ⟨ctk84, ectk84⟩ : ∃ x, x = cup ctk75 (0, 0, 0) (gO 11 [vi (0), vi (0), .ref q1, vi (0), .ref q10, .ref q21, .ref q34, .ref q49, .ref q66, .null, .null, vi (0), .null, .null, .null, .null, .null, .null, .null, .null, vi (0), .null, vi (0), .null, .null, .null, .null, vi (0)]) := ⟨_, rfl⟩
  rw [pa0_k75, ← ectk84, ← egh76] at Rk84
  have pa0_k84 := pa0_k75
  have pc0_k84 : ctk84 (0, 0, 0) = some (gO 11 [vi (0), vi (0), .ref q1, vi (0), .ref q10, .ref q21, .ref q34, .ref q49, .ref q66, .null, .null, vi (0), .null, .null, .null, .null, .null, .null, .null, .null, vi (0), .null, vi (0), .null, .null, .null, .null, vi (0)]) := by rw [ectk84, cup_eq]
  have pa1_k84 := pa1_k75
  have pc1_k84 : ctk84 (1, 2, 0) = some (gI 0 8 (fun _ => 0)) := by rw [ectk84, cup_ne (by simp)]; exact pc1_k75
  have pa2_k84 := pa2_k75
  have pc2_k84 : ctk84 (1, 4, 0) = some (gI 1 14 (fun _ => 0)) := by rw [ectk84, cup_ne (by simp)]; exact pc2_k75
  have pa3_k84 := pa3_k75
  have pc3_k84 : ctk84 (1, 5, 0) = some (gI 1 14 (fun _ => 0)) := by rw [ectk84, cup_ne (by simp)]; exact pc3_k75
  have pa4_k84 := pa4_k75
  have pc4_k84 : ctk84 (1, 6, 0) = some (gI 1 14 (fun _ => 0)) := by rw [ectk84, cup_ne (by simp)]; exact pc4_k75
  have pa5_k84 := pa5_k75
  have pc5_k84 : ctk84 (1, 7, 0) = some (gI 1 14 (fun _ => 0)) := by rw [ectk84, cup_ne (by simp)]; exact pc5_k75
  have pa6_k84 := pa6_k75
  have pc6_k84 : ctk84 (1, 8, 0) = some (gI 1 84 (fun _ => 0)) := by rw [ectk84, cup_ne (by simp)]; exact pc6_k75
  have frk84 : ∀ t : Tg, (2 ≤ t.1) → ctk84 t = ct t ∧ adk75 t = ad t := fun t ht => by
    have e0 : t ≠ (0, 0, 0) := fun e => by rw [e] at ht; simp only at ht; omega
    exact ⟨(show ctk84 t = ctk75 t by rw [ectk84, cup_ne e0]).trans (frk75 t ht).1, (frk75 t ht).2⟩
  refine g_ald_n hC dX7_init_52 rfl ?_
  refine g_bipush (z := 84) hC dX7_init_53 rfl ?_
  refine g_newI (n := 84) hC dX7_init_55 ga_int rfl (by decide) (by decide) (by decide) (fun q85 hnq85 => ?_)
  obtain ⟨gh86, egh86⟩ : ∃ g_, g_ = gset gh76 q85 (gI 1 84 (fun _ => 0)) := ⟨_, rfl⟩
  rw [← egh86]
  have h87 : gh86 q1 = some (gI 0 8 (fun _ => 0)) := by rw [egh86, gset_ne (fun z => by rw [z, hnq85] at h77; cases h77)]; exact h77
  have h88 : gh86 q10 = some (gI 1 14 (fun _ => 0)) := by rw [egh86, gset_ne (fun z => by rw [z, hnq85] at h78; cases h78)]; exact h78
  have h89 : gh86 q21 = some (gI 1 14 (fun _ => 0)) := by rw [egh86, gset_ne (fun z => by rw [z, hnq85] at h79; cases h79)]; exact h79
  have h90 : gh86 q34 = some (gI 1 14 (fun _ => 0)) := by rw [egh86, gset_ne (fun z => by rw [z, hnq85] at h80; cases h80)]; exact h80
  have h91 : gh86 q49 = some (gI 1 14 (fun _ => 0)) := by rw [egh86, gset_ne (fun z => by rw [z, hnq85] at h81; cases h81)]; exact h81
  have h92 : gh86 q66 = some (gI 1 84 (fun _ => 0)) := by rw [egh86, gset_ne (fun z => by rw [z, hnq85] at h82; cases h82)]; exact h82
  have h93 : gh86 xa = some (gO 11 [vi (0), vi (0), .ref q1, vi (0), .ref q10, .ref q21, .ref q34, .ref q49, .ref q66, .null, .null, vi (0), .null, .null, .null, .null, .null, .null, .null, .null, vi (0), .null, vi (0), .null, .null, .null, .null, vi (0)]) := by rw [egh86, gset_ne (fun z => by rw [z, hnq85] at h83; cases h83)]; exact h83
  have h94 : gh86 q85 = some (gI 1 84 (fun _ => 0)) := by rw [egh86]; exact gset_eq
  have Rk95 := Rk84.new (t := (1, 9, 0)) hnq85 (gI 1 84 (fun _ => 0))
  obtain ⟨adk95, eadk95⟩ : ∃ x, x = aup adk75 (1, 9, 0) q85 := ⟨_, rfl⟩
  obtain ⟨ctk95, ectk95⟩ : ∃ x, x = cup ctk84 (1, 9, 0) (gI 1 84 (fun _ => 0)) := ⟨_, rfl⟩
  rw [← eadk95, ← ectk95, ← egh86] at Rk95
  have pa0_k95 : adk95 (0, 0, 0) = xa := by rw [eadk95, aup_ne (by simp)]; exact pa0_k84
  have pc0_k95 : ctk95 (0, 0, 0) = some (gO 11 [vi (0), vi (0), .ref q1, vi (0), .ref q10, .ref q21, .ref q34, .ref q49, .ref q66, .null, .null, vi (0), .null, .null, .null, .null, .null, .null, .null, .null, vi (0), .null, vi (0), .null, .null, .null, .null, vi (0)]) := by rw [ectk95, cup_ne (by simp)]; exact pc0_k84
  have pa1_k95 : adk95 (1, 2, 0) = q1 := by rw [eadk95, aup_ne (by simp)]; exact pa1_k84
  have pc1_k95 : ctk95 (1, 2, 0) = some (gI 0 8 (fun _ => 0)) := by rw [ectk95, cup_ne (by simp)]; exact pc1_k84
  have pa2_k95 : adk95 (1, 4, 0) = q10 := by rw [eadk95, aup_ne (by simp)]; exact pa2_k84
  have pc2_k95 : ctk95 (1, 4, 0) = some (gI 1 14 (fun _ => 0)) := by rw [ectk95, cup_ne (by simp)]; exact pc2_k84
  have pa3_k95 : adk95 (1, 5, 0) = q21 := by rw [eadk95, aup_ne (by simp)]; exact pa3_k84
  have pc3_k95 : ctk95 (1, 5, 0) = some (gI 1 14 (fun _ => 0)) := by rw [ectk95, cup_ne (by simp)]; exact pc3_k84
  have pa4_k95 : adk95 (1, 6, 0) = q34 := by rw [eadk95, aup_ne (by simp)]; exact pa4_k84
  have pc4_k95 : ctk95 (1, 6, 0) = some (gI 1 14 (fun _ => 0)) := by rw [ectk95, cup_ne (by simp)]; exact pc4_k84
  have pa5_k95 : adk95 (1, 7, 0) = q49 := by rw [eadk95, aup_ne (by simp)]; exact pa5_k84
  have pc5_k95 : ctk95 (1, 7, 0) = some (gI 1 14 (fun _ => 0)) := by rw [ectk95, cup_ne (by simp)]; exact pc5_k84
  have pa6_k95 : adk95 (1, 8, 0) = q66 := by rw [eadk95, aup_ne (by simp)]; exact pa6_k84
  have pc6_k95 : ctk95 (1, 8, 0) = some (gI 1 84 (fun _ => 0)) := by rw [ectk95, cup_ne (by simp)]; exact pc6_k84
  have pa7_k95 : adk95 (1, 9, 0) = q85 := by rw [eadk95, aup_eq]
  have pc7_k95 : ctk95 (1, 9, 0) = some (gI 1 84 (fun _ => 0)) := by rw [ectk95, cup_eq]
  have frk95 : ∀ t : Tg, (2 ≤ t.1) → ctk95 t = ct t ∧ adk95 t = ad t := fun t ht => by
    have e0 : t ≠ (1, 9, 0) := fun e => by rw [e] at ht; simp only at ht; omega
    exact ⟨(show ctk95 t = ctk84 t by rw [ectk95, cup_ne e0]).trans (frk84 t ht).1, (show adk95 t = adk75 t by rw [eadk95, aup_ne e0]).trans (frk84 t ht).2⟩
  refine g_putF hC hq (fs' := [vi (0), vi (0), .ref q1, vi (0), .ref q10, .ref q21, .ref q34, .ref q49, .ref q66, .ref q85, .null, vi (0), .null, .null, .null, .null, .null, .null, .null, .null, vi (0), .null, vi (0), .null, .null, .null, .null, vi (0)]) dX7_init_57 gp_RX7_29 h93 ⟨rfl, rfl⟩ rfl (Nat.le_of_ble_eq_true rfl) ?_
  obtain ⟨gh96, egh96⟩ : ∃ g_, g_ = gset gh86 xa (gO 11 [vi (0), vi (0), .ref q1, vi (0), .ref q10, .ref q21, .ref q34, .ref q49, .ref q66, .ref q85, .null, vi (0), .null, .null, .null, .null, .null, .null, .null, .null, vi (0), .null, vi (0), .null, .null, .null, .null, vi (0)]) := ⟨_, rfl⟩
  rw [← egh96]
  have h97 : gh96 q1 = some (gI 0 8 (fun _ => 0)) := by rw [egh96, gset_ne (gne h87 h93 (by simp))]; exact h87
  have h98 : gh96 q10 = some (gI 1 14 (fun _ => 0)) := by rw [egh96, gset_ne (gne h88 h93 (by simp))]; exact h88
  have h99 : gh96 q21 = some (gI 1 14 (fun _ => 0)) := by rw [egh96, gset_ne (gne h89 h93 (by simp))]; exact h89
  have h100 : gh96 q34 = some (gI 1 14 (fun _ => 0)) := by rw [egh96, gset_ne (gne h90 h93 (by simp))]; exact h90
  have h101 : gh96 q49 = some (gI 1 14 (fun _ => 0)) := by rw [egh96, gset_ne (gne h91 h93 (by simp))]; exact h91
  have h102 : gh96 q66 = some (gI 1 84 (fun _ => 0)) := by rw [egh96, gset_ne (gne h92 h93 (by simp))]; exact h92
  have h103 : gh96 q85 = some (gI 1 84 (fun _ => 0)) := by rw [egh96, gset_ne (gne h94 h93 (by simp))]; exact h94
  have h104 : gh96 xa = some (gO 11 [vi (0), vi (0), .ref q1, vi (0), .ref q10, .ref q21, .ref q34, .ref q49, .ref q66, .ref q85, .null, vi (0), .null, .null, .null, .null, .null, .null, .null, .null, vi (0), .null, vi (0), .null, .null, .null, .null, vi (0)]) := by rw [egh96]; exact gset_eq
  have Rk105 := Rk95.put pc0_k95 (gO 11 [vi (0), vi (0), .ref q1, vi (0), .ref q10, .ref q21, .ref q34, .ref q49, .ref q66, .ref q85, .null, vi (0), .null, .null, .null, .null, .null, .null, .null, .null, vi (0), .null, vi (0), .null, .null, .null, .null, vi (0)])
  obtain ⟨ctk105, ectk105⟩ : ∃ x, x = cup ctk95 (0, 0, 0) (gO 11 [vi (0), vi (0), .ref q1, vi (0), .ref q10, .ref q21, .ref q34, .ref q49, .ref q66, .ref q85, .null, vi (0), .null, .null, .null, .null, .null, .null, .null, .null, vi (0), .null, vi (0), .null, .null, .null, .null, vi (0)]) := ⟨_, rfl⟩
  rw [pa0_k95, ← ectk105, ← egh96] at Rk105
  have pa0_k105 := pa0_k95
  have pc0_k105 : ctk105 (0, 0, 0) = some (gO 11 [vi (0), vi (0), .ref q1, vi (0), .ref q10, .ref q21, .ref q34, .ref q49, .ref q66, .ref q85, .null, vi (0), .null, .null, .null, .null, .null, .null, .null, .null, vi (0), .null, vi (0), .null, .null, .null, .null, vi (0)]) := by rw [ectk105, cup_eq]
  have pa1_k105 := pa1_k95
  have pc1_k105 : ctk105 (1, 2, 0) = some (gI 0 8 (fun _ => 0)) := by rw [ectk105, cup_ne (by simp)]; exact pc1_k95
  have pa2_k105 := pa2_k95
  have pc2_k105 : ctk105 (1, 4, 0) = some (gI 1 14 (fun _ => 0)) := by rw [ectk105, cup_ne (by simp)]; exact pc2_k95
  have pa3_k105 := pa3_k95
  have pc3_k105 : ctk105 (1, 5, 0) = some (gI 1 14 (fun _ => 0)) := by rw [ectk105, cup_ne (by simp)]; exact pc3_k95
  have pa4_k105 := pa4_k95
  have pc4_k105 : ctk105 (1, 6, 0) = some (gI 1 14 (fun _ => 0)) := by rw [ectk105, cup_ne (by simp)]; exact pc4_k95
  have pa5_k105 := pa5_k95
  have pc5_k105 : ctk105 (1, 7, 0) = some (gI 1 14 (fun _ => 0)) := by rw [ectk105, cup_ne (by simp)]; exact pc5_k95
  have pa6_k105 := pa6_k95
  have pc6_k105 : ctk105 (1, 8, 0) = some (gI 1 84 (fun _ => 0)) := by rw [ectk105, cup_ne (by simp)]; exact pc6_k95
  have pa7_k105 := pa7_k95
  have pc7_k105 : ctk105 (1, 9, 0) = some (gI 1 84 (fun _ => 0)) := by rw [ectk105, cup_ne (by simp)]; exact pc7_k95
  have frk105 : ∀ t : Tg, (2 ≤ t.1) → ctk105 t = ct t ∧ adk95 t = ad t := fun t ht => by
    have e0 : t ≠ (0, 0, 0) := fun e => by rw [e] at ht; simp only at ht; omega
    exact ⟨(show ctk105 t = ctk95 t by rw [ectk105, cup_ne e0]).trans (frk95 t ht).1, (frk95 t ht).2⟩
  refine g_ald_n hC dX7_init_60 rfl ?_
  refine g_sipush (z := 672) hC dX7_init_61 rfl ?_
  refine g_newC (n := 672) hC dX7_init_64 ga_char rfl (by decide) (by decide) (by decide) (fun q106 hnq106 => ?_)
  obtain ⟨gh107, egh107⟩ : ∃ g_, g_ = gset gh96 q106 (gI 0 672 (fun _ => 0)) := ⟨_, rfl⟩
  rw [← egh107]
  have h108 : gh107 q1 = some (gI 0 8 (fun _ => 0)) := by rw [egh107, gset_ne (fun z => by rw [z, hnq106] at h97; cases h97)]; exact h97
  have h109 : gh107 q10 = some (gI 1 14 (fun _ => 0)) := by rw [egh107, gset_ne (fun z => by rw [z, hnq106] at h98; cases h98)]; exact h98
  have h110 : gh107 q21 = some (gI 1 14 (fun _ => 0)) := by rw [egh107, gset_ne (fun z => by rw [z, hnq106] at h99; cases h99)]; exact h99
  have h111 : gh107 q34 = some (gI 1 14 (fun _ => 0)) := by rw [egh107, gset_ne (fun z => by rw [z, hnq106] at h100; cases h100)]; exact h100
  have h112 : gh107 q49 = some (gI 1 14 (fun _ => 0)) := by rw [egh107, gset_ne (fun z => by rw [z, hnq106] at h101; cases h101)]; exact h101
  have h113 : gh107 q66 = some (gI 1 84 (fun _ => 0)) := by rw [egh107, gset_ne (fun z => by rw [z, hnq106] at h102; cases h102)]; exact h102
  have h114 : gh107 q85 = some (gI 1 84 (fun _ => 0)) := by rw [egh107, gset_ne (fun z => by rw [z, hnq106] at h103; cases h103)]; exact h103
  have h115 : gh107 xa = some (gO 11 [vi (0), vi (0), .ref q1, vi (0), .ref q10, .ref q21, .ref q34, .ref q49, .ref q66, .ref q85, .null, vi (0), .null, .null, .null, .null, .null, .null, .null, .null, vi (0), .null, vi (0), .null, .null, .null, .null, vi (0)]) := by rw [egh107, gset_ne (fun z => by rw [z, hnq106] at h104; cases h104)]; exact h104
  have h116 : gh107 q106 = some (gI 0 672 (fun _ => 0)) := by rw [egh107]; exact gset_eq
  have Rk117 := Rk105.new (t := (1, 10, 0)) hnq106 (gI 0 672 (fun _ => 0))
  obtain ⟨adk117, eadk117⟩ : ∃ x, x = aup adk95 (1, 10, 0) q106 := ⟨_, rfl⟩
  obtain ⟨ctk117, ectk117⟩ : ∃ x, x = cup ctk105 (1, 10, 0) (gI 0 672 (fun _ => 0)) := ⟨_, rfl⟩
  rw [← eadk117, ← ectk117, ← egh107] at Rk117
  have pa0_k117 : adk117 (0, 0, 0) = xa := by rw [eadk117, aup_ne (by simp)]; exact pa0_k105
  have pc0_k117 : ctk117 (0, 0, 0) = some (gO 11 [vi (0), vi (0), .ref q1, vi (0), .ref q10, .ref q21, .ref q34, .ref q49, .ref q66, .ref q85, .null, vi (0), .null, .null, .null, .null, .null, .null, .null, .null, vi (0), .null, vi (0), .null, .null, .null, .null, vi (0)]) := by rw [ectk117, cup_ne (by simp)]; exact pc0_k105
  have pa1_k117 : adk117 (1, 2, 0) = q1 := by rw [eadk117, aup_ne (by simp)]; exact pa1_k105
  have pc1_k117 : ctk117 (1, 2, 0) = some (gI 0 8 (fun _ => 0)) := by rw [ectk117, cup_ne (by simp)]; exact pc1_k105
  have pa2_k117 : adk117 (1, 4, 0) = q10 := by rw [eadk117, aup_ne (by simp)]; exact pa2_k105
  have pc2_k117 : ctk117 (1, 4, 0) = some (gI 1 14 (fun _ => 0)) := by rw [ectk117, cup_ne (by simp)]; exact pc2_k105
  have pa3_k117 : adk117 (1, 5, 0) = q21 := by rw [eadk117, aup_ne (by simp)]; exact pa3_k105
  have pc3_k117 : ctk117 (1, 5, 0) = some (gI 1 14 (fun _ => 0)) := by rw [ectk117, cup_ne (by simp)]; exact pc3_k105
  have pa4_k117 : adk117 (1, 6, 0) = q34 := by rw [eadk117, aup_ne (by simp)]; exact pa4_k105
  have pc4_k117 : ctk117 (1, 6, 0) = some (gI 1 14 (fun _ => 0)) := by rw [ectk117, cup_ne (by simp)]; exact pc4_k105
  have pa5_k117 : adk117 (1, 7, 0) = q49 := by rw [eadk117, aup_ne (by simp)]; exact pa5_k105
  have pc5_k117 : ctk117 (1, 7, 0) = some (gI 1 14 (fun _ => 0)) := by rw [ectk117, cup_ne (by simp)]; exact pc5_k105
  have pa6_k117 : adk117 (1, 8, 0) = q66 := by rw [eadk117, aup_ne (by simp)]; exact pa6_k105
  have pc6_k117 : ctk117 (1, 8, 0) = some (gI 1 84 (fun _ => 0)) := by rw [ectk117, cup_ne (by simp)]; exact pc6_k105
  have pa7_k117 : adk117 (1, 9, 0) = q85 := by rw [eadk117, aup_ne (by simp)]; exact pa7_k105
  have pc7_k117 : ctk117 (1, 9, 0) = some (gI 1 84 (fun _ => 0)) := by rw [ectk117, cup_ne (by simp)]; exact pc7_k105
  have pa8_k117 : adk117 (1, 10, 0) = q106 := by rw [eadk117, aup_eq]
  have pc8_k117 : ctk117 (1, 10, 0) = some (gI 0 672 (fun _ => 0)) := by rw [ectk117, cup_eq]
  have frk117 : ∀ t : Tg, (2 ≤ t.1) → ctk117 t = ct t ∧ adk117 t = ad t := fun t ht => by
    have e0 : t ≠ (1, 10, 0) := fun e => by rw [e] at ht; simp only at ht; omega
    exact ⟨(show ctk117 t = ctk105 t by rw [ectk117, cup_ne e0]).trans (frk105 t ht).1, (show adk117 t = adk95 t by rw [eadk117, aup_ne e0]).trans (frk105 t ht).2⟩
  refine g_putF hC hq (fs' := [vi (0), vi (0), .ref q1, vi (0), .ref q10, .ref q21, .ref q34, .ref q49, .ref q66, .ref q85, .ref q106, vi (0), .null, .null, .null, .null, .null, .null, .null, .null, vi (0), .null, vi (0), .null, .null, .null, .null, vi (0)]) dX7_init_66 gp_RX7_32 h115 ⟨rfl, rfl⟩ rfl (Nat.le_of_ble_eq_true rfl) ?_
  obtain ⟨gh118, egh118⟩ : ∃ g_, g_ = gset gh107 xa (gO 11 [vi (0), vi (0), .ref q1, vi (0), .ref q10, .ref q21, .ref q34, .ref q49, .ref q66, .ref q85, .ref q106, vi (0), .null, .null, .null, .null, .null, .null, .null, .null, vi (0), .null, vi (0), .null, .null, .null, .null, vi (0)]) := ⟨_, rfl⟩
  rw [← egh118]
  have h119 : gh118 q1 = some (gI 0 8 (fun _ => 0)) := by rw [egh118, gset_ne (gne h108 h115 (by simp))]; exact h108
  have h120 : gh118 q10 = some (gI 1 14 (fun _ => 0)) := by rw [egh118, gset_ne (gne h109 h115 (by simp))]; exact h109
  have h121 : gh118 q21 = some (gI 1 14 (fun _ => 0)) := by rw [egh118, gset_ne (gne h110 h115 (by simp))]; exact h110
  have h122 : gh118 q34 = some (gI 1 14 (fun _ => 0)) := by rw [egh118, gset_ne (gne h111 h115 (by simp))]; exact h111
  have h123 : gh118 q49 = some (gI 1 14 (fun _ => 0)) := by rw [egh118, gset_ne (gne h112 h115 (by simp))]; exact h112
  have h124 : gh118 q66 = some (gI 1 84 (fun _ => 0)) := by rw [egh118, gset_ne (gne h113 h115 (by simp))]; exact h113
  have h125 : gh118 q85 = some (gI 1 84 (fun _ => 0)) := by rw [egh118, gset_ne (gne h114 h115 (by simp))]; exact h114
  have h126 : gh118 q106 = some (gI 0 672 (fun _ => 0)) := by rw [egh118, gset_ne (gne h116 h115 (by simp))]; exact h116
  have h127 : gh118 xa = some (gO 11 [vi (0), vi (0), .ref q1, vi (0), .ref q10, .ref q21, .ref q34, .ref q49, .ref q66, .ref q85, .ref q106, vi (0), .null, .null, .null, .null, .null, .null, .null, .null, vi (0), .null, vi (0), .null, .null, .null, .null, vi (0)]) := by rw [egh118]; exact gset_eq
  have Rk128 := Rk117.put pc0_k117 (gO 11 [vi (0), vi (0), .ref q1, vi (0), .ref q10, .ref q21, .ref q34, .ref q49, .ref q66, .ref q85, .ref q106, vi (0), .null, .null, .null, .null, .null, .null, .null, .null, vi (0), .null, vi (0), .null, .null, .null, .null, vi (0)])
  obtain ⟨ctk128, ectk128⟩ : ∃ x, x = cup ctk117 (0, 0, 0) (gO 11 [vi (0), vi (0), .ref q1, vi (0), .ref q10, .ref q21, .ref q34, .ref q49, .ref q66, .ref q85, .ref q106, vi (0), .null, .null, .null, .null, .null, .null, .null, .null, vi (0), .null, vi (0), .null, .null, .null, .null, vi (0)]) := ⟨_, rfl⟩
  rw [pa0_k117, ← ectk128, ← egh118] at Rk128
  have pa0_k128 := pa0_k117
  have pc0_k128 : ctk128 (0, 0, 0) = some (gO 11 [vi (0), vi (0), .ref q1, vi (0), .ref q10, .ref q21, .ref q34, .ref q49, .ref q66, .ref q85, .ref q106, vi (0), .null, .null, .null, .null, .null, .null, .null, .null, vi (0), .null, vi (0), .null, .null, .null, .null, vi (0)]) := by rw [ectk128, cup_eq]
  have pa1_k128 := pa1_k117
  have pc1_k128 : ctk128 (1, 2, 0) = some (gI 0 8 (fun _ => 0)) := by rw [ectk128, cup_ne (by simp)]; exact pc1_k117
  have pa2_k128 := pa2_k117
  have pc2_k128 : ctk128 (1, 4, 0) = some (gI 1 14 (fun _ => 0)) := by rw [ectk128, cup_ne (by simp)]; exact pc2_k117
  have pa3_k128 := pa3_k117
  have pc3_k128 : ctk128 (1, 5, 0) = some (gI 1 14 (fun _ => 0)) := by rw [ectk128, cup_ne (by simp)]; exact pc3_k117
  have pa4_k128 := pa4_k117
  have pc4_k128 : ctk128 (1, 6, 0) = some (gI 1 14 (fun _ => 0)) := by rw [ectk128, cup_ne (by simp)]; exact pc4_k117
  have pa5_k128 := pa5_k117
  have pc5_k128 : ctk128 (1, 7, 0) = some (gI 1 14 (fun _ => 0)) := by rw [ectk128, cup_ne (by simp)]; exact pc5_k117
  have pa6_k128 := pa6_k117
  have pc6_k128 : ctk128 (1, 8, 0) = some (gI 1 84 (fun _ => 0)) := by rw [ectk128, cup_ne (by simp)]; exact pc6_k117
  have pa7_k128 := pa7_k117
  have pc7_k128 : ctk128 (1, 9, 0) = some (gI 1 84 (fun _ => 0)) := by rw [ectk128, cup_ne (by simp)]; exact pc7_k117
  have pa8_k128 := pa8_k117
  have pc8_k128 : ctk128 (1, 10, 0) = some (gI 0 672 (fun _ => 0)) := by rw [ectk128, cup_ne (by simp)]; exact pc8_k117
  have frk128 : ∀ t : Tg, (2 ≤ t.1) → ctk128 t = ct t ∧ adk117 t = ad t := fun t ht => by
    have e0 : t ≠ (0, 0, 0) := fun e => by rw [e] at ht; simp only at ht; omega
    exact ⟨(show ctk128 t = ctk117 t by rw [ectk128, cup_ne e0]).trans (frk117 t ht).1, (frk117 t ht).2⟩
  refine g_ald_n hC dX7_init_69 rfl ?_
  refine g_iconst hC dX7_init_70 rfl ?_
  refine g_newI (n := 4) hC dX7_init_71 ga_int rfl (by decide) (by decide) (by decide) (fun q129 hnq129 => ?_)
  obtain ⟨gh130, egh130⟩ : ∃ g_, g_ = gset gh118 q129 (gI 1 4 (fun _ => 0)) := ⟨_, rfl⟩
  rw [← egh130]
  have h131 : gh130 q1 = some (gI 0 8 (fun _ => 0)) := by rw [egh130, gset_ne (fun z => by rw [z, hnq129] at h119; cases h119)]; exact h119
  have h132 : gh130 q10 = some (gI 1 14 (fun _ => 0)) := by rw [egh130, gset_ne (fun z => by rw [z, hnq129] at h120; cases h120)]; exact h120
  have h133 : gh130 q21 = some (gI 1 14 (fun _ => 0)) := by rw [egh130, gset_ne (fun z => by rw [z, hnq129] at h121; cases h121)]; exact h121
  have h134 : gh130 q34 = some (gI 1 14 (fun _ => 0)) := by rw [egh130, gset_ne (fun z => by rw [z, hnq129] at h122; cases h122)]; exact h122
  have h135 : gh130 q49 = some (gI 1 14 (fun _ => 0)) := by rw [egh130, gset_ne (fun z => by rw [z, hnq129] at h123; cases h123)]; exact h123
  have h136 : gh130 q66 = some (gI 1 84 (fun _ => 0)) := by rw [egh130, gset_ne (fun z => by rw [z, hnq129] at h124; cases h124)]; exact h124
  have h137 : gh130 q85 = some (gI 1 84 (fun _ => 0)) := by rw [egh130, gset_ne (fun z => by rw [z, hnq129] at h125; cases h125)]; exact h125
  have h138 : gh130 q106 = some (gI 0 672 (fun _ => 0)) := by rw [egh130, gset_ne (fun z => by rw [z, hnq129] at h126; cases h126)]; exact h126
  have h139 : gh130 xa = some (gO 11 [vi (0), vi (0), .ref q1, vi (0), .ref q10, .ref q21, .ref q34, .ref q49, .ref q66, .ref q85, .ref q106, vi (0), .null, .null, .null, .null, .null, .null, .null, .null, vi (0), .null, vi (0), .null, .null, .null, .null, vi (0)]) := by rw [egh130, gset_ne (fun z => by rw [z, hnq129] at h127; cases h127)]; exact h127
  have h140 : gh130 q129 = some (gI 1 4 (fun _ => 0)) := by rw [egh130]; exact gset_eq
  have Rk141 := Rk128.new (t := (1, 12, 0)) hnq129 (gI 1 4 (fun _ => 0))
  obtain ⟨adk141, eadk141⟩ : ∃ x, x = aup adk117 (1, 12, 0) q129 := ⟨_, rfl⟩
  obtain ⟨ctk141, ectk141⟩ : ∃ x, x = cup ctk128 (1, 12, 0) (gI 1 4 (fun _ => 0)) := ⟨_, rfl⟩
  rw [← eadk141, ← ectk141, ← egh130] at Rk141
  have pa0_k141 : adk141 (0, 0, 0) = xa := by rw [eadk141, aup_ne (by simp)]; exact pa0_k128
  have pc0_k141 : ctk141 (0, 0, 0) = some (gO 11 [vi (0), vi (0), .ref q1, vi (0), .ref q10, .ref q21, .ref q34, .ref q49, .ref q66, .ref q85, .ref q106, vi (0), .null, .null, .null, .null, .null, .null, .null, .null, vi (0), .null, vi (0), .null, .null, .null, .null, vi (0)]) := by rw [ectk141, cup_ne (by simp)]; exact pc0_k128
  have pa1_k141 : adk141 (1, 2, 0) = q1 := by rw [eadk141, aup_ne (by simp)]; exact pa1_k128
  have pc1_k141 : ctk141 (1, 2, 0) = some (gI 0 8 (fun _ => 0)) := by rw [ectk141, cup_ne (by simp)]; exact pc1_k128
  have pa2_k141 : adk141 (1, 4, 0) = q10 := by rw [eadk141, aup_ne (by simp)]; exact pa2_k128
  have pc2_k141 : ctk141 (1, 4, 0) = some (gI 1 14 (fun _ => 0)) := by rw [ectk141, cup_ne (by simp)]; exact pc2_k128
  have pa3_k141 : adk141 (1, 5, 0) = q21 := by rw [eadk141, aup_ne (by simp)]; exact pa3_k128
  have pc3_k141 : ctk141 (1, 5, 0) = some (gI 1 14 (fun _ => 0)) := by rw [ectk141, cup_ne (by simp)]; exact pc3_k128
  have pa4_k141 : adk141 (1, 6, 0) = q34 := by rw [eadk141, aup_ne (by simp)]; exact pa4_k128
  have pc4_k141 : ctk141 (1, 6, 0) = some (gI 1 14 (fun _ => 0)) := by rw [ectk141, cup_ne (by simp)]; exact pc4_k128
  have pa5_k141 : adk141 (1, 7, 0) = q49 := by rw [eadk141, aup_ne (by simp)]; exact pa5_k128
  have pc5_k141 : ctk141 (1, 7, 0) = some (gI 1 14 (fun _ => 0)) := by rw [ectk141, cup_ne (by simp)]; exact pc5_k128
  have pa6_k141 : adk141 (1, 8, 0) = q66 := by rw [eadk141, aup_ne (by simp)]; exact pa6_k128
  have pc6_k141 : ctk141 (1, 8, 0) = some (gI 1 84 (fun _ => 0)) := by rw [ectk141, cup_ne (by simp)]; exact pc6_k128
  have pa7_k141 : adk141 (1, 9, 0) = q85 := by rw [eadk141, aup_ne (by simp)]; exact pa7_k128
  have pc7_k141 : ctk141 (1, 9, 0) = some (gI 1 84 (fun _ => 0)) := by rw [ectk141, cup_ne (by simp)]; exact pc7_k128
  have pa8_k141 : adk141 (1, 10, 0) = q106 := by rw [eadk141, aup_ne (by simp)]; exact pa8_k128
  have pc8_k141 : ctk141 (1, 10, 0) = some (gI 0 672 (fun _ => 0)) := by rw [ectk141, cup_ne (by simp)]; exact pc8_k128
  have pa9_k141 : adk141 (1, 12, 0) = q129 := by rw [eadk141, aup_eq]
  have pc9_k141 : ctk141 (1, 12, 0) = some (gI 1 4 (fun _ => 0)) := by rw [ectk141, cup_eq]
  have frk141 : ∀ t : Tg, (2 ≤ t.1) → ctk141 t = ct t ∧ adk141 t = ad t := fun t ht => by
    have e0 : t ≠ (1, 12, 0) := fun e => by rw [e] at ht; simp only at ht; omega
    exact ⟨(show ctk141 t = ctk128 t by rw [ectk141, cup_ne e0]).trans (frk128 t ht).1, (show adk141 t = adk117 t by rw [eadk141, aup_ne e0]).trans (frk128 t ht).2⟩
  refine g_putF hC hq (fs' := [vi (0), vi (0), .ref q1, vi (0), .ref q10, .ref q21, .ref q34, .ref q49, .ref q66, .ref q85, .ref q106, vi (0), .ref q129, .null, .null, .null, .null, .null, .null, .null, vi (0), .null, vi (0), .null, .null, .null, .null, vi (0)]) dX7_init_73 gp_RX7_35 h139 ⟨rfl, rfl⟩ rfl (Nat.le_of_ble_eq_true rfl) ?_
  obtain ⟨gh142, egh142⟩ : ∃ g_, g_ = gset gh130 xa (gO 11 [vi (0), vi (0), .ref q1, vi (0), .ref q10, .ref q21, .ref q34, .ref q49, .ref q66, .ref q85, .ref q106, vi (0), .ref q129, .null, .null, .null, .null, .null, .null, .null, vi (0), .null, vi (0), .null, .null, .null, .null, vi (0)]) := ⟨_, rfl⟩
  rw [← egh142]
  have h143 : gh142 q1 = some (gI 0 8 (fun _ => 0)) := by rw [egh142, gset_ne (gne h131 h139 (by simp))]; exact h131
  have h144 : gh142 q10 = some (gI 1 14 (fun _ => 0)) := by rw [egh142, gset_ne (gne h132 h139 (by simp))]; exact h132
  have h145 : gh142 q21 = some (gI 1 14 (fun _ => 0)) := by rw [egh142, gset_ne (gne h133 h139 (by simp))]; exact h133
  have h146 : gh142 q34 = some (gI 1 14 (fun _ => 0)) := by rw [egh142, gset_ne (gne h134 h139 (by simp))]; exact h134
  have h147 : gh142 q49 = some (gI 1 14 (fun _ => 0)) := by rw [egh142, gset_ne (gne h135 h139 (by simp))]; exact h135
  have h148 : gh142 q66 = some (gI 1 84 (fun _ => 0)) := by rw [egh142, gset_ne (gne h136 h139 (by simp))]; exact h136
  have h149 : gh142 q85 = some (gI 1 84 (fun _ => 0)) := by rw [egh142, gset_ne (gne h137 h139 (by simp))]; exact h137
  have h150 : gh142 q106 = some (gI 0 672 (fun _ => 0)) := by rw [egh142, gset_ne (gne h138 h139 (by simp))]; exact h138
  have h151 : gh142 q129 = some (gI 1 4 (fun _ => 0)) := by rw [egh142, gset_ne (gne h140 h139 (by simp))]; exact h140
  have h152 : gh142 xa = some (gO 11 [vi (0), vi (0), .ref q1, vi (0), .ref q10, .ref q21, .ref q34, .ref q49, .ref q66, .ref q85, .ref q106, vi (0), .ref q129, .null, .null, .null, .null, .null, .null, .null, vi (0), .null, vi (0), .null, .null, .null, .null, vi (0)]) := by rw [egh142]; exact gset_eq
  have Rk153 := Rk141.put pc0_k141 (gO 11 [vi (0), vi (0), .ref q1, vi (0), .ref q10, .ref q21, .ref q34, .ref q49, .ref q66, .ref q85, .ref q106, vi (0), .ref q129, .null, .null, .null, .null, .null, .null, .null, vi (0), .null, vi (0), .null, .null, .null, .null, vi (0)])
  obtain ⟨ctk153, ectk153⟩ : ∃ x, x = cup ctk141 (0, 0, 0) (gO 11 [vi (0), vi (0), .ref q1, vi (0), .ref q10, .ref q21, .ref q34, .ref q49, .ref q66, .ref q85, .ref q106, vi (0), .ref q129, .null, .null, .null, .null, .null, .null, .null, vi (0), .null, vi (0), .null, .null, .null, .null, vi (0)]) := ⟨_, rfl⟩
  rw [pa0_k141, ← ectk153, ← egh142] at Rk153
  have pa0_k153 := pa0_k141
  have pc0_k153 : ctk153 (0, 0, 0) = some (gO 11 [vi (0), vi (0), .ref q1, vi (0), .ref q10, .ref q21, .ref q34, .ref q49, .ref q66, .ref q85, .ref q106, vi (0), .ref q129, .null, .null, .null, .null, .null, .null, .null, vi (0), .null, vi (0), .null, .null, .null, .null, vi (0)]) := by rw [ectk153, cup_eq]
  have pa1_k153 := pa1_k141
  have pc1_k153 : ctk153 (1, 2, 0) = some (gI 0 8 (fun _ => 0)) := by rw [ectk153, cup_ne (by simp)]; exact pc1_k141
  have pa2_k153 := pa2_k141
  have pc2_k153 : ctk153 (1, 4, 0) = some (gI 1 14 (fun _ => 0)) := by rw [ectk153, cup_ne (by simp)]; exact pc2_k141
  have pa3_k153 := pa3_k141
  have pc3_k153 : ctk153 (1, 5, 0) = some (gI 1 14 (fun _ => 0)) := by rw [ectk153, cup_ne (by simp)]; exact pc3_k141
  have pa4_k153 := pa4_k141
  have pc4_k153 : ctk153 (1, 6, 0) = some (gI 1 14 (fun _ => 0)) := by rw [ectk153, cup_ne (by simp)]; exact pc4_k141
  have pa5_k153 := pa5_k141
  have pc5_k153 : ctk153 (1, 7, 0) = some (gI 1 14 (fun _ => 0)) := by rw [ectk153, cup_ne (by simp)]; exact pc5_k141
  have pa6_k153 := pa6_k141
  have pc6_k153 : ctk153 (1, 8, 0) = some (gI 1 84 (fun _ => 0)) := by rw [ectk153, cup_ne (by simp)]; exact pc6_k141
  have pa7_k153 := pa7_k141
  have pc7_k153 : ctk153 (1, 9, 0) = some (gI 1 84 (fun _ => 0)) := by rw [ectk153, cup_ne (by simp)]; exact pc7_k141
  have pa8_k153 := pa8_k141
  have pc8_k153 : ctk153 (1, 10, 0) = some (gI 0 672 (fun _ => 0)) := by rw [ectk153, cup_ne (by simp)]; exact pc8_k141
  have pa9_k153 := pa9_k141
  have pc9_k153 : ctk153 (1, 12, 0) = some (gI 1 4 (fun _ => 0)) := by rw [ectk153, cup_ne (by simp)]; exact pc9_k141
  have frk153 : ∀ t : Tg, (2 ≤ t.1) → ctk153 t = ct t ∧ adk141 t = ad t := fun t ht => by
    have e0 : t ≠ (0, 0, 0) := fun e => by rw [e] at ht; simp only at ht; omega
    exact ⟨(show ctk153 t = ctk141 t by rw [ectk153, cup_ne e0]).trans (frk141 t ht).1, (frk141 t ht).2⟩
  refine g_ald_n hC dX7_init_76 rfl ?_
  refine g_iconst hC dX7_init_77 rfl ?_
  refine g_newI (n := 4) hC dX7_init_78 ga_int rfl (by decide) (by decide) (by decide) (fun q154 hnq154 => ?_)
  obtain ⟨gh155, egh155⟩ : ∃ g_, g_ = gset gh142 q154 (gI 1 4 (fun _ => 0)) := ⟨_, rfl⟩
  rw [← egh155]
  have h156 : gh155 q1 = some (gI 0 8 (fun _ => 0)) := by rw [egh155, gset_ne (fun z => by rw [z, hnq154] at h143; cases h143)]; exact h143
  have h157 : gh155 q10 = some (gI 1 14 (fun _ => 0)) := by rw [egh155, gset_ne (fun z => by rw [z, hnq154] at h144; cases h144)]; exact h144
  have h158 : gh155 q21 = some (gI 1 14 (fun _ => 0)) := by rw [egh155, gset_ne (fun z => by rw [z, hnq154] at h145; cases h145)]; exact h145
  have h159 : gh155 q34 = some (gI 1 14 (fun _ => 0)) := by rw [egh155, gset_ne (fun z => by rw [z, hnq154] at h146; cases h146)]; exact h146
  have h160 : gh155 q49 = some (gI 1 14 (fun _ => 0)) := by rw [egh155, gset_ne (fun z => by rw [z, hnq154] at h147; cases h147)]; exact h147
  have h161 : gh155 q66 = some (gI 1 84 (fun _ => 0)) := by rw [egh155, gset_ne (fun z => by rw [z, hnq154] at h148; cases h148)]; exact h148
  have h162 : gh155 q85 = some (gI 1 84 (fun _ => 0)) := by rw [egh155, gset_ne (fun z => by rw [z, hnq154] at h149; cases h149)]; exact h149
  have h163 : gh155 q106 = some (gI 0 672 (fun _ => 0)) := by rw [egh155, gset_ne (fun z => by rw [z, hnq154] at h150; cases h150)]; exact h150
  have h164 : gh155 q129 = some (gI 1 4 (fun _ => 0)) := by rw [egh155, gset_ne (fun z => by rw [z, hnq154] at h151; cases h151)]; exact h151
  have h165 : gh155 xa = some (gO 11 [vi (0), vi (0), .ref q1, vi (0), .ref q10, .ref q21, .ref q34, .ref q49, .ref q66, .ref q85, .ref q106, vi (0), .ref q129, .null, .null, .null, .null, .null, .null, .null, vi (0), .null, vi (0), .null, .null, .null, .null, vi (0)]) := by rw [egh155, gset_ne (fun z => by rw [z, hnq154] at h152; cases h152)]; exact h152
  have h166 : gh155 q154 = some (gI 1 4 (fun _ => 0)) := by rw [egh155]; exact gset_eq
  have Rk167 := Rk153.new (t := (1, 13, 0)) hnq154 (gI 1 4 (fun _ => 0))
  obtain ⟨adk167, eadk167⟩ : ∃ x, x = aup adk141 (1, 13, 0) q154 := ⟨_, rfl⟩
  obtain ⟨ctk167, ectk167⟩ : ∃ x, x = cup ctk153 (1, 13, 0) (gI 1 4 (fun _ => 0)) := ⟨_, rfl⟩
  rw [← eadk167, ← ectk167, ← egh155] at Rk167
  have pa0_k167 : adk167 (0, 0, 0) = xa := by rw [eadk167, aup_ne (by simp)]; exact pa0_k153
  have pc0_k167 : ctk167 (0, 0, 0) = some (gO 11 [vi (0), vi (0), .ref q1, vi (0), .ref q10, .ref q21, .ref q34, .ref q49, .ref q66, .ref q85, .ref q106, vi (0), .ref q129, .null, .null, .null, .null, .null, .null, .null, vi (0), .null, vi (0), .null, .null, .null, .null, vi (0)]) := by rw [ectk167, cup_ne (by simp)]; exact pc0_k153
  have pa1_k167 : adk167 (1, 2, 0) = q1 := by rw [eadk167, aup_ne (by simp)]; exact pa1_k153
  have pc1_k167 : ctk167 (1, 2, 0) = some (gI 0 8 (fun _ => 0)) := by rw [ectk167, cup_ne (by simp)]; exact pc1_k153
  have pa2_k167 : adk167 (1, 4, 0) = q10 := by rw [eadk167, aup_ne (by simp)]; exact pa2_k153
  have pc2_k167 : ctk167 (1, 4, 0) = some (gI 1 14 (fun _ => 0)) := by rw [ectk167, cup_ne (by simp)]; exact pc2_k153
  have pa3_k167 : adk167 (1, 5, 0) = q21 := by rw [eadk167, aup_ne (by simp)]; exact pa3_k153
  have pc3_k167 : ctk167 (1, 5, 0) = some (gI 1 14 (fun _ => 0)) := by rw [ectk167, cup_ne (by simp)]; exact pc3_k153
  have pa4_k167 : adk167 (1, 6, 0) = q34 := by rw [eadk167, aup_ne (by simp)]; exact pa4_k153
  have pc4_k167 : ctk167 (1, 6, 0) = some (gI 1 14 (fun _ => 0)) := by rw [ectk167, cup_ne (by simp)]; exact pc4_k153
  have pa5_k167 : adk167 (1, 7, 0) = q49 := by rw [eadk167, aup_ne (by simp)]; exact pa5_k153
  have pc5_k167 : ctk167 (1, 7, 0) = some (gI 1 14 (fun _ => 0)) := by rw [ectk167, cup_ne (by simp)]; exact pc5_k153
  have pa6_k167 : adk167 (1, 8, 0) = q66 := by rw [eadk167, aup_ne (by simp)]; exact pa6_k153
  have pc6_k167 : ctk167 (1, 8, 0) = some (gI 1 84 (fun _ => 0)) := by rw [ectk167, cup_ne (by simp)]; exact pc6_k153
  have pa7_k167 : adk167 (1, 9, 0) = q85 := by rw [eadk167, aup_ne (by simp)]; exact pa7_k153
  have pc7_k167 : ctk167 (1, 9, 0) = some (gI 1 84 (fun _ => 0)) := by rw [ectk167, cup_ne (by simp)]; exact pc7_k153
  have pa8_k167 : adk167 (1, 10, 0) = q106 := by rw [eadk167, aup_ne (by simp)]; exact pa8_k153
  have pc8_k167 : ctk167 (1, 10, 0) = some (gI 0 672 (fun _ => 0)) := by rw [ectk167, cup_ne (by simp)]; exact pc8_k153
  have pa9_k167 : adk167 (1, 12, 0) = q129 := by rw [eadk167, aup_ne (by simp)]; exact pa9_k153
  have pc9_k167 : ctk167 (1, 12, 0) = some (gI 1 4 (fun _ => 0)) := by rw [ectk167, cup_ne (by simp)]; exact pc9_k153
  have pa10_k167 : adk167 (1, 13, 0) = q154 := by rw [eadk167, aup_eq]
  have pc10_k167 : ctk167 (1, 13, 0) = some (gI 1 4 (fun _ => 0)) := by rw [ectk167, cup_eq]
  have frk167 : ∀ t : Tg, (2 ≤ t.1) → ctk167 t = ct t ∧ adk167 t = ad t := fun t ht => by
    have e0 : t ≠ (1, 13, 0) := fun e => by rw [e] at ht; simp only at ht; omega
    exact ⟨(show ctk167 t = ctk153 t by rw [ectk167, cup_ne e0]).trans (frk153 t ht).1, (show adk167 t = adk141 t by rw [eadk167, aup_ne e0]).trans (frk153 t ht).2⟩
  refine g_putF hC hq (fs' := [vi (0), vi (0), .ref q1, vi (0), .ref q10, .ref q21, .ref q34, .ref q49, .ref q66, .ref q85, .ref q106, vi (0), .ref q129, .ref q154, .null, .null, .null, .null, .null, .null, vi (0), .null, vi (0), .null, .null, .null, .null, vi (0)]) dX7_init_80 gp_RX7_38 h165 ⟨rfl, rfl⟩ rfl (Nat.le_of_ble_eq_true rfl) ?_
  obtain ⟨gh168, egh168⟩ : ∃ g_, g_ = gset gh155 xa (gO 11 [vi (0), vi (0), .ref q1, vi (0), .ref q10, .ref q21, .ref q34, .ref q49, .ref q66, .ref q85, .ref q106, vi (0), .ref q129, .ref q154, .null, .null, .null, .null, .null, .null, vi (0), .null, vi (0), .null, .null, .null, .null, vi (0)]) := ⟨_, rfl⟩
  rw [← egh168]
  have h169 : gh168 q1 = some (gI 0 8 (fun _ => 0)) := by rw [egh168, gset_ne (gne h156 h165 (by simp))]; exact h156
  have h170 : gh168 q10 = some (gI 1 14 (fun _ => 0)) := by rw [egh168, gset_ne (gne h157 h165 (by simp))]; exact h157
  have h171 : gh168 q21 = some (gI 1 14 (fun _ => 0)) := by rw [egh168, gset_ne (gne h158 h165 (by simp))]; exact h158
  have h172 : gh168 q34 = some (gI 1 14 (fun _ => 0)) := by rw [egh168, gset_ne (gne h159 h165 (by simp))]; exact h159
  have h173 : gh168 q49 = some (gI 1 14 (fun _ => 0)) := by rw [egh168, gset_ne (gne h160 h165 (by simp))]; exact h160
  have h174 : gh168 q66 = some (gI 1 84 (fun _ => 0)) := by rw [egh168, gset_ne (gne h161 h165 (by simp))]; exact h161
  have h175 : gh168 q85 = some (gI 1 84 (fun _ => 0)) := by rw [egh168, gset_ne (gne h162 h165 (by simp))]; exact h162
  have h176 : gh168 q106 = some (gI 0 672 (fun _ => 0)) := by rw [egh168, gset_ne (gne h163 h165 (by simp))]; exact h163
  have h177 : gh168 q129 = some (gI 1 4 (fun _ => 0)) := by rw [egh168, gset_ne (gne h164 h165 (by simp))]; exact h164
  have h178 : gh168 q154 = some (gI 1 4 (fun _ => 0)) := by rw [egh168, gset_ne (gne h166 h165 (by simp))]; exact h166
  have h179 : gh168 xa = some (gO 11 [vi (0), vi (0), .ref q1, vi (0), .ref q10, .ref q21, .ref q34, .ref q49, .ref q66, .ref q85, .ref q106, vi (0), .ref q129, .ref q154, .null, .null, .null, .null, .null, .null, vi (0), .null, vi (0), .null, .null, .null, .null, vi (0)]) := by rw [egh168]; exact gset_eq
  have Rk180 := Rk167.put pc0_k167 (gO 11 [vi (0), vi (0), .ref q1, vi (0), .ref q10, .ref q21, .ref q34, .ref q49, .ref q66, .ref q85, .ref q106, vi (0), .ref q129, .ref q154, .null, .null, .null, .null, .null, .null, vi (0), .null, vi (0), .null, .null, .null, .null, vi (0)])
  obtain ⟨ctk180, ectk180⟩ : ∃ x, x = cup ctk167 (0, 0, 0) (gO 11 [vi (0), vi (0), .ref q1, vi (0), .ref q10, .ref q21, .ref q34, .ref q49, .ref q66, .ref q85, .ref q106, vi (0), .ref q129, .ref q154, .null, .null, .null, .null, .null, .null, vi (0), .null, vi (0), .null, .null, .null, .null, vi (0)]) := ⟨_, rfl⟩
  rw [pa0_k167, ← ectk180, ← egh168] at Rk180
  have pa0_k180 := pa0_k167
  have pc0_k180 : ctk180 (0, 0, 0) = some (gO 11 [vi (0), vi (0), .ref q1, vi (0), .ref q10, .ref q21, .ref q34, .ref q49, .ref q66, .ref q85, .ref q106, vi (0), .ref q129, .ref q154, .null, .null, .null, .null, .null, .null, vi (0), .null, vi (0), .null, .null, .null, .null, vi (0)]) := by rw [ectk180, cup_eq]
  have pa1_k180 := pa1_k167
  have pc1_k180 : ctk180 (1, 2, 0) = some (gI 0 8 (fun _ => 0)) := by rw [ectk180, cup_ne (by simp)]; exact pc1_k167
  have pa2_k180 := pa2_k167
  have pc2_k180 : ctk180 (1, 4, 0) = some (gI 1 14 (fun _ => 0)) := by rw [ectk180, cup_ne (by simp)]; exact pc2_k167
  have pa3_k180 := pa3_k167
  have pc3_k180 : ctk180 (1, 5, 0) = some (gI 1 14 (fun _ => 0)) := by rw [ectk180, cup_ne (by simp)]; exact pc3_k167
  have pa4_k180 := pa4_k167
  have pc4_k180 : ctk180 (1, 6, 0) = some (gI 1 14 (fun _ => 0)) := by rw [ectk180, cup_ne (by simp)]; exact pc4_k167
  have pa5_k180 := pa5_k167
  have pc5_k180 : ctk180 (1, 7, 0) = some (gI 1 14 (fun _ => 0)) := by rw [ectk180, cup_ne (by simp)]; exact pc5_k167
  have pa6_k180 := pa6_k167
  have pc6_k180 : ctk180 (1, 8, 0) = some (gI 1 84 (fun _ => 0)) := by rw [ectk180, cup_ne (by simp)]; exact pc6_k167
  have pa7_k180 := pa7_k167
  have pc7_k180 : ctk180 (1, 9, 0) = some (gI 1 84 (fun _ => 0)) := by rw [ectk180, cup_ne (by simp)]; exact pc7_k167
  have pa8_k180 := pa8_k167
  have pc8_k180 : ctk180 (1, 10, 0) = some (gI 0 672 (fun _ => 0)) := by rw [ectk180, cup_ne (by simp)]; exact pc8_k167
  have pa9_k180 := pa9_k167
  have pc9_k180 : ctk180 (1, 12, 0) = some (gI 1 4 (fun _ => 0)) := by rw [ectk180, cup_ne (by simp)]; exact pc9_k167
  have pa10_k180 := pa10_k167
  have pc10_k180 : ctk180 (1, 13, 0) = some (gI 1 4 (fun _ => 0)) := by rw [ectk180, cup_ne (by simp)]; exact pc10_k167
  have frk180 : ∀ t : Tg, (2 ≤ t.1) → ctk180 t = ct t ∧ adk167 t = ad t := fun t ht => by
    have e0 : t ≠ (0, 0, 0) := fun e => by rw [e] at ht; simp only at ht; omega
    exact ⟨(show ctk180 t = ctk167 t by rw [ectk180, cup_ne e0]).trans (frk167 t ht).1, (frk167 t ht).2⟩
  refine g_ald_n hC dX7_init_83 rfl ?_
  refine g_iconst hC dX7_init_84 rfl ?_
  refine g_newI (n := 4) hC dX7_init_85 ga_int rfl (by decide) (by decide) (by decide) (fun q181 hnq181 => ?_)
  obtain ⟨gh182, egh182⟩ : ∃ g_, g_ = gset gh168 q181 (gI 1 4 (fun _ => 0)) := ⟨_, rfl⟩
  rw [← egh182]
  have h183 : gh182 q1 = some (gI 0 8 (fun _ => 0)) := by rw [egh182, gset_ne (fun z => by rw [z, hnq181] at h169; cases h169)]; exact h169
  have h184 : gh182 q10 = some (gI 1 14 (fun _ => 0)) := by rw [egh182, gset_ne (fun z => by rw [z, hnq181] at h170; cases h170)]; exact h170
  have h185 : gh182 q21 = some (gI 1 14 (fun _ => 0)) := by rw [egh182, gset_ne (fun z => by rw [z, hnq181] at h171; cases h171)]; exact h171
  have h186 : gh182 q34 = some (gI 1 14 (fun _ => 0)) := by rw [egh182, gset_ne (fun z => by rw [z, hnq181] at h172; cases h172)]; exact h172
  have h187 : gh182 q49 = some (gI 1 14 (fun _ => 0)) := by rw [egh182, gset_ne (fun z => by rw [z, hnq181] at h173; cases h173)]; exact h173
  have h188 : gh182 q66 = some (gI 1 84 (fun _ => 0)) := by rw [egh182, gset_ne (fun z => by rw [z, hnq181] at h174; cases h174)]; exact h174
  have h189 : gh182 q85 = some (gI 1 84 (fun _ => 0)) := by rw [egh182, gset_ne (fun z => by rw [z, hnq181] at h175; cases h175)]; exact h175
  have h190 : gh182 q106 = some (gI 0 672 (fun _ => 0)) := by rw [egh182, gset_ne (fun z => by rw [z, hnq181] at h176; cases h176)]; exact h176
  have h191 : gh182 q129 = some (gI 1 4 (fun _ => 0)) := by rw [egh182, gset_ne (fun z => by rw [z, hnq181] at h177; cases h177)]; exact h177
  have h192 : gh182 q154 = some (gI 1 4 (fun _ => 0)) := by rw [egh182, gset_ne (fun z => by rw [z, hnq181] at h178; cases h178)]; exact h178
  have h193 : gh182 xa = some (gO 11 [vi (0), vi (0), .ref q1, vi (0), .ref q10, .ref q21, .ref q34, .ref q49, .ref q66, .ref q85, .ref q106, vi (0), .ref q129, .ref q154, .null, .null, .null, .null, .null, .null, vi (0), .null, vi (0), .null, .null, .null, .null, vi (0)]) := by rw [egh182, gset_ne (fun z => by rw [z, hnq181] at h179; cases h179)]; exact h179
  have h194 : gh182 q181 = some (gI 1 4 (fun _ => 0)) := by rw [egh182]; exact gset_eq
  have Rk195 := Rk180.new (t := (1, 14, 0)) hnq181 (gI 1 4 (fun _ => 0))
  obtain ⟨adk195, eadk195⟩ : ∃ x, x = aup adk167 (1, 14, 0) q181 := ⟨_, rfl⟩
  obtain ⟨ctk195, ectk195⟩ : ∃ x, x = cup ctk180 (1, 14, 0) (gI 1 4 (fun _ => 0)) := ⟨_, rfl⟩
  rw [← eadk195, ← ectk195, ← egh182] at Rk195
  have pa0_k195 : adk195 (0, 0, 0) = xa := by rw [eadk195, aup_ne (by simp)]; exact pa0_k180
  have pc0_k195 : ctk195 (0, 0, 0) = some (gO 11 [vi (0), vi (0), .ref q1, vi (0), .ref q10, .ref q21, .ref q34, .ref q49, .ref q66, .ref q85, .ref q106, vi (0), .ref q129, .ref q154, .null, .null, .null, .null, .null, .null, vi (0), .null, vi (0), .null, .null, .null, .null, vi (0)]) := by rw [ectk195, cup_ne (by simp)]; exact pc0_k180
  have pa1_k195 : adk195 (1, 2, 0) = q1 := by rw [eadk195, aup_ne (by simp)]; exact pa1_k180
  have pc1_k195 : ctk195 (1, 2, 0) = some (gI 0 8 (fun _ => 0)) := by rw [ectk195, cup_ne (by simp)]; exact pc1_k180
  have pa2_k195 : adk195 (1, 4, 0) = q10 := by rw [eadk195, aup_ne (by simp)]; exact pa2_k180
  have pc2_k195 : ctk195 (1, 4, 0) = some (gI 1 14 (fun _ => 0)) := by rw [ectk195, cup_ne (by simp)]; exact pc2_k180
  have pa3_k195 : adk195 (1, 5, 0) = q21 := by rw [eadk195, aup_ne (by simp)]; exact pa3_k180
  have pc3_k195 : ctk195 (1, 5, 0) = some (gI 1 14 (fun _ => 0)) := by rw [ectk195, cup_ne (by simp)]; exact pc3_k180
  have pa4_k195 : adk195 (1, 6, 0) = q34 := by rw [eadk195, aup_ne (by simp)]; exact pa4_k180
  have pc4_k195 : ctk195 (1, 6, 0) = some (gI 1 14 (fun _ => 0)) := by rw [ectk195, cup_ne (by simp)]; exact pc4_k180
  have pa5_k195 : adk195 (1, 7, 0) = q49 := by rw [eadk195, aup_ne (by simp)]; exact pa5_k180
  have pc5_k195 : ctk195 (1, 7, 0) = some (gI 1 14 (fun _ => 0)) := by rw [ectk195, cup_ne (by simp)]; exact pc5_k180
  have pa6_k195 : adk195 (1, 8, 0) = q66 := by rw [eadk195, aup_ne (by simp)]; exact pa6_k180
  have pc6_k195 : ctk195 (1, 8, 0) = some (gI 1 84 (fun _ => 0)) := by rw [ectk195, cup_ne (by simp)]; exact pc6_k180
  have pa7_k195 : adk195 (1, 9, 0) = q85 := by rw [eadk195, aup_ne (by simp)]; exact pa7_k180
  have pc7_k195 : ctk195 (1, 9, 0) = some (gI 1 84 (fun _ => 0)) := by rw [ectk195, cup_ne (by simp)]; exact pc7_k180
  have pa8_k195 : adk195 (1, 10, 0) = q106 := by rw [eadk195, aup_ne (by simp)]; exact pa8_k180
  have pc8_k195 : ctk195 (1, 10, 0) = some (gI 0 672 (fun _ => 0)) := by rw [ectk195, cup_ne (by simp)]; exact pc8_k180
  have pa9_k195 : adk195 (1, 12, 0) = q129 := by rw [eadk195, aup_ne (by simp)]; exact pa9_k180
  have pc9_k195 : ctk195 (1, 12, 0) = some (gI 1 4 (fun _ => 0)) := by rw [ectk195, cup_ne (by simp)]; exact pc9_k180
  have pa10_k195 : adk195 (1, 13, 0) = q154 := by rw [eadk195, aup_ne (by simp)]; exact pa10_k180
  have pc10_k195 : ctk195 (1, 13, 0) = some (gI 1 4 (fun _ => 0)) := by rw [ectk195, cup_ne (by simp)]; exact pc10_k180
  have pa11_k195 : adk195 (1, 14, 0) = q181 := by rw [eadk195, aup_eq]
  have pc11_k195 : ctk195 (1, 14, 0) = some (gI 1 4 (fun _ => 0)) := by rw [ectk195, cup_eq]
  have frk195 : ∀ t : Tg, (2 ≤ t.1) → ctk195 t = ct t ∧ adk195 t = ad t := fun t ht => by
    have e0 : t ≠ (1, 14, 0) := fun e => by rw [e] at ht; simp only at ht; omega
    exact ⟨(show ctk195 t = ctk180 t by rw [ectk195, cup_ne e0]).trans (frk180 t ht).1, (show adk195 t = adk167 t by rw [eadk195, aup_ne e0]).trans (frk180 t ht).2⟩
  refine g_putF hC hq (fs' := [vi (0), vi (0), .ref q1, vi (0), .ref q10, .ref q21, .ref q34, .ref q49, .ref q66, .ref q85, .ref q106, vi (0), .ref q129, .ref q154, .ref q181, .null, .null, .null, .null, .null, vi (0), .null, vi (0), .null, .null, .null, .null, vi (0)]) dX7_init_87 gp_RX7_41 h193 ⟨rfl, rfl⟩ rfl (Nat.le_of_ble_eq_true rfl) ?_
  obtain ⟨gh196, egh196⟩ : ∃ g_, g_ = gset gh182 xa (gO 11 [vi (0), vi (0), .ref q1, vi (0), .ref q10, .ref q21, .ref q34, .ref q49, .ref q66, .ref q85, .ref q106, vi (0), .ref q129, .ref q154, .ref q181, .null, .null, .null, .null, .null, vi (0), .null, vi (0), .null, .null, .null, .null, vi (0)]) := ⟨_, rfl⟩
  rw [← egh196]
  have h197 : gh196 q1 = some (gI 0 8 (fun _ => 0)) := by rw [egh196, gset_ne (gne h183 h193 (by simp))]; exact h183
  have h198 : gh196 q10 = some (gI 1 14 (fun _ => 0)) := by rw [egh196, gset_ne (gne h184 h193 (by simp))]; exact h184
  have h199 : gh196 q21 = some (gI 1 14 (fun _ => 0)) := by rw [egh196, gset_ne (gne h185 h193 (by simp))]; exact h185
  have h200 : gh196 q34 = some (gI 1 14 (fun _ => 0)) := by rw [egh196, gset_ne (gne h186 h193 (by simp))]; exact h186
  have h201 : gh196 q49 = some (gI 1 14 (fun _ => 0)) := by rw [egh196, gset_ne (gne h187 h193 (by simp))]; exact h187
  have h202 : gh196 q66 = some (gI 1 84 (fun _ => 0)) := by rw [egh196, gset_ne (gne h188 h193 (by simp))]; exact h188
  have h203 : gh196 q85 = some (gI 1 84 (fun _ => 0)) := by rw [egh196, gset_ne (gne h189 h193 (by simp))]; exact h189
  have h204 : gh196 q106 = some (gI 0 672 (fun _ => 0)) := by rw [egh196, gset_ne (gne h190 h193 (by simp))]; exact h190
  have h205 : gh196 q129 = some (gI 1 4 (fun _ => 0)) := by rw [egh196, gset_ne (gne h191 h193 (by simp))]; exact h191
  have h206 : gh196 q154 = some (gI 1 4 (fun _ => 0)) := by rw [egh196, gset_ne (gne h192 h193 (by simp))]; exact h192
  have h207 : gh196 q181 = some (gI 1 4 (fun _ => 0)) := by rw [egh196, gset_ne (gne h194 h193 (by simp))]; exact h194
  have h208 : gh196 xa = some (gO 11 [vi (0), vi (0), .ref q1, vi (0), .ref q10, .ref q21, .ref q34, .ref q49, .ref q66, .ref q85, .ref q106, vi (0), .ref q129, .ref q154, .ref q181, .null, .null, .null, .null, .null, vi (0), .null, vi (0), .null, .null, .null, .null, vi (0)]) := by rw [egh196]; exact gset_eq
  have Rk209 := Rk195.put pc0_k195 (gO 11 [vi (0), vi (0), .ref q1, vi (0), .ref q10, .ref q21, .ref q34, .ref q49, .ref q66, .ref q85, .ref q106, vi (0), .ref q129, .ref q154, .ref q181, .null, .null, .null, .null, .null, vi (0), .null, vi (0), .null, .null, .null, .null, vi (0)])
  obtain ⟨ctk209, ectk209⟩ : ∃ x, x = cup ctk195 (0, 0, 0) (gO 11 [vi (0), vi (0), .ref q1, vi (0), .ref q10, .ref q21, .ref q34, .ref q49, .ref q66, .ref q85, .ref q106, vi (0), .ref q129, .ref q154, .ref q181, .null, .null, .null, .null, .null, vi (0), .null, vi (0), .null, .null, .null, .null, vi (0)]) := ⟨_, rfl⟩
  rw [pa0_k195, ← ectk209, ← egh196] at Rk209
  have pa0_k209 := pa0_k195
  have pc0_k209 : ctk209 (0, 0, 0) = some (gO 11 [vi (0), vi (0), .ref q1, vi (0), .ref q10, .ref q21, .ref q34, .ref q49, .ref q66, .ref q85, .ref q106, vi (0), .ref q129, .ref q154, .ref q181, .null, .null, .null, .null, .null, vi (0), .null, vi (0), .null, .null, .null, .null, vi (0)]) := by rw [ectk209, cup_eq]
  have pa1_k209 := pa1_k195
  have pc1_k209 : ctk209 (1, 2, 0) = some (gI 0 8 (fun _ => 0)) := by rw [ectk209, cup_ne (by simp)]; exact pc1_k195
  have pa2_k209 := pa2_k195
  have pc2_k209 : ctk209 (1, 4, 0) = some (gI 1 14 (fun _ => 0)) := by rw [ectk209, cup_ne (by simp)]; exact pc2_k195
  have pa3_k209 := pa3_k195
  have pc3_k209 : ctk209 (1, 5, 0) = some (gI 1 14 (fun _ => 0)) := by rw [ectk209, cup_ne (by simp)]; exact pc3_k195
  have pa4_k209 := pa4_k195
  have pc4_k209 : ctk209 (1, 6, 0) = some (gI 1 14 (fun _ => 0)) := by rw [ectk209, cup_ne (by simp)]; exact pc4_k195
  have pa5_k209 := pa5_k195
  have pc5_k209 : ctk209 (1, 7, 0) = some (gI 1 14 (fun _ => 0)) := by rw [ectk209, cup_ne (by simp)]; exact pc5_k195
  have pa6_k209 := pa6_k195
  have pc6_k209 : ctk209 (1, 8, 0) = some (gI 1 84 (fun _ => 0)) := by rw [ectk209, cup_ne (by simp)]; exact pc6_k195
  have pa7_k209 := pa7_k195
  have pc7_k209 : ctk209 (1, 9, 0) = some (gI 1 84 (fun _ => 0)) := by rw [ectk209, cup_ne (by simp)]; exact pc7_k195
  have pa8_k209 := pa8_k195
  have pc8_k209 : ctk209 (1, 10, 0) = some (gI 0 672 (fun _ => 0)) := by rw [ectk209, cup_ne (by simp)]; exact pc8_k195
  have pa9_k209 := pa9_k195
  have pc9_k209 : ctk209 (1, 12, 0) = some (gI 1 4 (fun _ => 0)) := by rw [ectk209, cup_ne (by simp)]; exact pc9_k195
  have pa10_k209 := pa10_k195
  have pc10_k209 : ctk209 (1, 13, 0) = some (gI 1 4 (fun _ => 0)) := by rw [ectk209, cup_ne (by simp)]; exact pc10_k195
  have pa11_k209 := pa11_k195
  have pc11_k209 : ctk209 (1, 14, 0) = some (gI 1 4 (fun _ => 0)) := by rw [ectk209, cup_ne (by simp)]; exact pc11_k195
  have frk209 : ∀ t : Tg, (2 ≤ t.1) → ctk209 t = ct t ∧ adk195 t = ad t := fun t ht => by
    have e0 : t ≠ (0, 0, 0) := fun e => by rw [e] at ht; simp only at ht; omega
    exact ⟨(show ctk209 t = ctk195 t by rw [ectk209, cup_ne e0]).trans (frk195 t ht).1, (frk195 t ht).2⟩
  refine g_ald_n hC dX7_init_90 rfl ?_
  refine g_bipush (z := 14) hC dX7_init_91 rfl ?_
  refine g_newI (n := 14) hC dX7_init_93 ga_int rfl (by decide) (by decide) (by decide) (fun q210 hnq210 => ?_)
  obtain ⟨gh211, egh211⟩ : ∃ g_, g_ = gset gh196 q210 (gI 1 14 (fun _ => 0)) := ⟨_, rfl⟩
  rw [← egh211]
  have h212 : gh211 q1 = some (gI 0 8 (fun _ => 0)) := by rw [egh211, gset_ne (fun z => by rw [z, hnq210] at h197; cases h197)]; exact h197
  have h213 : gh211 q10 = some (gI 1 14 (fun _ => 0)) := by rw [egh211, gset_ne (fun z => by rw [z, hnq210] at h198; cases h198)]; exact h198
  have h214 : gh211 q21 = some (gI 1 14 (fun _ => 0)) := by rw [egh211, gset_ne (fun z => by rw [z, hnq210] at h199; cases h199)]; exact h199
  have h215 : gh211 q34 = some (gI 1 14 (fun _ => 0)) := by rw [egh211, gset_ne (fun z => by rw [z, hnq210] at h200; cases h200)]; exact h200
  have h216 : gh211 q49 = some (gI 1 14 (fun _ => 0)) := by rw [egh211, gset_ne (fun z => by rw [z, hnq210] at h201; cases h201)]; exact h201
  have h217 : gh211 q66 = some (gI 1 84 (fun _ => 0)) := by rw [egh211, gset_ne (fun z => by rw [z, hnq210] at h202; cases h202)]; exact h202
  have h218 : gh211 q85 = some (gI 1 84 (fun _ => 0)) := by rw [egh211, gset_ne (fun z => by rw [z, hnq210] at h203; cases h203)]; exact h203
  have h219 : gh211 q106 = some (gI 0 672 (fun _ => 0)) := by rw [egh211, gset_ne (fun z => by rw [z, hnq210] at h204; cases h204)]; exact h204
  have h220 : gh211 q129 = some (gI 1 4 (fun _ => 0)) := by rw [egh211, gset_ne (fun z => by rw [z, hnq210] at h205; cases h205)]; exact h205
  have h221 : gh211 q154 = some (gI 1 4 (fun _ => 0)) := by rw [egh211, gset_ne (fun z => by rw [z, hnq210] at h206; cases h206)]; exact h206
  have h222 : gh211 q181 = some (gI 1 4 (fun _ => 0)) := by rw [egh211, gset_ne (fun z => by rw [z, hnq210] at h207; cases h207)]; exact h207
  have h223 : gh211 xa = some (gO 11 [vi (0), vi (0), .ref q1, vi (0), .ref q10, .ref q21, .ref q34, .ref q49, .ref q66, .ref q85, .ref q106, vi (0), .ref q129, .ref q154, .ref q181, .null, .null, .null, .null, .null, vi (0), .null, vi (0), .null, .null, .null, .null, vi (0)]) := by rw [egh211, gset_ne (fun z => by rw [z, hnq210] at h208; cases h208)]; exact h208
  have h224 : gh211 q210 = some (gI 1 14 (fun _ => 0)) := by rw [egh211]; exact gset_eq
  have Rk225 := Rk209.new (t := (1, 15, 0)) hnq210 (gI 1 14 (fun _ => 0))
  obtain ⟨adk225, eadk225⟩ : ∃ x, x = aup adk195 (1, 15, 0) q210 := ⟨_, rfl⟩
  obtain ⟨ctk225, ectk225⟩ : ∃ x, x = cup ctk209 (1, 15, 0) (gI 1 14 (fun _ => 0)) := ⟨_, rfl⟩
  rw [← eadk225, ← ectk225, ← egh211] at Rk225
  have pa0_k225 : adk225 (0, 0, 0) = xa := by rw [eadk225, aup_ne (by simp)]; exact pa0_k209
  have pc0_k225 : ctk225 (0, 0, 0) = some (gO 11 [vi (0), vi (0), .ref q1, vi (0), .ref q10, .ref q21, .ref q34, .ref q49, .ref q66, .ref q85, .ref q106, vi (0), .ref q129, .ref q154, .ref q181, .null, .null, .null, .null, .null, vi (0), .null, vi (0), .null, .null, .null, .null, vi (0)]) := by rw [ectk225, cup_ne (by simp)]; exact pc0_k209
  have pa1_k225 : adk225 (1, 2, 0) = q1 := by rw [eadk225, aup_ne (by simp)]; exact pa1_k209
  have pc1_k225 : ctk225 (1, 2, 0) = some (gI 0 8 (fun _ => 0)) := by rw [ectk225, cup_ne (by simp)]; exact pc1_k209
  have pa2_k225 : adk225 (1, 4, 0) = q10 := by rw [eadk225, aup_ne (by simp)]; exact pa2_k209
  have pc2_k225 : ctk225 (1, 4, 0) = some (gI 1 14 (fun _ => 0)) := by rw [ectk225, cup_ne (by simp)]; exact pc2_k209
  have pa3_k225 : adk225 (1, 5, 0) = q21 := by rw [eadk225, aup_ne (by simp)]; exact pa3_k209
  have pc3_k225 : ctk225 (1, 5, 0) = some (gI 1 14 (fun _ => 0)) := by rw [ectk225, cup_ne (by simp)]; exact pc3_k209
  have pa4_k225 : adk225 (1, 6, 0) = q34 := by rw [eadk225, aup_ne (by simp)]; exact pa4_k209
  have pc4_k225 : ctk225 (1, 6, 0) = some (gI 1 14 (fun _ => 0)) := by rw [ectk225, cup_ne (by simp)]; exact pc4_k209
  have pa5_k225 : adk225 (1, 7, 0) = q49 := by rw [eadk225, aup_ne (by simp)]; exact pa5_k209
  have pc5_k225 : ctk225 (1, 7, 0) = some (gI 1 14 (fun _ => 0)) := by rw [ectk225, cup_ne (by simp)]; exact pc5_k209
  have pa6_k225 : adk225 (1, 8, 0) = q66 := by rw [eadk225, aup_ne (by simp)]; exact pa6_k209
  have pc6_k225 : ctk225 (1, 8, 0) = some (gI 1 84 (fun _ => 0)) := by rw [ectk225, cup_ne (by simp)]; exact pc6_k209
  have pa7_k225 : adk225 (1, 9, 0) = q85 := by rw [eadk225, aup_ne (by simp)]; exact pa7_k209
  have pc7_k225 : ctk225 (1, 9, 0) = some (gI 1 84 (fun _ => 0)) := by rw [ectk225, cup_ne (by simp)]; exact pc7_k209
  have pa8_k225 : adk225 (1, 10, 0) = q106 := by rw [eadk225, aup_ne (by simp)]; exact pa8_k209
  have pc8_k225 : ctk225 (1, 10, 0) = some (gI 0 672 (fun _ => 0)) := by rw [ectk225, cup_ne (by simp)]; exact pc8_k209
  have pa9_k225 : adk225 (1, 12, 0) = q129 := by rw [eadk225, aup_ne (by simp)]; exact pa9_k209
  have pc9_k225 : ctk225 (1, 12, 0) = some (gI 1 4 (fun _ => 0)) := by rw [ectk225, cup_ne (by simp)]; exact pc9_k209
  have pa10_k225 : adk225 (1, 13, 0) = q154 := by rw [eadk225, aup_ne (by simp)]; exact pa10_k209
  have pc10_k225 : ctk225 (1, 13, 0) = some (gI 1 4 (fun _ => 0)) := by rw [ectk225, cup_ne (by simp)]; exact pc10_k209
  have pa11_k225 : adk225 (1, 14, 0) = q181 := by rw [eadk225, aup_ne (by simp)]; exact pa11_k209
  have pc11_k225 : ctk225 (1, 14, 0) = some (gI 1 4 (fun _ => 0)) := by rw [ectk225, cup_ne (by simp)]; exact pc11_k209
  have pa12_k225 : adk225 (1, 15, 0) = q210 := by rw [eadk225, aup_eq]
  have pc12_k225 : ctk225 (1, 15, 0) = some (gI 1 14 (fun _ => 0)) := by rw [ectk225, cup_eq]
  have frk225 : ∀ t : Tg, (2 ≤ t.1) → ctk225 t = ct t ∧ adk225 t = ad t := fun t ht => by
    have e0 : t ≠ (1, 15, 0) := fun e => by rw [e] at ht; simp only at ht; omega
    exact ⟨(show ctk225 t = ctk209 t by rw [ectk225, cup_ne e0]).trans (frk209 t ht).1, (show adk225 t = adk195 t by rw [eadk225, aup_ne e0]).trans (frk209 t ht).2⟩
  refine g_putF hC hq (fs' := [vi (0), vi (0), .ref q1, vi (0), .ref q10, .ref q21, .ref q34, .ref q49, .ref q66, .ref q85, .ref q106, vi (0), .ref q129, .ref q154, .ref q181, .ref q210, .null, .null, .null, .null, vi (0), .null, vi (0), .null, .null, .null, .null, vi (0)]) dX7_init_95 gp_RX7_44 h223 ⟨rfl, rfl⟩ rfl (Nat.le_of_ble_eq_true rfl) ?_
  obtain ⟨gh226, egh226⟩ : ∃ g_, g_ = gset gh211 xa (gO 11 [vi (0), vi (0), .ref q1, vi (0), .ref q10, .ref q21, .ref q34, .ref q49, .ref q66, .ref q85, .ref q106, vi (0), .ref q129, .ref q154, .ref q181, .ref q210, .null, .null, .null, .null, vi (0), .null, vi (0), .null, .null, .null, .null, vi (0)]) := ⟨_, rfl⟩
  rw [← egh226]
  have h227 : gh226 q1 = some (gI 0 8 (fun _ => 0)) := by rw [egh226, gset_ne (gne h212 h223 (by simp))]; exact h212
  have h228 : gh226 q10 = some (gI 1 14 (fun _ => 0)) := by rw [egh226, gset_ne (gne h213 h223 (by simp))]; exact h213
  have h229 : gh226 q21 = some (gI 1 14 (fun _ => 0)) := by rw [egh226, gset_ne (gne h214 h223 (by simp))]; exact h214
  have h230 : gh226 q34 = some (gI 1 14 (fun _ => 0)) := by rw [egh226, gset_ne (gne h215 h223 (by simp))]; exact h215
  have h231 : gh226 q49 = some (gI 1 14 (fun _ => 0)) := by rw [egh226, gset_ne (gne h216 h223 (by simp))]; exact h216
  have h232 : gh226 q66 = some (gI 1 84 (fun _ => 0)) := by rw [egh226, gset_ne (gne h217 h223 (by simp))]; exact h217
  have h233 : gh226 q85 = some (gI 1 84 (fun _ => 0)) := by rw [egh226, gset_ne (gne h218 h223 (by simp))]; exact h218
  have h234 : gh226 q106 = some (gI 0 672 (fun _ => 0)) := by rw [egh226, gset_ne (gne h219 h223 (by simp))]; exact h219
  have h235 : gh226 q129 = some (gI 1 4 (fun _ => 0)) := by rw [egh226, gset_ne (gne h220 h223 (by simp))]; exact h220
  have h236 : gh226 q154 = some (gI 1 4 (fun _ => 0)) := by rw [egh226, gset_ne (gne h221 h223 (by simp))]; exact h221
  have h237 : gh226 q181 = some (gI 1 4 (fun _ => 0)) := by rw [egh226, gset_ne (gne h222 h223 (by simp))]; exact h222
  have h238 : gh226 q210 = some (gI 1 14 (fun _ => 0)) := by rw [egh226, gset_ne (gne h224 h223 (by simp))]; exact h224
  have h239 : gh226 xa = some (gO 11 [vi (0), vi (0), .ref q1, vi (0), .ref q10, .ref q21, .ref q34, .ref q49, .ref q66, .ref q85, .ref q106, vi (0), .ref q129, .ref q154, .ref q181, .ref q210, .null, .null, .null, .null, vi (0), .null, vi (0), .null, .null, .null, .null, vi (0)]) := by rw [egh226]; exact gset_eq
  have Rk240 := Rk225.put pc0_k225 (gO 11 [vi (0), vi (0), .ref q1, vi (0), .ref q10, .ref q21, .ref q34, .ref q49, .ref q66, .ref q85, .ref q106, vi (0), .ref q129, .ref q154, .ref q181, .ref q210, .null, .null, .null, .null, vi (0), .null, vi (0), .null, .null, .null, .null, vi (0)])
  obtain ⟨ctk240, ectk240⟩ : ∃ x, x = cup ctk225 (0, 0, 0) (gO 11 [vi (0), vi (0), .ref q1, vi (0), .ref q10, .ref q21, .ref q34, .ref q49, .ref q66, .ref q85, .ref q106, vi (0), .ref q129, .ref q154, .ref q181, .ref q210, .null, .null, .null, .null, vi (0), .null, vi (0), .null, .null, .null, .null, vi (0)]) := ⟨_, rfl⟩
  rw [pa0_k225, ← ectk240, ← egh226] at Rk240
  have pa0_k240 := pa0_k225
  have pc0_k240 : ctk240 (0, 0, 0) = some (gO 11 [vi (0), vi (0), .ref q1, vi (0), .ref q10, .ref q21, .ref q34, .ref q49, .ref q66, .ref q85, .ref q106, vi (0), .ref q129, .ref q154, .ref q181, .ref q210, .null, .null, .null, .null, vi (0), .null, vi (0), .null, .null, .null, .null, vi (0)]) := by rw [ectk240, cup_eq]
  have pa1_k240 := pa1_k225
  have pc1_k240 : ctk240 (1, 2, 0) = some (gI 0 8 (fun _ => 0)) := by rw [ectk240, cup_ne (by simp)]; exact pc1_k225
  have pa2_k240 := pa2_k225
  have pc2_k240 : ctk240 (1, 4, 0) = some (gI 1 14 (fun _ => 0)) := by rw [ectk240, cup_ne (by simp)]; exact pc2_k225
  have pa3_k240 := pa3_k225
  have pc3_k240 : ctk240 (1, 5, 0) = some (gI 1 14 (fun _ => 0)) := by rw [ectk240, cup_ne (by simp)]; exact pc3_k225
  have pa4_k240 := pa4_k225
  have pc4_k240 : ctk240 (1, 6, 0) = some (gI 1 14 (fun _ => 0)) := by rw [ectk240, cup_ne (by simp)]; exact pc4_k225
  have pa5_k240 := pa5_k225
  have pc5_k240 : ctk240 (1, 7, 0) = some (gI 1 14 (fun _ => 0)) := by rw [ectk240, cup_ne (by simp)]; exact pc5_k225
  have pa6_k240 := pa6_k225
  have pc6_k240 : ctk240 (1, 8, 0) = some (gI 1 84 (fun _ => 0)) := by rw [ectk240, cup_ne (by simp)]; exact pc6_k225
  have pa7_k240 := pa7_k225
  have pc7_k240 : ctk240 (1, 9, 0) = some (gI 1 84 (fun _ => 0)) := by rw [ectk240, cup_ne (by simp)]; exact pc7_k225
  have pa8_k240 := pa8_k225
  have pc8_k240 : ctk240 (1, 10, 0) = some (gI 0 672 (fun _ => 0)) := by rw [ectk240, cup_ne (by simp)]; exact pc8_k225
  have pa9_k240 := pa9_k225
  have pc9_k240 : ctk240 (1, 12, 0) = some (gI 1 4 (fun _ => 0)) := by rw [ectk240, cup_ne (by simp)]; exact pc9_k225
  have pa10_k240 := pa10_k225
  have pc10_k240 : ctk240 (1, 13, 0) = some (gI 1 4 (fun _ => 0)) := by rw [ectk240, cup_ne (by simp)]; exact pc10_k225
  have pa11_k240 := pa11_k225
  have pc11_k240 : ctk240 (1, 14, 0) = some (gI 1 4 (fun _ => 0)) := by rw [ectk240, cup_ne (by simp)]; exact pc11_k225
  have pa12_k240 := pa12_k225
  have pc12_k240 : ctk240 (1, 15, 0) = some (gI 1 14 (fun _ => 0)) := by rw [ectk240, cup_ne (by simp)]; exact pc12_k225
  have frk240 : ∀ t : Tg, (2 ≤ t.1) → ctk240 t = ct t ∧ adk225 t = ad t := fun t ht => by
    have e0 : t ≠ (0, 0, 0) := fun e => by rw [e] at ht; simp only at ht; omega
    exact ⟨(show ctk240 t = ctk225 t by rw [ectk240, cup_ne e0]).trans (frk225 t ht).1, (frk225 t ht).2⟩
  refine g_ald_n hC dX7_init_98 rfl ?_
  refine g_bipush (z := 14) hC dX7_init_99 rfl ?_
  refine g_newI (n := 14) hC dX7_init_101 ga_int rfl (by decide) (by decide) (by decide) (fun q241 hnq241 => ?_)
  obtain ⟨gh242, egh242⟩ : ∃ g_, g_ = gset gh226 q241 (gI 1 14 (fun _ => 0)) := ⟨_, rfl⟩
  rw [← egh242]
  have h243 : gh242 q1 = some (gI 0 8 (fun _ => 0)) := by rw [egh242, gset_ne (fun z => by rw [z, hnq241] at h227; cases h227)]; exact h227
  have h244 : gh242 q10 = some (gI 1 14 (fun _ => 0)) := by rw [egh242, gset_ne (fun z => by rw [z, hnq241] at h228; cases h228)]; exact h228
  have h245 : gh242 q21 = some (gI 1 14 (fun _ => 0)) := by rw [egh242, gset_ne (fun z => by rw [z, hnq241] at h229; cases h229)]; exact h229
  have h246 : gh242 q34 = some (gI 1 14 (fun _ => 0)) := by rw [egh242, gset_ne (fun z => by rw [z, hnq241] at h230; cases h230)]; exact h230
  have h247 : gh242 q49 = some (gI 1 14 (fun _ => 0)) := by rw [egh242, gset_ne (fun z => by rw [z, hnq241] at h231; cases h231)]; exact h231
  have h248 : gh242 q66 = some (gI 1 84 (fun _ => 0)) := by rw [egh242, gset_ne (fun z => by rw [z, hnq241] at h232; cases h232)]; exact h232
  have h249 : gh242 q85 = some (gI 1 84 (fun _ => 0)) := by rw [egh242, gset_ne (fun z => by rw [z, hnq241] at h233; cases h233)]; exact h233
  have h250 : gh242 q106 = some (gI 0 672 (fun _ => 0)) := by rw [egh242, gset_ne (fun z => by rw [z, hnq241] at h234; cases h234)]; exact h234
  have h251 : gh242 q129 = some (gI 1 4 (fun _ => 0)) := by rw [egh242, gset_ne (fun z => by rw [z, hnq241] at h235; cases h235)]; exact h235
  have h252 : gh242 q154 = some (gI 1 4 (fun _ => 0)) := by rw [egh242, gset_ne (fun z => by rw [z, hnq241] at h236; cases h236)]; exact h236
  have h253 : gh242 q181 = some (gI 1 4 (fun _ => 0)) := by rw [egh242, gset_ne (fun z => by rw [z, hnq241] at h237; cases h237)]; exact h237
  have h254 : gh242 q210 = some (gI 1 14 (fun _ => 0)) := by rw [egh242, gset_ne (fun z => by rw [z, hnq241] at h238; cases h238)]; exact h238
  have h255 : gh242 xa = some (gO 11 [vi (0), vi (0), .ref q1, vi (0), .ref q10, .ref q21, .ref q34, .ref q49, .ref q66, .ref q85, .ref q106, vi (0), .ref q129, .ref q154, .ref q181, .ref q210, .null, .null, .null, .null, vi (0), .null, vi (0), .null, .null, .null, .null, vi (0)]) := by rw [egh242, gset_ne (fun z => by rw [z, hnq241] at h239; cases h239)]; exact h239
  have h256 : gh242 q241 = some (gI 1 14 (fun _ => 0)) := by rw [egh242]; exact gset_eq
  have Rk257 := Rk240.new (t := (1, 16, 0)) hnq241 (gI 1 14 (fun _ => 0))
  obtain ⟨adk257, eadk257⟩ : ∃ x, x = aup adk225 (1, 16, 0) q241 := ⟨_, rfl⟩
  obtain ⟨ctk257, ectk257⟩ : ∃ x, x = cup ctk240 (1, 16, 0) (gI 1 14 (fun _ => 0)) := ⟨_, rfl⟩
  rw [← eadk257, ← ectk257, ← egh242] at Rk257
  have pa0_k257 : adk257 (0, 0, 0) = xa := by rw [eadk257, aup_ne (by simp)]; exact pa0_k240
  have pc0_k257 : ctk257 (0, 0, 0) = some (gO 11 [vi (0), vi (0), .ref q1, vi (0), .ref q10, .ref q21, .ref q34, .ref q49, .ref q66, .ref q85, .ref q106, vi (0), .ref q129, .ref q154, .ref q181, .ref q210, .null, .null, .null, .null, vi (0), .null, vi (0), .null, .null, .null, .null, vi (0)]) := by rw [ectk257, cup_ne (by simp)]; exact pc0_k240
  have pa1_k257 : adk257 (1, 2, 0) = q1 := by rw [eadk257, aup_ne (by simp)]; exact pa1_k240
  have pc1_k257 : ctk257 (1, 2, 0) = some (gI 0 8 (fun _ => 0)) := by rw [ectk257, cup_ne (by simp)]; exact pc1_k240
  have pa2_k257 : adk257 (1, 4, 0) = q10 := by rw [eadk257, aup_ne (by simp)]; exact pa2_k240
  have pc2_k257 : ctk257 (1, 4, 0) = some (gI 1 14 (fun _ => 0)) := by rw [ectk257, cup_ne (by simp)]; exact pc2_k240
  have pa3_k257 : adk257 (1, 5, 0) = q21 := by rw [eadk257, aup_ne (by simp)]; exact pa3_k240
  have pc3_k257 : ctk257 (1, 5, 0) = some (gI 1 14 (fun _ => 0)) := by rw [ectk257, cup_ne (by simp)]; exact pc3_k240
  have pa4_k257 : adk257 (1, 6, 0) = q34 := by rw [eadk257, aup_ne (by simp)]; exact pa4_k240
  have pc4_k257 : ctk257 (1, 6, 0) = some (gI 1 14 (fun _ => 0)) := by rw [ectk257, cup_ne (by simp)]; exact pc4_k240
  have pa5_k257 : adk257 (1, 7, 0) = q49 := by rw [eadk257, aup_ne (by simp)]; exact pa5_k240
  have pc5_k257 : ctk257 (1, 7, 0) = some (gI 1 14 (fun _ => 0)) := by rw [ectk257, cup_ne (by simp)]; exact pc5_k240
  have pa6_k257 : adk257 (1, 8, 0) = q66 := by rw [eadk257, aup_ne (by simp)]; exact pa6_k240
  have pc6_k257 : ctk257 (1, 8, 0) = some (gI 1 84 (fun _ => 0)) := by rw [ectk257, cup_ne (by simp)]; exact pc6_k240
  have pa7_k257 : adk257 (1, 9, 0) = q85 := by rw [eadk257, aup_ne (by simp)]; exact pa7_k240
  have pc7_k257 : ctk257 (1, 9, 0) = some (gI 1 84 (fun _ => 0)) := by rw [ectk257, cup_ne (by simp)]; exact pc7_k240
  have pa8_k257 : adk257 (1, 10, 0) = q106 := by rw [eadk257, aup_ne (by simp)]; exact pa8_k240
  have pc8_k257 : ctk257 (1, 10, 0) = some (gI 0 672 (fun _ => 0)) := by rw [ectk257, cup_ne (by simp)]; exact pc8_k240
  have pa9_k257 : adk257 (1, 12, 0) = q129 := by rw [eadk257, aup_ne (by simp)]; exact pa9_k240
  have pc9_k257 : ctk257 (1, 12, 0) = some (gI 1 4 (fun _ => 0)) := by rw [ectk257, cup_ne (by simp)]; exact pc9_k240
  have pa10_k257 : adk257 (1, 13, 0) = q154 := by rw [eadk257, aup_ne (by simp)]; exact pa10_k240
  have pc10_k257 : ctk257 (1, 13, 0) = some (gI 1 4 (fun _ => 0)) := by rw [ectk257, cup_ne (by simp)]; exact pc10_k240
  have pa11_k257 : adk257 (1, 14, 0) = q181 := by rw [eadk257, aup_ne (by simp)]; exact pa11_k240
  have pc11_k257 : ctk257 (1, 14, 0) = some (gI 1 4 (fun _ => 0)) := by rw [ectk257, cup_ne (by simp)]; exact pc11_k240
  have pa12_k257 : adk257 (1, 15, 0) = q210 := by rw [eadk257, aup_ne (by simp)]; exact pa12_k240
  have pc12_k257 : ctk257 (1, 15, 0) = some (gI 1 14 (fun _ => 0)) := by rw [ectk257, cup_ne (by simp)]; exact pc12_k240
  have pa13_k257 : adk257 (1, 16, 0) = q241 := by rw [eadk257, aup_eq]
  have pc13_k257 : ctk257 (1, 16, 0) = some (gI 1 14 (fun _ => 0)) := by rw [ectk257, cup_eq]
  have frk257 : ∀ t : Tg, (2 ≤ t.1) → ctk257 t = ct t ∧ adk257 t = ad t := fun t ht => by
    have e0 : t ≠ (1, 16, 0) := fun e => by rw [e] at ht; simp only at ht; omega
    exact ⟨(show ctk257 t = ctk240 t by rw [ectk257, cup_ne e0]).trans (frk240 t ht).1, (show adk257 t = adk225 t by rw [eadk257, aup_ne e0]).trans (frk240 t ht).2⟩
  refine g_putF hC hq (fs' := [vi (0), vi (0), .ref q1, vi (0), .ref q10, .ref q21, .ref q34, .ref q49, .ref q66, .ref q85, .ref q106, vi (0), .ref q129, .ref q154, .ref q181, .ref q210, .ref q241, .null, .null, .null, vi (0), .null, vi (0), .null, .null, .null, .null, vi (0)]) dX7_init_103 gp_RX7_47 h255 ⟨rfl, rfl⟩ rfl (Nat.le_of_ble_eq_true rfl) ?_
  obtain ⟨gh258, egh258⟩ : ∃ g_, g_ = gset gh242 xa (gO 11 [vi (0), vi (0), .ref q1, vi (0), .ref q10, .ref q21, .ref q34, .ref q49, .ref q66, .ref q85, .ref q106, vi (0), .ref q129, .ref q154, .ref q181, .ref q210, .ref q241, .null, .null, .null, vi (0), .null, vi (0), .null, .null, .null, .null, vi (0)]) := ⟨_, rfl⟩
  rw [← egh258]
  have h259 : gh258 q1 = some (gI 0 8 (fun _ => 0)) := by rw [egh258, gset_ne (gne h243 h255 (by simp))]; exact h243
  have h260 : gh258 q10 = some (gI 1 14 (fun _ => 0)) := by rw [egh258, gset_ne (gne h244 h255 (by simp))]; exact h244
  have h261 : gh258 q21 = some (gI 1 14 (fun _ => 0)) := by rw [egh258, gset_ne (gne h245 h255 (by simp))]; exact h245
  have h262 : gh258 q34 = some (gI 1 14 (fun _ => 0)) := by rw [egh258, gset_ne (gne h246 h255 (by simp))]; exact h246
  have h263 : gh258 q49 = some (gI 1 14 (fun _ => 0)) := by rw [egh258, gset_ne (gne h247 h255 (by simp))]; exact h247
  have h264 : gh258 q66 = some (gI 1 84 (fun _ => 0)) := by rw [egh258, gset_ne (gne h248 h255 (by simp))]; exact h248
  have h265 : gh258 q85 = some (gI 1 84 (fun _ => 0)) := by rw [egh258, gset_ne (gne h249 h255 (by simp))]; exact h249
  have h266 : gh258 q106 = some (gI 0 672 (fun _ => 0)) := by rw [egh258, gset_ne (gne h250 h255 (by simp))]; exact h250
  have h267 : gh258 q129 = some (gI 1 4 (fun _ => 0)) := by rw [egh258, gset_ne (gne h251 h255 (by simp))]; exact h251
  have h268 : gh258 q154 = some (gI 1 4 (fun _ => 0)) := by rw [egh258, gset_ne (gne h252 h255 (by simp))]; exact h252
  have h269 : gh258 q181 = some (gI 1 4 (fun _ => 0)) := by rw [egh258, gset_ne (gne h253 h255 (by simp))]; exact h253
  have h270 : gh258 q210 = some (gI 1 14 (fun _ => 0)) := by rw [egh258, gset_ne (gne h254 h255 (by simp))]; exact h254
  have h271 : gh258 q241 = some (gI 1 14 (fun _ => 0)) := by rw [egh258, gset_ne (gne h256 h255 (by simp))]; exact h256
  have h272 : gh258 xa = some (gO 11 [vi (0), vi (0), .ref q1, vi (0), .ref q10, .ref q21, .ref q34, .ref q49, .ref q66, .ref q85, .ref q106, vi (0), .ref q129, .ref q154, .ref q181, .ref q210, .ref q241, .null, .null, .null, vi (0), .null, vi (0), .null, .null, .null, .null, vi (0)]) := by rw [egh258]; exact gset_eq
  have Rk273 := Rk257.put pc0_k257 (gO 11 [vi (0), vi (0), .ref q1, vi (0), .ref q10, .ref q21, .ref q34, .ref q49, .ref q66, .ref q85, .ref q106, vi (0), .ref q129, .ref q154, .ref q181, .ref q210, .ref q241, .null, .null, .null, vi (0), .null, vi (0), .null, .null, .null, .null, vi (0)])
  obtain ⟨ctk273, ectk273⟩ : ∃ x, x = cup ctk257 (0, 0, 0) (gO 11 [vi (0), vi (0), .ref q1, vi (0), .ref q10, .ref q21, .ref q34, .ref q49, .ref q66, .ref q85, .ref q106, vi (0), .ref q129, .ref q154, .ref q181, .ref q210, .ref q241, .null, .null, .null, vi (0), .null, vi (0), .null, .null, .null, .null, vi (0)]) := ⟨_, rfl⟩
  rw [pa0_k257, ← ectk273, ← egh258] at Rk273
  have pa0_k273 := pa0_k257
  have pc0_k273 : ctk273 (0, 0, 0) = some (gO 11 [vi (0), vi (0), .ref q1, vi (0), .ref q10, .ref q21, .ref q34, .ref q49, .ref q66, .ref q85, .ref q106, vi (0), .ref q129, .ref q154, .ref q181, .ref q210, .ref q241, .null, .null, .null, vi (0), .null, vi (0), .null, .null, .null, .null, vi (0)]) := by rw [ectk273, cup_eq]
  have pa1_k273 := pa1_k257
  have pc1_k273 : ctk273 (1, 2, 0) = some (gI 0 8 (fun _ => 0)) := by rw [ectk273, cup_ne (by simp)]; exact pc1_k257
  have pa2_k273 := pa2_k257
  have pc2_k273 : ctk273 (1, 4, 0) = some (gI 1 14 (fun _ => 0)) := by rw [ectk273, cup_ne (by simp)]; exact pc2_k257
  have pa3_k273 := pa3_k257
  have pc3_k273 : ctk273 (1, 5, 0) = some (gI 1 14 (fun _ => 0)) := by rw [ectk273, cup_ne (by simp)]; exact pc3_k257
  have pa4_k273 := pa4_k257
  have pc4_k273 : ctk273 (1, 6, 0) = some (gI 1 14 (fun _ => 0)) := by rw [ectk273, cup_ne (by simp)]; exact pc4_k257
  have pa5_k273 := pa5_k257
  have pc5_k273 : ctk273 (1, 7, 0) = some (gI 1 14 (fun _ => 0)) := by rw [ectk273, cup_ne (by simp)]; exact pc5_k257
  have pa6_k273 := pa6_k257
  have pc6_k273 : ctk273 (1, 8, 0) = some (gI 1 84 (fun _ => 0)) := by rw [ectk273, cup_ne (by simp)]; exact pc6_k257
  have pa7_k273 := pa7_k257
  have pc7_k273 : ctk273 (1, 9, 0) = some (gI 1 84 (fun _ => 0)) := by rw [ectk273, cup_ne (by simp)]; exact pc7_k257
  have pa8_k273 := pa8_k257
  have pc8_k273 : ctk273 (1, 10, 0) = some (gI 0 672 (fun _ => 0)) := by rw [ectk273, cup_ne (by simp)]; exact pc8_k257
  have pa9_k273 := pa9_k257
  have pc9_k273 : ctk273 (1, 12, 0) = some (gI 1 4 (fun _ => 0)) := by rw [ectk273, cup_ne (by simp)]; exact pc9_k257
  have pa10_k273 := pa10_k257
  have pc10_k273 : ctk273 (1, 13, 0) = some (gI 1 4 (fun _ => 0)) := by rw [ectk273, cup_ne (by simp)]; exact pc10_k257
  have pa11_k273 := pa11_k257
  have pc11_k273 : ctk273 (1, 14, 0) = some (gI 1 4 (fun _ => 0)) := by rw [ectk273, cup_ne (by simp)]; exact pc11_k257
  have pa12_k273 := pa12_k257
  have pc12_k273 : ctk273 (1, 15, 0) = some (gI 1 14 (fun _ => 0)) := by rw [ectk273, cup_ne (by simp)]; exact pc12_k257
  have pa13_k273 := pa13_k257
  have pc13_k273 : ctk273 (1, 16, 0) = some (gI 1 14 (fun _ => 0)) := by rw [ectk273, cup_ne (by simp)]; exact pc13_k257
  have frk273 : ∀ t : Tg, (2 ≤ t.1) → ctk273 t = ct t ∧ adk257 t = ad t := fun t ht => by
    have e0 : t ≠ (0, 0, 0) := fun e => by rw [e] at ht; simp only at ht; omega
    exact ⟨(show ctk273 t = ctk257 t by rw [ectk273, cup_ne e0]).trans (frk257 t ht).1, (frk257 t ht).2⟩
  refine g_ald_n hC dX7_init_106 rfl ?_
  refine g_bipush (z := 14) hC dX7_init_107 rfl ?_
  refine g_newI (n := 14) hC dX7_init_109 ga_int rfl (by decide) (by decide) (by decide) (fun q274 hnq274 => ?_)
  obtain ⟨gh275, egh275⟩ : ∃ g_, g_ = gset gh258 q274 (gI 1 14 (fun _ => 0)) := ⟨_, rfl⟩
  rw [← egh275]
  have h276 : gh275 q1 = some (gI 0 8 (fun _ => 0)) := by rw [egh275, gset_ne (fun z => by rw [z, hnq274] at h259; cases h259)]; exact h259
  have h277 : gh275 q10 = some (gI 1 14 (fun _ => 0)) := by rw [egh275, gset_ne (fun z => by rw [z, hnq274] at h260; cases h260)]; exact h260
  have h278 : gh275 q21 = some (gI 1 14 (fun _ => 0)) := by rw [egh275, gset_ne (fun z => by rw [z, hnq274] at h261; cases h261)]; exact h261
  have h279 : gh275 q34 = some (gI 1 14 (fun _ => 0)) := by rw [egh275, gset_ne (fun z => by rw [z, hnq274] at h262; cases h262)]; exact h262
  have h280 : gh275 q49 = some (gI 1 14 (fun _ => 0)) := by rw [egh275, gset_ne (fun z => by rw [z, hnq274] at h263; cases h263)]; exact h263
  have h281 : gh275 q66 = some (gI 1 84 (fun _ => 0)) := by rw [egh275, gset_ne (fun z => by rw [z, hnq274] at h264; cases h264)]; exact h264
  have h282 : gh275 q85 = some (gI 1 84 (fun _ => 0)) := by rw [egh275, gset_ne (fun z => by rw [z, hnq274] at h265; cases h265)]; exact h265
  have h283 : gh275 q106 = some (gI 0 672 (fun _ => 0)) := by rw [egh275, gset_ne (fun z => by rw [z, hnq274] at h266; cases h266)]; exact h266
  have h284 : gh275 q129 = some (gI 1 4 (fun _ => 0)) := by rw [egh275, gset_ne (fun z => by rw [z, hnq274] at h267; cases h267)]; exact h267
  have h285 : gh275 q154 = some (gI 1 4 (fun _ => 0)) := by rw [egh275, gset_ne (fun z => by rw [z, hnq274] at h268; cases h268)]; exact h268
  have h286 : gh275 q181 = some (gI 1 4 (fun _ => 0)) := by rw [egh275, gset_ne (fun z => by rw [z, hnq274] at h269; cases h269)]; exact h269
  have h287 : gh275 q210 = some (gI 1 14 (fun _ => 0)) := by rw [egh275, gset_ne (fun z => by rw [z, hnq274] at h270; cases h270)]; exact h270
  have h288 : gh275 q241 = some (gI 1 14 (fun _ => 0)) := by rw [egh275, gset_ne (fun z => by rw [z, hnq274] at h271; cases h271)]; exact h271
  have h289 : gh275 xa = some (gO 11 [vi (0), vi (0), .ref q1, vi (0), .ref q10, .ref q21, .ref q34, .ref q49, .ref q66, .ref q85, .ref q106, vi (0), .ref q129, .ref q154, .ref q181, .ref q210, .ref q241, .null, .null, .null, vi (0), .null, vi (0), .null, .null, .null, .null, vi (0)]) := by rw [egh275, gset_ne (fun z => by rw [z, hnq274] at h272; cases h272)]; exact h272
  have h290 : gh275 q274 = some (gI 1 14 (fun _ => 0)) := by rw [egh275]; exact gset_eq
  have Rk291 := Rk273.new (t := (1, 17, 0)) hnq274 (gI 1 14 (fun _ => 0))
  obtain ⟨adk291, eadk291⟩ : ∃ x, x = aup adk257 (1, 17, 0) q274 := ⟨_, rfl⟩
  obtain ⟨ctk291, ectk291⟩ : ∃ x, x = cup ctk273 (1, 17, 0) (gI 1 14 (fun _ => 0)) := ⟨_, rfl⟩
  rw [← eadk291, ← ectk291, ← egh275] at Rk291
  have pa0_k291 : adk291 (0, 0, 0) = xa := by rw [eadk291, aup_ne (by simp)]; exact pa0_k273
  have pc0_k291 : ctk291 (0, 0, 0) = some (gO 11 [vi (0), vi (0), .ref q1, vi (0), .ref q10, .ref q21, .ref q34, .ref q49, .ref q66, .ref q85, .ref q106, vi (0), .ref q129, .ref q154, .ref q181, .ref q210, .ref q241, .null, .null, .null, vi (0), .null, vi (0), .null, .null, .null, .null, vi (0)]) := by rw [ectk291, cup_ne (by simp)]; exact pc0_k273
  have pa1_k291 : adk291 (1, 2, 0) = q1 := by rw [eadk291, aup_ne (by simp)]; exact pa1_k273
  have pc1_k291 : ctk291 (1, 2, 0) = some (gI 0 8 (fun _ => 0)) := by rw [ectk291, cup_ne (by simp)]; exact pc1_k273
  have pa2_k291 : adk291 (1, 4, 0) = q10 := by rw [eadk291, aup_ne (by simp)]; exact pa2_k273
  have pc2_k291 : ctk291 (1, 4, 0) = some (gI 1 14 (fun _ => 0)) := by rw [ectk291, cup_ne (by simp)]; exact pc2_k273
  have pa3_k291 : adk291 (1, 5, 0) = q21 := by rw [eadk291, aup_ne (by simp)]; exact pa3_k273
  have pc3_k291 : ctk291 (1, 5, 0) = some (gI 1 14 (fun _ => 0)) := by rw [ectk291, cup_ne (by simp)]; exact pc3_k273
  have pa4_k291 : adk291 (1, 6, 0) = q34 := by rw [eadk291, aup_ne (by simp)]; exact pa4_k273
  have pc4_k291 : ctk291 (1, 6, 0) = some (gI 1 14 (fun _ => 0)) := by rw [ectk291, cup_ne (by simp)]; exact pc4_k273
  have pa5_k291 : adk291 (1, 7, 0) = q49 := by rw [eadk291, aup_ne (by simp)]; exact pa5_k273
  have pc5_k291 : ctk291 (1, 7, 0) = some (gI 1 14 (fun _ => 0)) := by rw [ectk291, cup_ne (by simp)]; exact pc5_k273
  have pa6_k291 : adk291 (1, 8, 0) = q66 := by rw [eadk291, aup_ne (by simp)]; exact pa6_k273
  have pc6_k291 : ctk291 (1, 8, 0) = some (gI 1 84 (fun _ => 0)) := by rw [ectk291, cup_ne (by simp)]; exact pc6_k273
  have pa7_k291 : adk291 (1, 9, 0) = q85 := by rw [eadk291, aup_ne (by simp)]; exact pa7_k273
  have pc7_k291 : ctk291 (1, 9, 0) = some (gI 1 84 (fun _ => 0)) := by rw [ectk291, cup_ne (by simp)]; exact pc7_k273
  have pa8_k291 : adk291 (1, 10, 0) = q106 := by rw [eadk291, aup_ne (by simp)]; exact pa8_k273
  have pc8_k291 : ctk291 (1, 10, 0) = some (gI 0 672 (fun _ => 0)) := by rw [ectk291, cup_ne (by simp)]; exact pc8_k273
  have pa9_k291 : adk291 (1, 12, 0) = q129 := by rw [eadk291, aup_ne (by simp)]; exact pa9_k273
  have pc9_k291 : ctk291 (1, 12, 0) = some (gI 1 4 (fun _ => 0)) := by rw [ectk291, cup_ne (by simp)]; exact pc9_k273
  have pa10_k291 : adk291 (1, 13, 0) = q154 := by rw [eadk291, aup_ne (by simp)]; exact pa10_k273
  have pc10_k291 : ctk291 (1, 13, 0) = some (gI 1 4 (fun _ => 0)) := by rw [ectk291, cup_ne (by simp)]; exact pc10_k273
  have pa11_k291 : adk291 (1, 14, 0) = q181 := by rw [eadk291, aup_ne (by simp)]; exact pa11_k273
  have pc11_k291 : ctk291 (1, 14, 0) = some (gI 1 4 (fun _ => 0)) := by rw [ectk291, cup_ne (by simp)]; exact pc11_k273
  have pa12_k291 : adk291 (1, 15, 0) = q210 := by rw [eadk291, aup_ne (by simp)]; exact pa12_k273
  have pc12_k291 : ctk291 (1, 15, 0) = some (gI 1 14 (fun _ => 0)) := by rw [ectk291, cup_ne (by simp)]; exact pc12_k273
  have pa13_k291 : adk291 (1, 16, 0) = q241 := by rw [eadk291, aup_ne (by simp)]; exact pa13_k273
  have pc13_k291 : ctk291 (1, 16, 0) = some (gI 1 14 (fun _ => 0)) := by rw [ectk291, cup_ne (by simp)]; exact pc13_k273
  have pa14_k291 : adk291 (1, 17, 0) = q274 := by rw [eadk291, aup_eq]
  have pc14_k291 : ctk291 (1, 17, 0) = some (gI 1 14 (fun _ => 0)) := by rw [ectk291, cup_eq]
  have frk291 : ∀ t : Tg, (2 ≤ t.1) → ctk291 t = ct t ∧ adk291 t = ad t := fun t ht => by
    have e0 : t ≠ (1, 17, 0) := fun e => by rw [e] at ht; simp only at ht; omega
    exact ⟨(show ctk291 t = ctk273 t by rw [ectk291, cup_ne e0]).trans (frk273 t ht).1, (show adk291 t = adk257 t by rw [eadk291, aup_ne e0]).trans (frk273 t ht).2⟩
  refine g_putF hC hq (fs' := [vi (0), vi (0), .ref q1, vi (0), .ref q10, .ref q21, .ref q34, .ref q49, .ref q66, .ref q85, .ref q106, vi (0), .ref q129, .ref q154, .ref q181, .ref q210, .ref q241, .ref q274, .null, .null, vi (0), .null, vi (0), .null, .null, .null, .null, vi (0)]) dX7_init_111 gp_RX7_50 h289 ⟨rfl, rfl⟩ rfl (Nat.le_of_ble_eq_true rfl) ?_
  obtain ⟨gh292, egh292⟩ : ∃ g_, g_ = gset gh275 xa (gO 11 [vi (0), vi (0), .ref q1, vi (0), .ref q10, .ref q21, .ref q34, .ref q49, .ref q66, .ref q85, .ref q106, vi (0), .ref q129, .ref q154, .ref q181, .ref q210, .ref q241, .ref q274, .null, .null, vi (0), .null, vi (0), .null, .null, .null, .null, vi (0)]) := ⟨_, rfl⟩
  rw [← egh292]
  have h293 : gh292 q1 = some (gI 0 8 (fun _ => 0)) := by rw [egh292, gset_ne (gne h276 h289 (by simp))]; exact h276
  have h294 : gh292 q10 = some (gI 1 14 (fun _ => 0)) := by rw [egh292, gset_ne (gne h277 h289 (by simp))]; exact h277
  have h295 : gh292 q21 = some (gI 1 14 (fun _ => 0)) := by rw [egh292, gset_ne (gne h278 h289 (by simp))]; exact h278
  have h296 : gh292 q34 = some (gI 1 14 (fun _ => 0)) := by rw [egh292, gset_ne (gne h279 h289 (by simp))]; exact h279
  have h297 : gh292 q49 = some (gI 1 14 (fun _ => 0)) := by rw [egh292, gset_ne (gne h280 h289 (by simp))]; exact h280
  have h298 : gh292 q66 = some (gI 1 84 (fun _ => 0)) := by rw [egh292, gset_ne (gne h281 h289 (by simp))]; exact h281
  have h299 : gh292 q85 = some (gI 1 84 (fun _ => 0)) := by rw [egh292, gset_ne (gne h282 h289 (by simp))]; exact h282
  have h300 : gh292 q106 = some (gI 0 672 (fun _ => 0)) := by rw [egh292, gset_ne (gne h283 h289 (by simp))]; exact h283
  have h301 : gh292 q129 = some (gI 1 4 (fun _ => 0)) := by rw [egh292, gset_ne (gne h284 h289 (by simp))]; exact h284
  have h302 : gh292 q154 = some (gI 1 4 (fun _ => 0)) := by rw [egh292, gset_ne (gne h285 h289 (by simp))]; exact h285
  have h303 : gh292 q181 = some (gI 1 4 (fun _ => 0)) := by rw [egh292, gset_ne (gne h286 h289 (by simp))]; exact h286
  have h304 : gh292 q210 = some (gI 1 14 (fun _ => 0)) := by rw [egh292, gset_ne (gne h287 h289 (by simp))]; exact h287
  have h305 : gh292 q241 = some (gI 1 14 (fun _ => 0)) := by rw [egh292, gset_ne (gne h288 h289 (by simp))]; exact h288
  have h306 : gh292 q274 = some (gI 1 14 (fun _ => 0)) := by rw [egh292, gset_ne (gne h290 h289 (by simp))]; exact h290
  have h307 : gh292 xa = some (gO 11 [vi (0), vi (0), .ref q1, vi (0), .ref q10, .ref q21, .ref q34, .ref q49, .ref q66, .ref q85, .ref q106, vi (0), .ref q129, .ref q154, .ref q181, .ref q210, .ref q241, .ref q274, .null, .null, vi (0), .null, vi (0), .null, .null, .null, .null, vi (0)]) := by rw [egh292]; exact gset_eq
  have Rk308 := Rk291.put pc0_k291 (gO 11 [vi (0), vi (0), .ref q1, vi (0), .ref q10, .ref q21, .ref q34, .ref q49, .ref q66, .ref q85, .ref q106, vi (0), .ref q129, .ref q154, .ref q181, .ref q210, .ref q241, .ref q274, .null, .null, vi (0), .null, vi (0), .null, .null, .null, .null, vi (0)])
  obtain ⟨ctk308, ectk308⟩ : ∃ x, x = cup ctk291 (0, 0, 0) (gO 11 [vi (0), vi (0), .ref q1, vi (0), .ref q10, .ref q21, .ref q34, .ref q49, .ref q66, .ref q85, .ref q106, vi (0), .ref q129, .ref q154, .ref q181, .ref q210, .ref q241, .ref q274, .null, .null, vi (0), .null, vi (0), .null, .null, .null, .null, vi (0)]) := ⟨_, rfl⟩
  rw [pa0_k291, ← ectk308, ← egh292] at Rk308
  have pa0_k308 := pa0_k291
  have pc0_k308 : ctk308 (0, 0, 0) = some (gO 11 [vi (0), vi (0), .ref q1, vi (0), .ref q10, .ref q21, .ref q34, .ref q49, .ref q66, .ref q85, .ref q106, vi (0), .ref q129, .ref q154, .ref q181, .ref q210, .ref q241, .ref q274, .null, .null, vi (0), .null, vi (0), .null, .null, .null, .null, vi (0)]) := by rw [ectk308, cup_eq]
  have pa1_k308 := pa1_k291
  have pc1_k308 : ctk308 (1, 2, 0) = some (gI 0 8 (fun _ => 0)) := by rw [ectk308, cup_ne (by simp)]; exact pc1_k291
  have pa2_k308 := pa2_k291
  have pc2_k308 : ctk308 (1, 4, 0) = some (gI 1 14 (fun _ => 0)) := by rw [ectk308, cup_ne (by simp)]; exact pc2_k291
  have pa3_k308 := pa3_k291
  have pc3_k308 : ctk308 (1, 5, 0) = some (gI 1 14 (fun _ => 0)) := by rw [ectk308, cup_ne (by simp)]; exact pc3_k291
  have pa4_k308 := pa4_k291
  have pc4_k308 : ctk308 (1, 6, 0) = some (gI 1 14 (fun _ => 0)) := by rw [ectk308, cup_ne (by simp)]; exact pc4_k291
  have pa5_k308 := pa5_k291
  have pc5_k308 : ctk308 (1, 7, 0) = some (gI 1 14 (fun _ => 0)) := by rw [ectk308, cup_ne (by simp)]; exact pc5_k291
  have pa6_k308 := pa6_k291
  have pc6_k308 : ctk308 (1, 8, 0) = some (gI 1 84 (fun _ => 0)) := by rw [ectk308, cup_ne (by simp)]; exact pc6_k291
  have pa7_k308 := pa7_k291
  have pc7_k308 : ctk308 (1, 9, 0) = some (gI 1 84 (fun _ => 0)) := by rw [ectk308, cup_ne (by simp)]; exact pc7_k291
  have pa8_k308 := pa8_k291
  have pc8_k308 : ctk308 (1, 10, 0) = some (gI 0 672 (fun _ => 0)) := by rw [ectk308, cup_ne (by simp)]; exact pc8_k291
  have pa9_k308 := pa9_k291
  have pc9_k308 : ctk308 (1, 12, 0) = some (gI 1 4 (fun _ => 0)) := by rw [ectk308, cup_ne (by simp)]; exact pc9_k291
  have pa10_k308 := pa10_k291
  have pc10_k308 : ctk308 (1, 13, 0) = some (gI 1 4 (fun _ => 0)) := by rw [ectk308, cup_ne (by simp)]; exact pc10_k291
  have pa11_k308 := pa11_k291
  have pc11_k308 : ctk308 (1, 14, 0) = some (gI 1 4 (fun _ => 0)) := by rw [ectk308, cup_ne (by simp)]; exact pc11_k291
  have pa12_k308 := pa12_k291
  have pc12_k308 : ctk308 (1, 15, 0) = some (gI 1 14 (fun _ => 0)) := by rw [ectk308, cup_ne (by simp)]; exact pc12_k291
  have pa13_k308 := pa13_k291
  have pc13_k308 : ctk308 (1, 16, 0) = some (gI 1 14 (fun _ => 0)) := by rw [ectk308, cup_ne (by simp)]; exact pc13_k291
  have pa14_k308 := pa14_k291
  have pc14_k308 : ctk308 (1, 17, 0) = some (gI 1 14 (fun _ => 0)) := by rw [ectk308, cup_ne (by simp)]; exact pc14_k291
  have frk308 : ∀ t : Tg, (2 ≤ t.1) → ctk308 t = ct t ∧ adk291 t = ad t := fun t ht => by
    have e0 : t ≠ (0, 0, 0) := fun e => by rw [e] at ht; simp only at ht; omega
    exact ⟨(show ctk308 t = ctk291 t by rw [ectk308, cup_ne e0]).trans (frk291 t ht).1, (frk291 t ht).2⟩
  refine g_ald_n hC dX7_init_114 rfl ?_
  refine g_sipush (z := 960) hC dX7_init_115 rfl ?_
  refine g_newC (n := 960) hC dX7_init_118 ga_char rfl (by decide) (by decide) (by decide) (fun q309 hnq309 => ?_)
  obtain ⟨gh310, egh310⟩ : ∃ g_, g_ = gset gh292 q309 (gI 0 960 (fun _ => 0)) := ⟨_, rfl⟩
  rw [← egh310]
  have h311 : gh310 q1 = some (gI 0 8 (fun _ => 0)) := by rw [egh310, gset_ne (fun z => by rw [z, hnq309] at h293; cases h293)]; exact h293
  have h312 : gh310 q10 = some (gI 1 14 (fun _ => 0)) := by rw [egh310, gset_ne (fun z => by rw [z, hnq309] at h294; cases h294)]; exact h294
  have h313 : gh310 q21 = some (gI 1 14 (fun _ => 0)) := by rw [egh310, gset_ne (fun z => by rw [z, hnq309] at h295; cases h295)]; exact h295
  have h314 : gh310 q34 = some (gI 1 14 (fun _ => 0)) := by rw [egh310, gset_ne (fun z => by rw [z, hnq309] at h296; cases h296)]; exact h296
  have h315 : gh310 q49 = some (gI 1 14 (fun _ => 0)) := by rw [egh310, gset_ne (fun z => by rw [z, hnq309] at h297; cases h297)]; exact h297
  have h316 : gh310 q66 = some (gI 1 84 (fun _ => 0)) := by rw [egh310, gset_ne (fun z => by rw [z, hnq309] at h298; cases h298)]; exact h298
  have h317 : gh310 q85 = some (gI 1 84 (fun _ => 0)) := by rw [egh310, gset_ne (fun z => by rw [z, hnq309] at h299; cases h299)]; exact h299
  have h318 : gh310 q106 = some (gI 0 672 (fun _ => 0)) := by rw [egh310, gset_ne (fun z => by rw [z, hnq309] at h300; cases h300)]; exact h300
  have h319 : gh310 q129 = some (gI 1 4 (fun _ => 0)) := by rw [egh310, gset_ne (fun z => by rw [z, hnq309] at h301; cases h301)]; exact h301
  have h320 : gh310 q154 = some (gI 1 4 (fun _ => 0)) := by rw [egh310, gset_ne (fun z => by rw [z, hnq309] at h302; cases h302)]; exact h302
  have h321 : gh310 q181 = some (gI 1 4 (fun _ => 0)) := by rw [egh310, gset_ne (fun z => by rw [z, hnq309] at h303; cases h303)]; exact h303
  have h322 : gh310 q210 = some (gI 1 14 (fun _ => 0)) := by rw [egh310, gset_ne (fun z => by rw [z, hnq309] at h304; cases h304)]; exact h304
  have h323 : gh310 q241 = some (gI 1 14 (fun _ => 0)) := by rw [egh310, gset_ne (fun z => by rw [z, hnq309] at h305; cases h305)]; exact h305
  have h324 : gh310 q274 = some (gI 1 14 (fun _ => 0)) := by rw [egh310, gset_ne (fun z => by rw [z, hnq309] at h306; cases h306)]; exact h306
  have h325 : gh310 xa = some (gO 11 [vi (0), vi (0), .ref q1, vi (0), .ref q10, .ref q21, .ref q34, .ref q49, .ref q66, .ref q85, .ref q106, vi (0), .ref q129, .ref q154, .ref q181, .ref q210, .ref q241, .ref q274, .null, .null, vi (0), .null, vi (0), .null, .null, .null, .null, vi (0)]) := by rw [egh310, gset_ne (fun z => by rw [z, hnq309] at h307; cases h307)]; exact h307
  have h326 : gh310 q309 = some (gI 0 960 (fun _ => 0)) := by rw [egh310]; exact gset_eq
  have Rk327 := Rk308.new (t := (1, 18, 0)) hnq309 (gI 0 960 (fun _ => 0))
  obtain ⟨adk327, eadk327⟩ : ∃ x, x = aup adk291 (1, 18, 0) q309 := ⟨_, rfl⟩
  obtain ⟨ctk327, ectk327⟩ : ∃ x, x = cup ctk308 (1, 18, 0) (gI 0 960 (fun _ => 0)) := ⟨_, rfl⟩
  rw [← eadk327, ← ectk327, ← egh310] at Rk327
  have pa0_k327 : adk327 (0, 0, 0) = xa := by rw [eadk327, aup_ne (by simp)]; exact pa0_k308
  have pc0_k327 : ctk327 (0, 0, 0) = some (gO 11 [vi (0), vi (0), .ref q1, vi (0), .ref q10, .ref q21, .ref q34, .ref q49, .ref q66, .ref q85, .ref q106, vi (0), .ref q129, .ref q154, .ref q181, .ref q210, .ref q241, .ref q274, .null, .null, vi (0), .null, vi (0), .null, .null, .null, .null, vi (0)]) := by rw [ectk327, cup_ne (by simp)]; exact pc0_k308
  have pa1_k327 : adk327 (1, 2, 0) = q1 := by rw [eadk327, aup_ne (by simp)]; exact pa1_k308
  have pc1_k327 : ctk327 (1, 2, 0) = some (gI 0 8 (fun _ => 0)) := by rw [ectk327, cup_ne (by simp)]; exact pc1_k308
  have pa2_k327 : adk327 (1, 4, 0) = q10 := by rw [eadk327, aup_ne (by simp)]; exact pa2_k308
  have pc2_k327 : ctk327 (1, 4, 0) = some (gI 1 14 (fun _ => 0)) := by rw [ectk327, cup_ne (by simp)]; exact pc2_k308
  have pa3_k327 : adk327 (1, 5, 0) = q21 := by rw [eadk327, aup_ne (by simp)]; exact pa3_k308
  have pc3_k327 : ctk327 (1, 5, 0) = some (gI 1 14 (fun _ => 0)) := by rw [ectk327, cup_ne (by simp)]; exact pc3_k308
  have pa4_k327 : adk327 (1, 6, 0) = q34 := by rw [eadk327, aup_ne (by simp)]; exact pa4_k308
  have pc4_k327 : ctk327 (1, 6, 0) = some (gI 1 14 (fun _ => 0)) := by rw [ectk327, cup_ne (by simp)]; exact pc4_k308
  have pa5_k327 : adk327 (1, 7, 0) = q49 := by rw [eadk327, aup_ne (by simp)]; exact pa5_k308
  have pc5_k327 : ctk327 (1, 7, 0) = some (gI 1 14 (fun _ => 0)) := by rw [ectk327, cup_ne (by simp)]; exact pc5_k308
  have pa6_k327 : adk327 (1, 8, 0) = q66 := by rw [eadk327, aup_ne (by simp)]; exact pa6_k308
  have pc6_k327 : ctk327 (1, 8, 0) = some (gI 1 84 (fun _ => 0)) := by rw [ectk327, cup_ne (by simp)]; exact pc6_k308
  have pa7_k327 : adk327 (1, 9, 0) = q85 := by rw [eadk327, aup_ne (by simp)]; exact pa7_k308
  have pc7_k327 : ctk327 (1, 9, 0) = some (gI 1 84 (fun _ => 0)) := by rw [ectk327, cup_ne (by simp)]; exact pc7_k308
  have pa8_k327 : adk327 (1, 10, 0) = q106 := by rw [eadk327, aup_ne (by simp)]; exact pa8_k308
  have pc8_k327 : ctk327 (1, 10, 0) = some (gI 0 672 (fun _ => 0)) := by rw [ectk327, cup_ne (by simp)]; exact pc8_k308
  have pa9_k327 : adk327 (1, 12, 0) = q129 := by rw [eadk327, aup_ne (by simp)]; exact pa9_k308
  have pc9_k327 : ctk327 (1, 12, 0) = some (gI 1 4 (fun _ => 0)) := by rw [ectk327, cup_ne (by simp)]; exact pc9_k308
  have pa10_k327 : adk327 (1, 13, 0) = q154 := by rw [eadk327, aup_ne (by simp)]; exact pa10_k308
  have pc10_k327 : ctk327 (1, 13, 0) = some (gI 1 4 (fun _ => 0)) := by rw [ectk327, cup_ne (by simp)]; exact pc10_k308
  have pa11_k327 : adk327 (1, 14, 0) = q181 := by rw [eadk327, aup_ne (by simp)]; exact pa11_k308
  have pc11_k327 : ctk327 (1, 14, 0) = some (gI 1 4 (fun _ => 0)) := by rw [ectk327, cup_ne (by simp)]; exact pc11_k308
  have pa12_k327 : adk327 (1, 15, 0) = q210 := by rw [eadk327, aup_ne (by simp)]; exact pa12_k308
  have pc12_k327 : ctk327 (1, 15, 0) = some (gI 1 14 (fun _ => 0)) := by rw [ectk327, cup_ne (by simp)]; exact pc12_k308
  have pa13_k327 : adk327 (1, 16, 0) = q241 := by rw [eadk327, aup_ne (by simp)]; exact pa13_k308
  have pc13_k327 : ctk327 (1, 16, 0) = some (gI 1 14 (fun _ => 0)) := by rw [ectk327, cup_ne (by simp)]; exact pc13_k308
  have pa14_k327 : adk327 (1, 17, 0) = q274 := by rw [eadk327, aup_ne (by simp)]; exact pa14_k308
  have pc14_k327 : ctk327 (1, 17, 0) = some (gI 1 14 (fun _ => 0)) := by rw [ectk327, cup_ne (by simp)]; exact pc14_k308
  have pa15_k327 : adk327 (1, 18, 0) = q309 := by rw [eadk327, aup_eq]
  have pc15_k327 : ctk327 (1, 18, 0) = some (gI 0 960 (fun _ => 0)) := by rw [ectk327, cup_eq]
  have frk327 : ∀ t : Tg, (2 ≤ t.1) → ctk327 t = ct t ∧ adk327 t = ad t := fun t ht => by
    have e0 : t ≠ (1, 18, 0) := fun e => by rw [e] at ht; simp only at ht; omega
    exact ⟨(show ctk327 t = ctk308 t by rw [ectk327, cup_ne e0]).trans (frk308 t ht).1, (show adk327 t = adk291 t by rw [eadk327, aup_ne e0]).trans (frk308 t ht).2⟩
  refine g_putF hC hq (fs' := [vi (0), vi (0), .ref q1, vi (0), .ref q10, .ref q21, .ref q34, .ref q49, .ref q66, .ref q85, .ref q106, vi (0), .ref q129, .ref q154, .ref q181, .ref q210, .ref q241, .ref q274, .ref q309, .null, vi (0), .null, vi (0), .null, .null, .null, .null, vi (0)]) dX7_init_120 gp_RX7_53 h325 ⟨rfl, rfl⟩ rfl (Nat.le_of_ble_eq_true rfl) ?_
  obtain ⟨gh328, egh328⟩ : ∃ g_, g_ = gset gh310 xa (gO 11 [vi (0), vi (0), .ref q1, vi (0), .ref q10, .ref q21, .ref q34, .ref q49, .ref q66, .ref q85, .ref q106, vi (0), .ref q129, .ref q154, .ref q181, .ref q210, .ref q241, .ref q274, .ref q309, .null, vi (0), .null, vi (0), .null, .null, .null, .null, vi (0)]) := ⟨_, rfl⟩
  rw [← egh328]
  have h329 : gh328 q1 = some (gI 0 8 (fun _ => 0)) := by rw [egh328, gset_ne (gne h311 h325 (by simp))]; exact h311
  have h330 : gh328 q10 = some (gI 1 14 (fun _ => 0)) := by rw [egh328, gset_ne (gne h312 h325 (by simp))]; exact h312
  have h331 : gh328 q21 = some (gI 1 14 (fun _ => 0)) := by rw [egh328, gset_ne (gne h313 h325 (by simp))]; exact h313
  have h332 : gh328 q34 = some (gI 1 14 (fun _ => 0)) := by rw [egh328, gset_ne (gne h314 h325 (by simp))]; exact h314
  have h333 : gh328 q49 = some (gI 1 14 (fun _ => 0)) := by rw [egh328, gset_ne (gne h315 h325 (by simp))]; exact h315
  have h334 : gh328 q66 = some (gI 1 84 (fun _ => 0)) := by rw [egh328, gset_ne (gne h316 h325 (by simp))]; exact h316
  have h335 : gh328 q85 = some (gI 1 84 (fun _ => 0)) := by rw [egh328, gset_ne (gne h317 h325 (by simp))]; exact h317
  have h336 : gh328 q106 = some (gI 0 672 (fun _ => 0)) := by rw [egh328, gset_ne (gne h318 h325 (by simp))]; exact h318
  have h337 : gh328 q129 = some (gI 1 4 (fun _ => 0)) := by rw [egh328, gset_ne (gne h319 h325 (by simp))]; exact h319
  have h338 : gh328 q154 = some (gI 1 4 (fun _ => 0)) := by rw [egh328, gset_ne (gne h320 h325 (by simp))]; exact h320
  have h339 : gh328 q181 = some (gI 1 4 (fun _ => 0)) := by rw [egh328, gset_ne (gne h321 h325 (by simp))]; exact h321
  have h340 : gh328 q210 = some (gI 1 14 (fun _ => 0)) := by rw [egh328, gset_ne (gne h322 h325 (by simp))]; exact h322
  have h341 : gh328 q241 = some (gI 1 14 (fun _ => 0)) := by rw [egh328, gset_ne (gne h323 h325 (by simp))]; exact h323
  have h342 : gh328 q274 = some (gI 1 14 (fun _ => 0)) := by rw [egh328, gset_ne (gne h324 h325 (by simp))]; exact h324
  have h343 : gh328 q309 = some (gI 0 960 (fun _ => 0)) := by rw [egh328, gset_ne (gne h326 h325 (by simp))]; exact h326
  have h344 : gh328 xa = some (gO 11 [vi (0), vi (0), .ref q1, vi (0), .ref q10, .ref q21, .ref q34, .ref q49, .ref q66, .ref q85, .ref q106, vi (0), .ref q129, .ref q154, .ref q181, .ref q210, .ref q241, .ref q274, .ref q309, .null, vi (0), .null, vi (0), .null, .null, .null, .null, vi (0)]) := by rw [egh328]; exact gset_eq
  have Rk345 := Rk327.put pc0_k327 (gO 11 [vi (0), vi (0), .ref q1, vi (0), .ref q10, .ref q21, .ref q34, .ref q49, .ref q66, .ref q85, .ref q106, vi (0), .ref q129, .ref q154, .ref q181, .ref q210, .ref q241, .ref q274, .ref q309, .null, vi (0), .null, vi (0), .null, .null, .null, .null, vi (0)])
  obtain ⟨ctk345, ectk345⟩ : ∃ x, x = cup ctk327 (0, 0, 0) (gO 11 [vi (0), vi (0), .ref q1, vi (0), .ref q10, .ref q21, .ref q34, .ref q49, .ref q66, .ref q85, .ref q106, vi (0), .ref q129, .ref q154, .ref q181, .ref q210, .ref q241, .ref q274, .ref q309, .null, vi (0), .null, vi (0), .null, .null, .null, .null, vi (0)]) := ⟨_, rfl⟩
  rw [pa0_k327, ← ectk345, ← egh328] at Rk345
  have pa0_k345 := pa0_k327
  have pc0_k345 : ctk345 (0, 0, 0) = some (gO 11 [vi (0), vi (0), .ref q1, vi (0), .ref q10, .ref q21, .ref q34, .ref q49, .ref q66, .ref q85, .ref q106, vi (0), .ref q129, .ref q154, .ref q181, .ref q210, .ref q241, .ref q274, .ref q309, .null, vi (0), .null, vi (0), .null, .null, .null, .null, vi (0)]) := by rw [ectk345, cup_eq]
  have pa1_k345 := pa1_k327
  have pc1_k345 : ctk345 (1, 2, 0) = some (gI 0 8 (fun _ => 0)) := by rw [ectk345, cup_ne (by simp)]; exact pc1_k327
  have pa2_k345 := pa2_k327
  have pc2_k345 : ctk345 (1, 4, 0) = some (gI 1 14 (fun _ => 0)) := by rw [ectk345, cup_ne (by simp)]; exact pc2_k327
  have pa3_k345 := pa3_k327
  have pc3_k345 : ctk345 (1, 5, 0) = some (gI 1 14 (fun _ => 0)) := by rw [ectk345, cup_ne (by simp)]; exact pc3_k327
  have pa4_k345 := pa4_k327
  have pc4_k345 : ctk345 (1, 6, 0) = some (gI 1 14 (fun _ => 0)) := by rw [ectk345, cup_ne (by simp)]; exact pc4_k327
  have pa5_k345 := pa5_k327
  have pc5_k345 : ctk345 (1, 7, 0) = some (gI 1 14 (fun _ => 0)) := by rw [ectk345, cup_ne (by simp)]; exact pc5_k327
  have pa6_k345 := pa6_k327
  have pc6_k345 : ctk345 (1, 8, 0) = some (gI 1 84 (fun _ => 0)) := by rw [ectk345, cup_ne (by simp)]; exact pc6_k327
  have pa7_k345 := pa7_k327
  have pc7_k345 : ctk345 (1, 9, 0) = some (gI 1 84 (fun _ => 0)) := by rw [ectk345, cup_ne (by simp)]; exact pc7_k327
  have pa8_k345 := pa8_k327
  have pc8_k345 : ctk345 (1, 10, 0) = some (gI 0 672 (fun _ => 0)) := by rw [ectk345, cup_ne (by simp)]; exact pc8_k327
  have pa9_k345 := pa9_k327
  have pc9_k345 : ctk345 (1, 12, 0) = some (gI 1 4 (fun _ => 0)) := by rw [ectk345, cup_ne (by simp)]; exact pc9_k327
  have pa10_k345 := pa10_k327
  have pc10_k345 : ctk345 (1, 13, 0) = some (gI 1 4 (fun _ => 0)) := by rw [ectk345, cup_ne (by simp)]; exact pc10_k327
  have pa11_k345 := pa11_k327
  have pc11_k345 : ctk345 (1, 14, 0) = some (gI 1 4 (fun _ => 0)) := by rw [ectk345, cup_ne (by simp)]; exact pc11_k327
  have pa12_k345 := pa12_k327
  have pc12_k345 : ctk345 (1, 15, 0) = some (gI 1 14 (fun _ => 0)) := by rw [ectk345, cup_ne (by simp)]; exact pc12_k327
  have pa13_k345 := pa13_k327
  have pc13_k345 : ctk345 (1, 16, 0) = some (gI 1 14 (fun _ => 0)) := by rw [ectk345, cup_ne (by simp)]; exact pc13_k327
  have pa14_k345 := pa14_k327
  have pc14_k345 : ctk345 (1, 17, 0) = some (gI 1 14 (fun _ => 0)) := by rw [ectk345, cup_ne (by simp)]; exact pc14_k327
  have pa15_k345 := pa15_k327
  have pc15_k345 : ctk345 (1, 18, 0) = some (gI 0 960 (fun _ => 0)) := by rw [ectk345, cup_ne (by simp)]; exact pc15_k327
  have frk345 : ∀ t : Tg, (2 ≤ t.1) → ctk345 t = ct t ∧ adk327 t = ad t := fun t ht => by
    have e0 : t ≠ (0, 0, 0) := fun e => by rw [e] at ht; simp only at ht; omega
    exact ⟨(show ctk345 t = ctk327 t by rw [ectk345, cup_ne e0]).trans (frk327 t ht).1, (frk327 t ht).2⟩
  refine g_ald_n hC dX7_init_123 rfl ?_
  refine g_bipush (z := 56) hC dX7_init_124 rfl ?_
  refine g_newI (n := 56) hC dX7_init_126 ga_int rfl (by decide) (by decide) (by decide) (fun q346 hnq346 => ?_)
  obtain ⟨gh347, egh347⟩ : ∃ g_, g_ = gset gh328 q346 (gI 1 56 (fun _ => 0)) := ⟨_, rfl⟩
  rw [← egh347]
  have h348 : gh347 q1 = some (gI 0 8 (fun _ => 0)) := by rw [egh347, gset_ne (fun z => by rw [z, hnq346] at h329; cases h329)]; exact h329
  have h349 : gh347 q10 = some (gI 1 14 (fun _ => 0)) := by rw [egh347, gset_ne (fun z => by rw [z, hnq346] at h330; cases h330)]; exact h330
  have h350 : gh347 q21 = some (gI 1 14 (fun _ => 0)) := by rw [egh347, gset_ne (fun z => by rw [z, hnq346] at h331; cases h331)]; exact h331
  have h351 : gh347 q34 = some (gI 1 14 (fun _ => 0)) := by rw [egh347, gset_ne (fun z => by rw [z, hnq346] at h332; cases h332)]; exact h332
  have h352 : gh347 q49 = some (gI 1 14 (fun _ => 0)) := by rw [egh347, gset_ne (fun z => by rw [z, hnq346] at h333; cases h333)]; exact h333
  have h353 : gh347 q66 = some (gI 1 84 (fun _ => 0)) := by rw [egh347, gset_ne (fun z => by rw [z, hnq346] at h334; cases h334)]; exact h334
  have h354 : gh347 q85 = some (gI 1 84 (fun _ => 0)) := by rw [egh347, gset_ne (fun z => by rw [z, hnq346] at h335; cases h335)]; exact h335
  have h355 : gh347 q106 = some (gI 0 672 (fun _ => 0)) := by rw [egh347, gset_ne (fun z => by rw [z, hnq346] at h336; cases h336)]; exact h336
  have h356 : gh347 q129 = some (gI 1 4 (fun _ => 0)) := by rw [egh347, gset_ne (fun z => by rw [z, hnq346] at h337; cases h337)]; exact h337
  have h357 : gh347 q154 = some (gI 1 4 (fun _ => 0)) := by rw [egh347, gset_ne (fun z => by rw [z, hnq346] at h338; cases h338)]; exact h338
  have h358 : gh347 q181 = some (gI 1 4 (fun _ => 0)) := by rw [egh347, gset_ne (fun z => by rw [z, hnq346] at h339; cases h339)]; exact h339
  have h359 : gh347 q210 = some (gI 1 14 (fun _ => 0)) := by rw [egh347, gset_ne (fun z => by rw [z, hnq346] at h340; cases h340)]; exact h340
  have h360 : gh347 q241 = some (gI 1 14 (fun _ => 0)) := by rw [egh347, gset_ne (fun z => by rw [z, hnq346] at h341; cases h341)]; exact h341
  have h361 : gh347 q274 = some (gI 1 14 (fun _ => 0)) := by rw [egh347, gset_ne (fun z => by rw [z, hnq346] at h342; cases h342)]; exact h342
  have h362 : gh347 q309 = some (gI 0 960 (fun _ => 0)) := by rw [egh347, gset_ne (fun z => by rw [z, hnq346] at h343; cases h343)]; exact h343
  have h363 : gh347 xa = some (gO 11 [vi (0), vi (0), .ref q1, vi (0), .ref q10, .ref q21, .ref q34, .ref q49, .ref q66, .ref q85, .ref q106, vi (0), .ref q129, .ref q154, .ref q181, .ref q210, .ref q241, .ref q274, .ref q309, .null, vi (0), .null, vi (0), .null, .null, .null, .null, vi (0)]) := by rw [egh347, gset_ne (fun z => by rw [z, hnq346] at h344; cases h344)]; exact h344
  have h364 : gh347 q346 = some (gI 1 56 (fun _ => 0)) := by rw [egh347]; exact gset_eq
  have Rk365 := Rk345.new (t := (1, 19, 0)) hnq346 (gI 1 56 (fun _ => 0))
  obtain ⟨adk365, eadk365⟩ : ∃ x, x = aup adk327 (1, 19, 0) q346 := ⟨_, rfl⟩
  obtain ⟨ctk365, ectk365⟩ : ∃ x, x = cup ctk345 (1, 19, 0) (gI 1 56 (fun _ => 0)) := ⟨_, rfl⟩
  rw [← eadk365, ← ectk365, ← egh347] at Rk365
  have pa0_k365 : adk365 (0, 0, 0) = xa := by rw [eadk365, aup_ne (by simp)]; exact pa0_k345
  have pc0_k365 : ctk365 (0, 0, 0) = some (gO 11 [vi (0), vi (0), .ref q1, vi (0), .ref q10, .ref q21, .ref q34, .ref q49, .ref q66, .ref q85, .ref q106, vi (0), .ref q129, .ref q154, .ref q181, .ref q210, .ref q241, .ref q274, .ref q309, .null, vi (0), .null, vi (0), .null, .null, .null, .null, vi (0)]) := by rw [ectk365, cup_ne (by simp)]; exact pc0_k345
  have pa1_k365 : adk365 (1, 2, 0) = q1 := by rw [eadk365, aup_ne (by simp)]; exact pa1_k345
  have pc1_k365 : ctk365 (1, 2, 0) = some (gI 0 8 (fun _ => 0)) := by rw [ectk365, cup_ne (by simp)]; exact pc1_k345
  have pa2_k365 : adk365 (1, 4, 0) = q10 := by rw [eadk365, aup_ne (by simp)]; exact pa2_k345
  have pc2_k365 : ctk365 (1, 4, 0) = some (gI 1 14 (fun _ => 0)) := by rw [ectk365, cup_ne (by simp)]; exact pc2_k345
  have pa3_k365 : adk365 (1, 5, 0) = q21 := by rw [eadk365, aup_ne (by simp)]; exact pa3_k345
  have pc3_k365 : ctk365 (1, 5, 0) = some (gI 1 14 (fun _ => 0)) := by rw [ectk365, cup_ne (by simp)]; exact pc3_k345
  have pa4_k365 : adk365 (1, 6, 0) = q34 := by rw [eadk365, aup_ne (by simp)]; exact pa4_k345
  have pc4_k365 : ctk365 (1, 6, 0) = some (gI 1 14 (fun _ => 0)) := by rw [ectk365, cup_ne (by simp)]; exact pc4_k345
  have pa5_k365 : adk365 (1, 7, 0) = q49 := by rw [eadk365, aup_ne (by simp)]; exact pa5_k345
  have pc5_k365 : ctk365 (1, 7, 0) = some (gI 1 14 (fun _ => 0)) := by rw [ectk365, cup_ne (by simp)]; exact pc5_k345
  have pa6_k365 : adk365 (1, 8, 0) = q66 := by rw [eadk365, aup_ne (by simp)]; exact pa6_k345
  have pc6_k365 : ctk365 (1, 8, 0) = some (gI 1 84 (fun _ => 0)) := by rw [ectk365, cup_ne (by simp)]; exact pc6_k345
  have pa7_k365 : adk365 (1, 9, 0) = q85 := by rw [eadk365, aup_ne (by simp)]; exact pa7_k345
  have pc7_k365 : ctk365 (1, 9, 0) = some (gI 1 84 (fun _ => 0)) := by rw [ectk365, cup_ne (by simp)]; exact pc7_k345
  have pa8_k365 : adk365 (1, 10, 0) = q106 := by rw [eadk365, aup_ne (by simp)]; exact pa8_k345
  have pc8_k365 : ctk365 (1, 10, 0) = some (gI 0 672 (fun _ => 0)) := by rw [ectk365, cup_ne (by simp)]; exact pc8_k345
  have pa9_k365 : adk365 (1, 12, 0) = q129 := by rw [eadk365, aup_ne (by simp)]; exact pa9_k345
  have pc9_k365 : ctk365 (1, 12, 0) = some (gI 1 4 (fun _ => 0)) := by rw [ectk365, cup_ne (by simp)]; exact pc9_k345
  have pa10_k365 : adk365 (1, 13, 0) = q154 := by rw [eadk365, aup_ne (by simp)]; exact pa10_k345
  have pc10_k365 : ctk365 (1, 13, 0) = some (gI 1 4 (fun _ => 0)) := by rw [ectk365, cup_ne (by simp)]; exact pc10_k345
  have pa11_k365 : adk365 (1, 14, 0) = q181 := by rw [eadk365, aup_ne (by simp)]; exact pa11_k345
  have pc11_k365 : ctk365 (1, 14, 0) = some (gI 1 4 (fun _ => 0)) := by rw [ectk365, cup_ne (by simp)]; exact pc11_k345
  have pa12_k365 : adk365 (1, 15, 0) = q210 := by rw [eadk365, aup_ne (by simp)]; exact pa12_k345
  have pc12_k365 : ctk365 (1, 15, 0) = some (gI 1 14 (fun _ => 0)) := by rw [ectk365, cup_ne (by simp)]; exact pc12_k345
  have pa13_k365 : adk365 (1, 16, 0) = q241 := by rw [eadk365, aup_ne (by simp)]; exact pa13_k345
  have pc13_k365 : ctk365 (1, 16, 0) = some (gI 1 14 (fun _ => 0)) := by rw [ectk365, cup_ne (by simp)]; exact pc13_k345
  have pa14_k365 : adk365 (1, 17, 0) = q274 := by rw [eadk365, aup_ne (by simp)]; exact pa14_k345
  have pc14_k365 : ctk365 (1, 17, 0) = some (gI 1 14 (fun _ => 0)) := by rw [ectk365, cup_ne (by simp)]; exact pc14_k345
  have pa15_k365 : adk365 (1, 18, 0) = q309 := by rw [eadk365, aup_ne (by simp)]; exact pa15_k345
  have pc15_k365 : ctk365 (1, 18, 0) = some (gI 0 960 (fun _ => 0)) := by rw [ectk365, cup_ne (by simp)]; exact pc15_k345
  have pa16_k365 : adk365 (1, 19, 0) = q346 := by rw [eadk365, aup_eq]
  have pc16_k365 : ctk365 (1, 19, 0) = some (gI 1 56 (fun _ => 0)) := by rw [ectk365, cup_eq]
  have frk365 : ∀ t : Tg, (2 ≤ t.1) → ctk365 t = ct t ∧ adk365 t = ad t := fun t ht => by
    have e0 : t ≠ (1, 19, 0) := fun e => by rw [e] at ht; simp only at ht; omega
    exact ⟨(show ctk365 t = ctk345 t by rw [ectk365, cup_ne e0]).trans (frk345 t ht).1, (show adk365 t = adk327 t by rw [eadk365, aup_ne e0]).trans (frk345 t ht).2⟩
  refine g_putF hC hq (fs' := [vi (0), vi (0), .ref q1, vi (0), .ref q10, .ref q21, .ref q34, .ref q49, .ref q66, .ref q85, .ref q106, vi (0), .ref q129, .ref q154, .ref q181, .ref q210, .ref q241, .ref q274, .ref q309, .ref q346, vi (0), .null, vi (0), .null, .null, .null, .null, vi (0)]) dX7_init_128 gp_RX7_56 h363 ⟨rfl, rfl⟩ rfl (Nat.le_of_ble_eq_true rfl) ?_
  obtain ⟨gh366, egh366⟩ : ∃ g_, g_ = gset gh347 xa (gO 11 [vi (0), vi (0), .ref q1, vi (0), .ref q10, .ref q21, .ref q34, .ref q49, .ref q66, .ref q85, .ref q106, vi (0), .ref q129, .ref q154, .ref q181, .ref q210, .ref q241, .ref q274, .ref q309, .ref q346, vi (0), .null, vi (0), .null, .null, .null, .null, vi (0)]) := ⟨_, rfl⟩
  rw [← egh366]
  have h367 : gh366 q1 = some (gI 0 8 (fun _ => 0)) := by rw [egh366, gset_ne (gne h348 h363 (by simp))]; exact h348
  have h368 : gh366 q10 = some (gI 1 14 (fun _ => 0)) := by rw [egh366, gset_ne (gne h349 h363 (by simp))]; exact h349
  have h369 : gh366 q21 = some (gI 1 14 (fun _ => 0)) := by rw [egh366, gset_ne (gne h350 h363 (by simp))]; exact h350
  have h370 : gh366 q34 = some (gI 1 14 (fun _ => 0)) := by rw [egh366, gset_ne (gne h351 h363 (by simp))]; exact h351
  have h371 : gh366 q49 = some (gI 1 14 (fun _ => 0)) := by rw [egh366, gset_ne (gne h352 h363 (by simp))]; exact h352
  have h372 : gh366 q66 = some (gI 1 84 (fun _ => 0)) := by rw [egh366, gset_ne (gne h353 h363 (by simp))]; exact h353
  have h373 : gh366 q85 = some (gI 1 84 (fun _ => 0)) := by rw [egh366, gset_ne (gne h354 h363 (by simp))]; exact h354
  have h374 : gh366 q106 = some (gI 0 672 (fun _ => 0)) := by rw [egh366, gset_ne (gne h355 h363 (by simp))]; exact h355
  have h375 : gh366 q129 = some (gI 1 4 (fun _ => 0)) := by rw [egh366, gset_ne (gne h356 h363 (by simp))]; exact h356
  have h376 : gh366 q154 = some (gI 1 4 (fun _ => 0)) := by rw [egh366, gset_ne (gne h357 h363 (by simp))]; exact h357
  have h377 : gh366 q181 = some (gI 1 4 (fun _ => 0)) := by rw [egh366, gset_ne (gne h358 h363 (by simp))]; exact h358
  have h378 : gh366 q210 = some (gI 1 14 (fun _ => 0)) := by rw [egh366, gset_ne (gne h359 h363 (by simp))]; exact h359
  have h379 : gh366 q241 = some (gI 1 14 (fun _ => 0)) := by rw [egh366, gset_ne (gne h360 h363 (by simp))]; exact h360
  have h380 : gh366 q274 = some (gI 1 14 (fun _ => 0)) := by rw [egh366, gset_ne (gne h361 h363 (by simp))]; exact h361
  have h381 : gh366 q309 = some (gI 0 960 (fun _ => 0)) := by rw [egh366, gset_ne (gne h362 h363 (by simp))]; exact h362
  have h382 : gh366 q346 = some (gI 1 56 (fun _ => 0)) := by rw [egh366, gset_ne (gne h364 h363 (by simp))]; exact h364
  have h383 : gh366 xa = some (gO 11 [vi (0), vi (0), .ref q1, vi (0), .ref q10, .ref q21, .ref q34, .ref q49, .ref q66, .ref q85, .ref q106, vi (0), .ref q129, .ref q154, .ref q181, .ref q210, .ref q241, .ref q274, .ref q309, .ref q346, vi (0), .null, vi (0), .null, .null, .null, .null, vi (0)]) := by rw [egh366]; exact gset_eq
  have Rk384 := Rk365.put pc0_k365 (gO 11 [vi (0), vi (0), .ref q1, vi (0), .ref q10, .ref q21, .ref q34, .ref q49, .ref q66, .ref q85, .ref q106, vi (0), .ref q129, .ref q154, .ref q181, .ref q210, .ref q241, .ref q274, .ref q309, .ref q346, vi (0), .null, vi (0), .null, .null, .null, .null, vi (0)])
  obtain ⟨ctk384, ectk384⟩ : ∃ x, x = cup ctk365 (0, 0, 0) (gO 11 [vi (0), vi (0), .ref q1, vi (0), .ref q10, .ref q21, .ref q34, .ref q49, .ref q66, .ref q85, .ref q106, vi (0), .ref q129, .ref q154, .ref q181, .ref q210, .ref q241, .ref q274, .ref q309, .ref q346, vi (0), .null, vi (0), .null, .null, .null, .null, vi (0)]) := ⟨_, rfl⟩
  rw [pa0_k365, ← ectk384, ← egh366] at Rk384
  have pa0_k384 := pa0_k365
  have pc0_k384 : ctk384 (0, 0, 0) = some (gO 11 [vi (0), vi (0), .ref q1, vi (0), .ref q10, .ref q21, .ref q34, .ref q49, .ref q66, .ref q85, .ref q106, vi (0), .ref q129, .ref q154, .ref q181, .ref q210, .ref q241, .ref q274, .ref q309, .ref q346, vi (0), .null, vi (0), .null, .null, .null, .null, vi (0)]) := by rw [ectk384, cup_eq]
  have pa1_k384 := pa1_k365
  have pc1_k384 : ctk384 (1, 2, 0) = some (gI 0 8 (fun _ => 0)) := by rw [ectk384, cup_ne (by simp)]; exact pc1_k365
  have pa2_k384 := pa2_k365
  have pc2_k384 : ctk384 (1, 4, 0) = some (gI 1 14 (fun _ => 0)) := by rw [ectk384, cup_ne (by simp)]; exact pc2_k365
  have pa3_k384 := pa3_k365
  have pc3_k384 : ctk384 (1, 5, 0) = some (gI 1 14 (fun _ => 0)) := by rw [ectk384, cup_ne (by simp)]; exact pc3_k365
  have pa4_k384 := pa4_k365
  have pc4_k384 : ctk384 (1, 6, 0) = some (gI 1 14 (fun _ => 0)) := by rw [ectk384, cup_ne (by simp)]; exact pc4_k365
  have pa5_k384 := pa5_k365
  have pc5_k384 : ctk384 (1, 7, 0) = some (gI 1 14 (fun _ => 0)) := by rw [ectk384, cup_ne (by simp)]; exact pc5_k365
  have pa6_k384 := pa6_k365
  have pc6_k384 : ctk384 (1, 8, 0) = some (gI 1 84 (fun _ => 0)) := by rw [ectk384, cup_ne (by simp)]; exact pc6_k365
  have pa7_k384 := pa7_k365
  have pc7_k384 : ctk384 (1, 9, 0) = some (gI 1 84 (fun _ => 0)) := by rw [ectk384, cup_ne (by simp)]; exact pc7_k365
  have pa8_k384 := pa8_k365
  have pc8_k384 : ctk384 (1, 10, 0) = some (gI 0 672 (fun _ => 0)) := by rw [ectk384, cup_ne (by simp)]; exact pc8_k365
  have pa9_k384 := pa9_k365
  have pc9_k384 : ctk384 (1, 12, 0) = some (gI 1 4 (fun _ => 0)) := by rw [ectk384, cup_ne (by simp)]; exact pc9_k365
  have pa10_k384 := pa10_k365
  have pc10_k384 : ctk384 (1, 13, 0) = some (gI 1 4 (fun _ => 0)) := by rw [ectk384, cup_ne (by simp)]; exact pc10_k365
  have pa11_k384 := pa11_k365
  have pc11_k384 : ctk384 (1, 14, 0) = some (gI 1 4 (fun _ => 0)) := by rw [ectk384, cup_ne (by simp)]; exact pc11_k365
  have pa12_k384 := pa12_k365
  have pc12_k384 : ctk384 (1, 15, 0) = some (gI 1 14 (fun _ => 0)) := by rw [ectk384, cup_ne (by simp)]; exact pc12_k365
  have pa13_k384 := pa13_k365
  have pc13_k384 : ctk384 (1, 16, 0) = some (gI 1 14 (fun _ => 0)) := by rw [ectk384, cup_ne (by simp)]; exact pc13_k365
  have pa14_k384 := pa14_k365
  have pc14_k384 : ctk384 (1, 17, 0) = some (gI 1 14 (fun _ => 0)) := by rw [ectk384, cup_ne (by simp)]; exact pc14_k365
  have pa15_k384 := pa15_k365
  have pc15_k384 : ctk384 (1, 18, 0) = some (gI 0 960 (fun _ => 0)) := by rw [ectk384, cup_ne (by simp)]; exact pc15_k365
  have pa16_k384 := pa16_k365
  have pc16_k384 : ctk384 (1, 19, 0) = some (gI 1 56 (fun _ => 0)) := by rw [ectk384, cup_ne (by simp)]; exact pc16_k365
  have frk384 : ∀ t : Tg, (2 ≤ t.1) → ctk384 t = ct t ∧ adk365 t = ad t := fun t ht => by
    have e0 : t ≠ (0, 0, 0) := fun e => by rw [e] at ht; simp only at ht; omega
    exact ⟨(show ctk384 t = ctk365 t by rw [ectk384, cup_ne e0]).trans (frk365 t ht).1, (frk365 t ht).2⟩
  refine g_ald_n hC dX7_init_131 rfl ?_
  refine g_iconst hC dX7_init_132 rfl ?_
  refine g_newI (n := 4) hC dX7_init_133 ga_int rfl (by decide) (by decide) (by decide) (fun q385 hnq385 => ?_)
  obtain ⟨gh386, egh386⟩ : ∃ g_, g_ = gset gh366 q385 (gI 1 4 (fun _ => 0)) := ⟨_, rfl⟩
  rw [← egh386]
  have h387 : gh386 q1 = some (gI 0 8 (fun _ => 0)) := by rw [egh386, gset_ne (fun z => by rw [z, hnq385] at h367; cases h367)]; exact h367
  have h388 : gh386 q10 = some (gI 1 14 (fun _ => 0)) := by rw [egh386, gset_ne (fun z => by rw [z, hnq385] at h368; cases h368)]; exact h368
  have h389 : gh386 q21 = some (gI 1 14 (fun _ => 0)) := by rw [egh386, gset_ne (fun z => by rw [z, hnq385] at h369; cases h369)]; exact h369
  have h390 : gh386 q34 = some (gI 1 14 (fun _ => 0)) := by rw [egh386, gset_ne (fun z => by rw [z, hnq385] at h370; cases h370)]; exact h370
  have h391 : gh386 q49 = some (gI 1 14 (fun _ => 0)) := by rw [egh386, gset_ne (fun z => by rw [z, hnq385] at h371; cases h371)]; exact h371
  have h392 : gh386 q66 = some (gI 1 84 (fun _ => 0)) := by rw [egh386, gset_ne (fun z => by rw [z, hnq385] at h372; cases h372)]; exact h372
  have h393 : gh386 q85 = some (gI 1 84 (fun _ => 0)) := by rw [egh386, gset_ne (fun z => by rw [z, hnq385] at h373; cases h373)]; exact h373
  have h394 : gh386 q106 = some (gI 0 672 (fun _ => 0)) := by rw [egh386, gset_ne (fun z => by rw [z, hnq385] at h374; cases h374)]; exact h374
  have h395 : gh386 q129 = some (gI 1 4 (fun _ => 0)) := by rw [egh386, gset_ne (fun z => by rw [z, hnq385] at h375; cases h375)]; exact h375
  have h396 : gh386 q154 = some (gI 1 4 (fun _ => 0)) := by rw [egh386, gset_ne (fun z => by rw [z, hnq385] at h376; cases h376)]; exact h376
  have h397 : gh386 q181 = some (gI 1 4 (fun _ => 0)) := by rw [egh386, gset_ne (fun z => by rw [z, hnq385] at h377; cases h377)]; exact h377
  have h398 : gh386 q210 = some (gI 1 14 (fun _ => 0)) := by rw [egh386, gset_ne (fun z => by rw [z, hnq385] at h378; cases h378)]; exact h378
  have h399 : gh386 q241 = some (gI 1 14 (fun _ => 0)) := by rw [egh386, gset_ne (fun z => by rw [z, hnq385] at h379; cases h379)]; exact h379
  have h400 : gh386 q274 = some (gI 1 14 (fun _ => 0)) := by rw [egh386, gset_ne (fun z => by rw [z, hnq385] at h380; cases h380)]; exact h380
  have h401 : gh386 q309 = some (gI 0 960 (fun _ => 0)) := by rw [egh386, gset_ne (fun z => by rw [z, hnq385] at h381; cases h381)]; exact h381
  have h402 : gh386 q346 = some (gI 1 56 (fun _ => 0)) := by rw [egh386, gset_ne (fun z => by rw [z, hnq385] at h382; cases h382)]; exact h382
  have h403 : gh386 xa = some (gO 11 [vi (0), vi (0), .ref q1, vi (0), .ref q10, .ref q21, .ref q34, .ref q49, .ref q66, .ref q85, .ref q106, vi (0), .ref q129, .ref q154, .ref q181, .ref q210, .ref q241, .ref q274, .ref q309, .ref q346, vi (0), .null, vi (0), .null, .null, .null, .null, vi (0)]) := by rw [egh386, gset_ne (fun z => by rw [z, hnq385] at h383; cases h383)]; exact h383
  have h404 : gh386 q385 = some (gI 1 4 (fun _ => 0)) := by rw [egh386]; exact gset_eq
  have Rk405 := Rk384.new (t := (1, 21, 0)) hnq385 (gI 1 4 (fun _ => 0))
  obtain ⟨adk405, eadk405⟩ : ∃ x, x = aup adk365 (1, 21, 0) q385 := ⟨_, rfl⟩
  obtain ⟨ctk405, ectk405⟩ : ∃ x, x = cup ctk384 (1, 21, 0) (gI 1 4 (fun _ => 0)) := ⟨_, rfl⟩
  rw [← eadk405, ← ectk405, ← egh386] at Rk405
  have pa0_k405 : adk405 (0, 0, 0) = xa := by rw [eadk405, aup_ne (by simp)]; exact pa0_k384
  have pc0_k405 : ctk405 (0, 0, 0) = some (gO 11 [vi (0), vi (0), .ref q1, vi (0), .ref q10, .ref q21, .ref q34, .ref q49, .ref q66, .ref q85, .ref q106, vi (0), .ref q129, .ref q154, .ref q181, .ref q210, .ref q241, .ref q274, .ref q309, .ref q346, vi (0), .null, vi (0), .null, .null, .null, .null, vi (0)]) := by rw [ectk405, cup_ne (by simp)]; exact pc0_k384
  have pa1_k405 : adk405 (1, 2, 0) = q1 := by rw [eadk405, aup_ne (by simp)]; exact pa1_k384
  have pc1_k405 : ctk405 (1, 2, 0) = some (gI 0 8 (fun _ => 0)) := by rw [ectk405, cup_ne (by simp)]; exact pc1_k384
  have pa2_k405 : adk405 (1, 4, 0) = q10 := by rw [eadk405, aup_ne (by simp)]; exact pa2_k384
  have pc2_k405 : ctk405 (1, 4, 0) = some (gI 1 14 (fun _ => 0)) := by rw [ectk405, cup_ne (by simp)]; exact pc2_k384
  have pa3_k405 : adk405 (1, 5, 0) = q21 := by rw [eadk405, aup_ne (by simp)]; exact pa3_k384
  have pc3_k405 : ctk405 (1, 5, 0) = some (gI 1 14 (fun _ => 0)) := by rw [ectk405, cup_ne (by simp)]; exact pc3_k384
  have pa4_k405 : adk405 (1, 6, 0) = q34 := by rw [eadk405, aup_ne (by simp)]; exact pa4_k384
  have pc4_k405 : ctk405 (1, 6, 0) = some (gI 1 14 (fun _ => 0)) := by rw [ectk405, cup_ne (by simp)]; exact pc4_k384
  have pa5_k405 : adk405 (1, 7, 0) = q49 := by rw [eadk405, aup_ne (by simp)]; exact pa5_k384
  have pc5_k405 : ctk405 (1, 7, 0) = some (gI 1 14 (fun _ => 0)) := by rw [ectk405, cup_ne (by simp)]; exact pc5_k384
  have pa6_k405 : adk405 (1, 8, 0) = q66 := by rw [eadk405, aup_ne (by simp)]; exact pa6_k384
  have pc6_k405 : ctk405 (1, 8, 0) = some (gI 1 84 (fun _ => 0)) := by rw [ectk405, cup_ne (by simp)]; exact pc6_k384
  have pa7_k405 : adk405 (1, 9, 0) = q85 := by rw [eadk405, aup_ne (by simp)]; exact pa7_k384
  have pc7_k405 : ctk405 (1, 9, 0) = some (gI 1 84 (fun _ => 0)) := by rw [ectk405, cup_ne (by simp)]; exact pc7_k384
  have pa8_k405 : adk405 (1, 10, 0) = q106 := by rw [eadk405, aup_ne (by simp)]; exact pa8_k384
  have pc8_k405 : ctk405 (1, 10, 0) = some (gI 0 672 (fun _ => 0)) := by rw [ectk405, cup_ne (by simp)]; exact pc8_k384
  have pa9_k405 : adk405 (1, 12, 0) = q129 := by rw [eadk405, aup_ne (by simp)]; exact pa9_k384
  have pc9_k405 : ctk405 (1, 12, 0) = some (gI 1 4 (fun _ => 0)) := by rw [ectk405, cup_ne (by simp)]; exact pc9_k384
  have pa10_k405 : adk405 (1, 13, 0) = q154 := by rw [eadk405, aup_ne (by simp)]; exact pa10_k384
  have pc10_k405 : ctk405 (1, 13, 0) = some (gI 1 4 (fun _ => 0)) := by rw [ectk405, cup_ne (by simp)]; exact pc10_k384
  have pa11_k405 : adk405 (1, 14, 0) = q181 := by rw [eadk405, aup_ne (by simp)]; exact pa11_k384
  have pc11_k405 : ctk405 (1, 14, 0) = some (gI 1 4 (fun _ => 0)) := by rw [ectk405, cup_ne (by simp)]; exact pc11_k384
  have pa12_k405 : adk405 (1, 15, 0) = q210 := by rw [eadk405, aup_ne (by simp)]; exact pa12_k384
  have pc12_k405 : ctk405 (1, 15, 0) = some (gI 1 14 (fun _ => 0)) := by rw [ectk405, cup_ne (by simp)]; exact pc12_k384
  have pa13_k405 : adk405 (1, 16, 0) = q241 := by rw [eadk405, aup_ne (by simp)]; exact pa13_k384
  have pc13_k405 : ctk405 (1, 16, 0) = some (gI 1 14 (fun _ => 0)) := by rw [ectk405, cup_ne (by simp)]; exact pc13_k384
  have pa14_k405 : adk405 (1, 17, 0) = q274 := by rw [eadk405, aup_ne (by simp)]; exact pa14_k384
  have pc14_k405 : ctk405 (1, 17, 0) = some (gI 1 14 (fun _ => 0)) := by rw [ectk405, cup_ne (by simp)]; exact pc14_k384
  have pa15_k405 : adk405 (1, 18, 0) = q309 := by rw [eadk405, aup_ne (by simp)]; exact pa15_k384
  have pc15_k405 : ctk405 (1, 18, 0) = some (gI 0 960 (fun _ => 0)) := by rw [ectk405, cup_ne (by simp)]; exact pc15_k384
  have pa16_k405 : adk405 (1, 19, 0) = q346 := by rw [eadk405, aup_ne (by simp)]; exact pa16_k384
  have pc16_k405 : ctk405 (1, 19, 0) = some (gI 1 56 (fun _ => 0)) := by rw [ectk405, cup_ne (by simp)]; exact pc16_k384
  have pa17_k405 : adk405 (1, 21, 0) = q385 := by rw [eadk405, aup_eq]
  have pc17_k405 : ctk405 (1, 21, 0) = some (gI 1 4 (fun _ => 0)) := by rw [ectk405, cup_eq]
  have frk405 : ∀ t : Tg, (2 ≤ t.1) → ctk405 t = ct t ∧ adk405 t = ad t := fun t ht => by
    have e0 : t ≠ (1, 21, 0) := fun e => by rw [e] at ht; simp only at ht; omega
    exact ⟨(show ctk405 t = ctk384 t by rw [ectk405, cup_ne e0]).trans (frk384 t ht).1, (show adk405 t = adk365 t by rw [eadk405, aup_ne e0]).trans (frk384 t ht).2⟩
  refine g_putF hC hq (fs' := [vi (0), vi (0), .ref q1, vi (0), .ref q10, .ref q21, .ref q34, .ref q49, .ref q66, .ref q85, .ref q106, vi (0), .ref q129, .ref q154, .ref q181, .ref q210, .ref q241, .ref q274, .ref q309, .ref q346, vi (0), .ref q385, vi (0), .null, .null, .null, .null, vi (0)]) dX7_init_135 gp_RX7_59 h403 ⟨rfl, rfl⟩ rfl (Nat.le_of_ble_eq_true rfl) ?_
  obtain ⟨gh406, egh406⟩ : ∃ g_, g_ = gset gh386 xa (gO 11 [vi (0), vi (0), .ref q1, vi (0), .ref q10, .ref q21, .ref q34, .ref q49, .ref q66, .ref q85, .ref q106, vi (0), .ref q129, .ref q154, .ref q181, .ref q210, .ref q241, .ref q274, .ref q309, .ref q346, vi (0), .ref q385, vi (0), .null, .null, .null, .null, vi (0)]) := ⟨_, rfl⟩
  rw [← egh406]
  have h407 : gh406 q1 = some (gI 0 8 (fun _ => 0)) := by rw [egh406, gset_ne (gne h387 h403 (by simp))]; exact h387
  have h408 : gh406 q10 = some (gI 1 14 (fun _ => 0)) := by rw [egh406, gset_ne (gne h388 h403 (by simp))]; exact h388
  have h409 : gh406 q21 = some (gI 1 14 (fun _ => 0)) := by rw [egh406, gset_ne (gne h389 h403 (by simp))]; exact h389
  have h410 : gh406 q34 = some (gI 1 14 (fun _ => 0)) := by rw [egh406, gset_ne (gne h390 h403 (by simp))]; exact h390
  have h411 : gh406 q49 = some (gI 1 14 (fun _ => 0)) := by rw [egh406, gset_ne (gne h391 h403 (by simp))]; exact h391
  have h412 : gh406 q66 = some (gI 1 84 (fun _ => 0)) := by rw [egh406, gset_ne (gne h392 h403 (by simp))]; exact h392
  have h413 : gh406 q85 = some (gI 1 84 (fun _ => 0)) := by rw [egh406, gset_ne (gne h393 h403 (by simp))]; exact h393
  have h414 : gh406 q106 = some (gI 0 672 (fun _ => 0)) := by rw [egh406, gset_ne (gne h394 h403 (by simp))]; exact h394
  have h415 : gh406 q129 = some (gI 1 4 (fun _ => 0)) := by rw [egh406, gset_ne (gne h395 h403 (by simp))]; exact h395
  have h416 : gh406 q154 = some (gI 1 4 (fun _ => 0)) := by rw [egh406, gset_ne (gne h396 h403 (by simp))]; exact h396
  have h417 : gh406 q181 = some (gI 1 4 (fun _ => 0)) := by rw [egh406, gset_ne (gne h397 h403 (by simp))]; exact h397
  have h418 : gh406 q210 = some (gI 1 14 (fun _ => 0)) := by rw [egh406, gset_ne (gne h398 h403 (by simp))]; exact h398
  have h419 : gh406 q241 = some (gI 1 14 (fun _ => 0)) := by rw [egh406, gset_ne (gne h399 h403 (by simp))]; exact h399
  have h420 : gh406 q274 = some (gI 1 14 (fun _ => 0)) := by rw [egh406, gset_ne (gne h400 h403 (by simp))]; exact h400
  have h421 : gh406 q309 = some (gI 0 960 (fun _ => 0)) := by rw [egh406, gset_ne (gne h401 h403 (by simp))]; exact h401
  have h422 : gh406 q346 = some (gI 1 56 (fun _ => 0)) := by rw [egh406, gset_ne (gne h402 h403 (by simp))]; exact h402
  have h423 : gh406 q385 = some (gI 1 4 (fun _ => 0)) := by rw [egh406, gset_ne (gne h404 h403 (by simp))]; exact h404
  have h424 : gh406 xa = some (gO 11 [vi (0), vi (0), .ref q1, vi (0), .ref q10, .ref q21, .ref q34, .ref q49, .ref q66, .ref q85, .ref q106, vi (0), .ref q129, .ref q154, .ref q181, .ref q210, .ref q241, .ref q274, .ref q309, .ref q346, vi (0), .ref q385, vi (0), .null, .null, .null, .null, vi (0)]) := by rw [egh406]; exact gset_eq
  have Rk425 := Rk405.put pc0_k405 (gO 11 [vi (0), vi (0), .ref q1, vi (0), .ref q10, .ref q21, .ref q34, .ref q49, .ref q66, .ref q85, .ref q106, vi (0), .ref q129, .ref q154, .ref q181, .ref q210, .ref q241, .ref q274, .ref q309, .ref q346, vi (0), .ref q385, vi (0), .null, .null, .null, .null, vi (0)])
  obtain ⟨ctk425, ectk425⟩ : ∃ x, x = cup ctk405 (0, 0, 0) (gO 11 [vi (0), vi (0), .ref q1, vi (0), .ref q10, .ref q21, .ref q34, .ref q49, .ref q66, .ref q85, .ref q106, vi (0), .ref q129, .ref q154, .ref q181, .ref q210, .ref q241, .ref q274, .ref q309, .ref q346, vi (0), .ref q385, vi (0), .null, .null, .null, .null, vi (0)]) := ⟨_, rfl⟩
  rw [pa0_k405, ← ectk425, ← egh406] at Rk425
  have pa0_k425 := pa0_k405
  have pc0_k425 : ctk425 (0, 0, 0) = some (gO 11 [vi (0), vi (0), .ref q1, vi (0), .ref q10, .ref q21, .ref q34, .ref q49, .ref q66, .ref q85, .ref q106, vi (0), .ref q129, .ref q154, .ref q181, .ref q210, .ref q241, .ref q274, .ref q309, .ref q346, vi (0), .ref q385, vi (0), .null, .null, .null, .null, vi (0)]) := by rw [ectk425, cup_eq]
  have pa1_k425 := pa1_k405
  have pc1_k425 : ctk425 (1, 2, 0) = some (gI 0 8 (fun _ => 0)) := by rw [ectk425, cup_ne (by simp)]; exact pc1_k405
  have pa2_k425 := pa2_k405
  have pc2_k425 : ctk425 (1, 4, 0) = some (gI 1 14 (fun _ => 0)) := by rw [ectk425, cup_ne (by simp)]; exact pc2_k405
  have pa3_k425 := pa3_k405
  have pc3_k425 : ctk425 (1, 5, 0) = some (gI 1 14 (fun _ => 0)) := by rw [ectk425, cup_ne (by simp)]; exact pc3_k405
  have pa4_k425 := pa4_k405
  have pc4_k425 : ctk425 (1, 6, 0) = some (gI 1 14 (fun _ => 0)) := by rw [ectk425, cup_ne (by simp)]; exact pc4_k405
  have pa5_k425 := pa5_k405
  have pc5_k425 : ctk425 (1, 7, 0) = some (gI 1 14 (fun _ => 0)) := by rw [ectk425, cup_ne (by simp)]; exact pc5_k405
  have pa6_k425 := pa6_k405
  have pc6_k425 : ctk425 (1, 8, 0) = some (gI 1 84 (fun _ => 0)) := by rw [ectk425, cup_ne (by simp)]; exact pc6_k405
  have pa7_k425 := pa7_k405
  have pc7_k425 : ctk425 (1, 9, 0) = some (gI 1 84 (fun _ => 0)) := by rw [ectk425, cup_ne (by simp)]; exact pc7_k405
  have pa8_k425 := pa8_k405
  have pc8_k425 : ctk425 (1, 10, 0) = some (gI 0 672 (fun _ => 0)) := by rw [ectk425, cup_ne (by simp)]; exact pc8_k405
  have pa9_k425 := pa9_k405
  have pc9_k425 : ctk425 (1, 12, 0) = some (gI 1 4 (fun _ => 0)) := by rw [ectk425, cup_ne (by simp)]; exact pc9_k405
  have pa10_k425 := pa10_k405
  have pc10_k425 : ctk425 (1, 13, 0) = some (gI 1 4 (fun _ => 0)) := by rw [ectk425, cup_ne (by simp)]; exact pc10_k405
  have pa11_k425 := pa11_k405
  have pc11_k425 : ctk425 (1, 14, 0) = some (gI 1 4 (fun _ => 0)) := by rw [ectk425, cup_ne (by simp)]; exact pc11_k405
  have pa12_k425 := pa12_k405
  have pc12_k425 : ctk425 (1, 15, 0) = some (gI 1 14 (fun _ => 0)) := by rw [ectk425, cup_ne (by simp)]; exact pc12_k405
  have pa13_k425 := pa13_k405
  have pc13_k425 : ctk425 (1, 16, 0) = some (gI 1 14 (fun _ => 0)) := by rw [ectk425, cup_ne (by simp)]; exact pc13_k405
  have pa14_k425 := pa14_k405
  have pc14_k425 : ctk425 (1, 17, 0) = some (gI 1 14 (fun _ => 0)) := by rw [ectk425, cup_ne (by simp)]; exact pc14_k405
  have pa15_k425 := pa15_k405
  have pc15_k425 : ctk425 (1, 18, 0) = some (gI 0 960 (fun _ => 0)) := by rw [ectk425, cup_ne (by simp)]; exact pc15_k405
  have pa16_k425 := pa16_k405
  have pc16_k425 : ctk425 (1, 19, 0) = some (gI 1 56 (fun _ => 0)) := by rw [ectk425, cup_ne (by simp)]; exact pc16_k405
  have pa17_k425 := pa17_k405
  have pc17_k425 : ctk425 (1, 21, 0) = some (gI 1 4 (fun _ => 0)) := by rw [ectk425, cup_ne (by simp)]; exact pc17_k405
  have frk425 : ∀ t : Tg, (2 ≤ t.1) → ctk425 t = ct t ∧ adk405 t = ad t := fun t ht => by
    have e0 : t ≠ (0, 0, 0) := fun e => by rw [e] at ht; simp only at ht; omega
    exact ⟨(show ctk425 t = ctk405 t by rw [ectk425, cup_ne e0]).trans (frk405 t ht).1, (frk405 t ht).2⟩
  refine g_ald_n hC dX7_init_138 rfl ?_
  refine g_iconst hC dX7_init_139 rfl ?_
  refine g_newI (n := 5) hC dX7_init_140 ga_int rfl (by decide) (by decide) (by decide) (fun q426 hnq426 => ?_)
  obtain ⟨gh427, egh427⟩ : ∃ g_, g_ = gset gh406 q426 (gI 1 5 (fun _ => 0)) := ⟨_, rfl⟩
  rw [← egh427]
  have h428 : gh427 q1 = some (gI 0 8 (fun _ => 0)) := by rw [egh427, gset_ne (fun z => by rw [z, hnq426] at h407; cases h407)]; exact h407
  have h429 : gh427 q10 = some (gI 1 14 (fun _ => 0)) := by rw [egh427, gset_ne (fun z => by rw [z, hnq426] at h408; cases h408)]; exact h408
  have h430 : gh427 q21 = some (gI 1 14 (fun _ => 0)) := by rw [egh427, gset_ne (fun z => by rw [z, hnq426] at h409; cases h409)]; exact h409
  have h431 : gh427 q34 = some (gI 1 14 (fun _ => 0)) := by rw [egh427, gset_ne (fun z => by rw [z, hnq426] at h410; cases h410)]; exact h410
  have h432 : gh427 q49 = some (gI 1 14 (fun _ => 0)) := by rw [egh427, gset_ne (fun z => by rw [z, hnq426] at h411; cases h411)]; exact h411
  have h433 : gh427 q66 = some (gI 1 84 (fun _ => 0)) := by rw [egh427, gset_ne (fun z => by rw [z, hnq426] at h412; cases h412)]; exact h412
  have h434 : gh427 q85 = some (gI 1 84 (fun _ => 0)) := by rw [egh427, gset_ne (fun z => by rw [z, hnq426] at h413; cases h413)]; exact h413
  have h435 : gh427 q106 = some (gI 0 672 (fun _ => 0)) := by rw [egh427, gset_ne (fun z => by rw [z, hnq426] at h414; cases h414)]; exact h414
  have h436 : gh427 q129 = some (gI 1 4 (fun _ => 0)) := by rw [egh427, gset_ne (fun z => by rw [z, hnq426] at h415; cases h415)]; exact h415
  have h437 : gh427 q154 = some (gI 1 4 (fun _ => 0)) := by rw [egh427, gset_ne (fun z => by rw [z, hnq426] at h416; cases h416)]; exact h416
  have h438 : gh427 q181 = some (gI 1 4 (fun _ => 0)) := by rw [egh427, gset_ne (fun z => by rw [z, hnq426] at h417; cases h417)]; exact h417
  have h439 : gh427 q210 = some (gI 1 14 (fun _ => 0)) := by rw [egh427, gset_ne (fun z => by rw [z, hnq426] at h418; cases h418)]; exact h418
  have h440 : gh427 q241 = some (gI 1 14 (fun _ => 0)) := by rw [egh427, gset_ne (fun z => by rw [z, hnq426] at h419; cases h419)]; exact h419
  have h441 : gh427 q274 = some (gI 1 14 (fun _ => 0)) := by rw [egh427, gset_ne (fun z => by rw [z, hnq426] at h420; cases h420)]; exact h420
  have h442 : gh427 q309 = some (gI 0 960 (fun _ => 0)) := by rw [egh427, gset_ne (fun z => by rw [z, hnq426] at h421; cases h421)]; exact h421
  have h443 : gh427 q346 = some (gI 1 56 (fun _ => 0)) := by rw [egh427, gset_ne (fun z => by rw [z, hnq426] at h422; cases h422)]; exact h422
  have h444 : gh427 q385 = some (gI 1 4 (fun _ => 0)) := by rw [egh427, gset_ne (fun z => by rw [z, hnq426] at h423; cases h423)]; exact h423
  have h445 : gh427 xa = some (gO 11 [vi (0), vi (0), .ref q1, vi (0), .ref q10, .ref q21, .ref q34, .ref q49, .ref q66, .ref q85, .ref q106, vi (0), .ref q129, .ref q154, .ref q181, .ref q210, .ref q241, .ref q274, .ref q309, .ref q346, vi (0), .ref q385, vi (0), .null, .null, .null, .null, vi (0)]) := by rw [egh427, gset_ne (fun z => by rw [z, hnq426] at h424; cases h424)]; exact h424
  have h446 : gh427 q426 = some (gI 1 5 (fun _ => 0)) := by rw [egh427]; exact gset_eq
  have Rk447 := Rk425.new (t := (1, 23, 0)) hnq426 (gI 1 5 (fun _ => 0))
  obtain ⟨adk447, eadk447⟩ : ∃ x, x = aup adk405 (1, 23, 0) q426 := ⟨_, rfl⟩
  obtain ⟨ctk447, ectk447⟩ : ∃ x, x = cup ctk425 (1, 23, 0) (gI 1 5 (fun _ => 0)) := ⟨_, rfl⟩
  rw [← eadk447, ← ectk447, ← egh427] at Rk447
  have pa0_k447 : adk447 (0, 0, 0) = xa := by rw [eadk447, aup_ne (by simp)]; exact pa0_k425
  have pc0_k447 : ctk447 (0, 0, 0) = some (gO 11 [vi (0), vi (0), .ref q1, vi (0), .ref q10, .ref q21, .ref q34, .ref q49, .ref q66, .ref q85, .ref q106, vi (0), .ref q129, .ref q154, .ref q181, .ref q210, .ref q241, .ref q274, .ref q309, .ref q346, vi (0), .ref q385, vi (0), .null, .null, .null, .null, vi (0)]) := by rw [ectk447, cup_ne (by simp)]; exact pc0_k425
  have pa1_k447 : adk447 (1, 2, 0) = q1 := by rw [eadk447, aup_ne (by simp)]; exact pa1_k425
  have pc1_k447 : ctk447 (1, 2, 0) = some (gI 0 8 (fun _ => 0)) := by rw [ectk447, cup_ne (by simp)]; exact pc1_k425
  have pa2_k447 : adk447 (1, 4, 0) = q10 := by rw [eadk447, aup_ne (by simp)]; exact pa2_k425
  have pc2_k447 : ctk447 (1, 4, 0) = some (gI 1 14 (fun _ => 0)) := by rw [ectk447, cup_ne (by simp)]; exact pc2_k425
  have pa3_k447 : adk447 (1, 5, 0) = q21 := by rw [eadk447, aup_ne (by simp)]; exact pa3_k425
  have pc3_k447 : ctk447 (1, 5, 0) = some (gI 1 14 (fun _ => 0)) := by rw [ectk447, cup_ne (by simp)]; exact pc3_k425
  have pa4_k447 : adk447 (1, 6, 0) = q34 := by rw [eadk447, aup_ne (by simp)]; exact pa4_k425
  have pc4_k447 : ctk447 (1, 6, 0) = some (gI 1 14 (fun _ => 0)) := by rw [ectk447, cup_ne (by simp)]; exact pc4_k425
  have pa5_k447 : adk447 (1, 7, 0) = q49 := by rw [eadk447, aup_ne (by simp)]; exact pa5_k425
  have pc5_k447 : ctk447 (1, 7, 0) = some (gI 1 14 (fun _ => 0)) := by rw [ectk447, cup_ne (by simp)]; exact pc5_k425
  have pa6_k447 : adk447 (1, 8, 0) = q66 := by rw [eadk447, aup_ne (by simp)]; exact pa6_k425
  have pc6_k447 : ctk447 (1, 8, 0) = some (gI 1 84 (fun _ => 0)) := by rw [ectk447, cup_ne (by simp)]; exact pc6_k425
  have pa7_k447 : adk447 (1, 9, 0) = q85 := by rw [eadk447, aup_ne (by simp)]; exact pa7_k425
  have pc7_k447 : ctk447 (1, 9, 0) = some (gI 1 84 (fun _ => 0)) := by rw [ectk447, cup_ne (by simp)]; exact pc7_k425
  have pa8_k447 : adk447 (1, 10, 0) = q106 := by rw [eadk447, aup_ne (by simp)]; exact pa8_k425
  have pc8_k447 : ctk447 (1, 10, 0) = some (gI 0 672 (fun _ => 0)) := by rw [ectk447, cup_ne (by simp)]; exact pc8_k425
  have pa9_k447 : adk447 (1, 12, 0) = q129 := by rw [eadk447, aup_ne (by simp)]; exact pa9_k425
  have pc9_k447 : ctk447 (1, 12, 0) = some (gI 1 4 (fun _ => 0)) := by rw [ectk447, cup_ne (by simp)]; exact pc9_k425
  have pa10_k447 : adk447 (1, 13, 0) = q154 := by rw [eadk447, aup_ne (by simp)]; exact pa10_k425
  have pc10_k447 : ctk447 (1, 13, 0) = some (gI 1 4 (fun _ => 0)) := by rw [ectk447, cup_ne (by simp)]; exact pc10_k425
  have pa11_k447 : adk447 (1, 14, 0) = q181 := by rw [eadk447, aup_ne (by simp)]; exact pa11_k425
  have pc11_k447 : ctk447 (1, 14, 0) = some (gI 1 4 (fun _ => 0)) := by rw [ectk447, cup_ne (by simp)]; exact pc11_k425
  have pa12_k447 : adk447 (1, 15, 0) = q210 := by rw [eadk447, aup_ne (by simp)]; exact pa12_k425
  have pc12_k447 : ctk447 (1, 15, 0) = some (gI 1 14 (fun _ => 0)) := by rw [ectk447, cup_ne (by simp)]; exact pc12_k425
  have pa13_k447 : adk447 (1, 16, 0) = q241 := by rw [eadk447, aup_ne (by simp)]; exact pa13_k425
  have pc13_k447 : ctk447 (1, 16, 0) = some (gI 1 14 (fun _ => 0)) := by rw [ectk447, cup_ne (by simp)]; exact pc13_k425
  have pa14_k447 : adk447 (1, 17, 0) = q274 := by rw [eadk447, aup_ne (by simp)]; exact pa14_k425
  have pc14_k447 : ctk447 (1, 17, 0) = some (gI 1 14 (fun _ => 0)) := by rw [ectk447, cup_ne (by simp)]; exact pc14_k425
  have pa15_k447 : adk447 (1, 18, 0) = q309 := by rw [eadk447, aup_ne (by simp)]; exact pa15_k425
  have pc15_k447 : ctk447 (1, 18, 0) = some (gI 0 960 (fun _ => 0)) := by rw [ectk447, cup_ne (by simp)]; exact pc15_k425
  have pa16_k447 : adk447 (1, 19, 0) = q346 := by rw [eadk447, aup_ne (by simp)]; exact pa16_k425
  have pc16_k447 : ctk447 (1, 19, 0) = some (gI 1 56 (fun _ => 0)) := by rw [ectk447, cup_ne (by simp)]; exact pc16_k425
  have pa17_k447 : adk447 (1, 21, 0) = q385 := by rw [eadk447, aup_ne (by simp)]; exact pa17_k425
  have pc17_k447 : ctk447 (1, 21, 0) = some (gI 1 4 (fun _ => 0)) := by rw [ectk447, cup_ne (by simp)]; exact pc17_k425
  have pa18_k447 : adk447 (1, 23, 0) = q426 := by rw [eadk447, aup_eq]
  have pc18_k447 : ctk447 (1, 23, 0) = some (gI 1 5 (fun _ => 0)) := by rw [ectk447, cup_eq]
  have frk447 : ∀ t : Tg, (2 ≤ t.1) → ctk447 t = ct t ∧ adk447 t = ad t := fun t ht => by
    have e0 : t ≠ (1, 23, 0) := fun e => by rw [e] at ht; simp only at ht; omega
    exact ⟨(show ctk447 t = ctk425 t by rw [ectk447, cup_ne e0]).trans (frk425 t ht).1, (show adk447 t = adk405 t by rw [eadk447, aup_ne e0]).trans (frk425 t ht).2⟩
  refine g_putF hC hq (fs' := [vi (0), vi (0), .ref q1, vi (0), .ref q10, .ref q21, .ref q34, .ref q49, .ref q66, .ref q85, .ref q106, vi (0), .ref q129, .ref q154, .ref q181, .ref q210, .ref q241, .ref q274, .ref q309, .ref q346, vi (0), .ref q385, vi (0), .ref q426, .null, .null, .null, vi (0)]) dX7_init_142 gp_RX7_62 h445 ⟨rfl, rfl⟩ rfl (Nat.le_of_ble_eq_true rfl) ?_
  obtain ⟨gh448, egh448⟩ : ∃ g_, g_ = gset gh427 xa (gO 11 [vi (0), vi (0), .ref q1, vi (0), .ref q10, .ref q21, .ref q34, .ref q49, .ref q66, .ref q85, .ref q106, vi (0), .ref q129, .ref q154, .ref q181, .ref q210, .ref q241, .ref q274, .ref q309, .ref q346, vi (0), .ref q385, vi (0), .ref q426, .null, .null, .null, vi (0)]) := ⟨_, rfl⟩
  rw [← egh448]
  have h449 : gh448 q1 = some (gI 0 8 (fun _ => 0)) := by rw [egh448, gset_ne (gne h428 h445 (by simp))]; exact h428
  have h450 : gh448 q10 = some (gI 1 14 (fun _ => 0)) := by rw [egh448, gset_ne (gne h429 h445 (by simp))]; exact h429
  have h451 : gh448 q21 = some (gI 1 14 (fun _ => 0)) := by rw [egh448, gset_ne (gne h430 h445 (by simp))]; exact h430
  have h452 : gh448 q34 = some (gI 1 14 (fun _ => 0)) := by rw [egh448, gset_ne (gne h431 h445 (by simp))]; exact h431
  have h453 : gh448 q49 = some (gI 1 14 (fun _ => 0)) := by rw [egh448, gset_ne (gne h432 h445 (by simp))]; exact h432
  have h454 : gh448 q66 = some (gI 1 84 (fun _ => 0)) := by rw [egh448, gset_ne (gne h433 h445 (by simp))]; exact h433
  have h455 : gh448 q85 = some (gI 1 84 (fun _ => 0)) := by rw [egh448, gset_ne (gne h434 h445 (by simp))]; exact h434
  have h456 : gh448 q106 = some (gI 0 672 (fun _ => 0)) := by rw [egh448, gset_ne (gne h435 h445 (by simp))]; exact h435
  have h457 : gh448 q129 = some (gI 1 4 (fun _ => 0)) := by rw [egh448, gset_ne (gne h436 h445 (by simp))]; exact h436
  have h458 : gh448 q154 = some (gI 1 4 (fun _ => 0)) := by rw [egh448, gset_ne (gne h437 h445 (by simp))]; exact h437
  have h459 : gh448 q181 = some (gI 1 4 (fun _ => 0)) := by rw [egh448, gset_ne (gne h438 h445 (by simp))]; exact h438
  have h460 : gh448 q210 = some (gI 1 14 (fun _ => 0)) := by rw [egh448, gset_ne (gne h439 h445 (by simp))]; exact h439
  have h461 : gh448 q241 = some (gI 1 14 (fun _ => 0)) := by rw [egh448, gset_ne (gne h440 h445 (by simp))]; exact h440
  have h462 : gh448 q274 = some (gI 1 14 (fun _ => 0)) := by rw [egh448, gset_ne (gne h441 h445 (by simp))]; exact h441
  have h463 : gh448 q309 = some (gI 0 960 (fun _ => 0)) := by rw [egh448, gset_ne (gne h442 h445 (by simp))]; exact h442
  have h464 : gh448 q346 = some (gI 1 56 (fun _ => 0)) := by rw [egh448, gset_ne (gne h443 h445 (by simp))]; exact h443
  have h465 : gh448 q385 = some (gI 1 4 (fun _ => 0)) := by rw [egh448, gset_ne (gne h444 h445 (by simp))]; exact h444
  have h466 : gh448 q426 = some (gI 1 5 (fun _ => 0)) := by rw [egh448, gset_ne (gne h446 h445 (by simp))]; exact h446
  have h467 : gh448 xa = some (gO 11 [vi (0), vi (0), .ref q1, vi (0), .ref q10, .ref q21, .ref q34, .ref q49, .ref q66, .ref q85, .ref q106, vi (0), .ref q129, .ref q154, .ref q181, .ref q210, .ref q241, .ref q274, .ref q309, .ref q346, vi (0), .ref q385, vi (0), .ref q426, .null, .null, .null, vi (0)]) := by rw [egh448]; exact gset_eq
  have Rk468 := Rk447.put pc0_k447 (gO 11 [vi (0), vi (0), .ref q1, vi (0), .ref q10, .ref q21, .ref q34, .ref q49, .ref q66, .ref q85, .ref q106, vi (0), .ref q129, .ref q154, .ref q181, .ref q210, .ref q241, .ref q274, .ref q309, .ref q346, vi (0), .ref q385, vi (0), .ref q426, .null, .null, .null, vi (0)])
  obtain ⟨ctk468, ectk468⟩ : ∃ x, x = cup ctk447 (0, 0, 0) (gO 11 [vi (0), vi (0), .ref q1, vi (0), .ref q10, .ref q21, .ref q34, .ref q49, .ref q66, .ref q85, .ref q106, vi (0), .ref q129, .ref q154, .ref q181, .ref q210, .ref q241, .ref q274, .ref q309, .ref q346, vi (0), .ref q385, vi (0), .ref q426, .null, .null, .null, vi (0)]) := ⟨_, rfl⟩
  rw [pa0_k447, ← ectk468, ← egh448] at Rk468
  have pa0_k468 := pa0_k447
  have pc0_k468 : ctk468 (0, 0, 0) = some (gO 11 [vi (0), vi (0), .ref q1, vi (0), .ref q10, .ref q21, .ref q34, .ref q49, .ref q66, .ref q85, .ref q106, vi (0), .ref q129, .ref q154, .ref q181, .ref q210, .ref q241, .ref q274, .ref q309, .ref q346, vi (0), .ref q385, vi (0), .ref q426, .null, .null, .null, vi (0)]) := by rw [ectk468, cup_eq]
  have pa1_k468 := pa1_k447
  have pc1_k468 : ctk468 (1, 2, 0) = some (gI 0 8 (fun _ => 0)) := by rw [ectk468, cup_ne (by simp)]; exact pc1_k447
  have pa2_k468 := pa2_k447
  have pc2_k468 : ctk468 (1, 4, 0) = some (gI 1 14 (fun _ => 0)) := by rw [ectk468, cup_ne (by simp)]; exact pc2_k447
  have pa3_k468 := pa3_k447
  have pc3_k468 : ctk468 (1, 5, 0) = some (gI 1 14 (fun _ => 0)) := by rw [ectk468, cup_ne (by simp)]; exact pc3_k447
  have pa4_k468 := pa4_k447
  have pc4_k468 : ctk468 (1, 6, 0) = some (gI 1 14 (fun _ => 0)) := by rw [ectk468, cup_ne (by simp)]; exact pc4_k447
  have pa5_k468 := pa5_k447
  have pc5_k468 : ctk468 (1, 7, 0) = some (gI 1 14 (fun _ => 0)) := by rw [ectk468, cup_ne (by simp)]; exact pc5_k447
  have pa6_k468 := pa6_k447
  have pc6_k468 : ctk468 (1, 8, 0) = some (gI 1 84 (fun _ => 0)) := by rw [ectk468, cup_ne (by simp)]; exact pc6_k447
  have pa7_k468 := pa7_k447
  have pc7_k468 : ctk468 (1, 9, 0) = some (gI 1 84 (fun _ => 0)) := by rw [ectk468, cup_ne (by simp)]; exact pc7_k447
  have pa8_k468 := pa8_k447
  have pc8_k468 : ctk468 (1, 10, 0) = some (gI 0 672 (fun _ => 0)) := by rw [ectk468, cup_ne (by simp)]; exact pc8_k447
  have pa9_k468 := pa9_k447
  have pc9_k468 : ctk468 (1, 12, 0) = some (gI 1 4 (fun _ => 0)) := by rw [ectk468, cup_ne (by simp)]; exact pc9_k447
  have pa10_k468 := pa10_k447
  have pc10_k468 : ctk468 (1, 13, 0) = some (gI 1 4 (fun _ => 0)) := by rw [ectk468, cup_ne (by simp)]; exact pc10_k447
  have pa11_k468 := pa11_k447
  have pc11_k468 : ctk468 (1, 14, 0) = some (gI 1 4 (fun _ => 0)) := by rw [ectk468, cup_ne (by simp)]; exact pc11_k447
  have pa12_k468 := pa12_k447
  have pc12_k468 : ctk468 (1, 15, 0) = some (gI 1 14 (fun _ => 0)) := by rw [ectk468, cup_ne (by simp)]; exact pc12_k447
  have pa13_k468 := pa13_k447
  have pc13_k468 : ctk468 (1, 16, 0) = some (gI 1 14 (fun _ => 0)) := by rw [ectk468, cup_ne (by simp)]; exact pc13_k447
  have pa14_k468 := pa14_k447
  have pc14_k468 : ctk468 (1, 17, 0) = some (gI 1 14 (fun _ => 0)) := by rw [ectk468, cup_ne (by simp)]; exact pc14_k447
  have pa15_k468 := pa15_k447
  have pc15_k468 : ctk468 (1, 18, 0) = some (gI 0 960 (fun _ => 0)) := by rw [ectk468, cup_ne (by simp)]; exact pc15_k447
  have pa16_k468 := pa16_k447
  have pc16_k468 : ctk468 (1, 19, 0) = some (gI 1 56 (fun _ => 0)) := by rw [ectk468, cup_ne (by simp)]; exact pc16_k447
  have pa17_k468 := pa17_k447
  have pc17_k468 : ctk468 (1, 21, 0) = some (gI 1 4 (fun _ => 0)) := by rw [ectk468, cup_ne (by simp)]; exact pc17_k447
  have pa18_k468 := pa18_k447
  have pc18_k468 : ctk468 (1, 23, 0) = some (gI 1 5 (fun _ => 0)) := by rw [ectk468, cup_ne (by simp)]; exact pc18_k447
  have frk468 : ∀ t : Tg, (2 ≤ t.1) → ctk468 t = ct t ∧ adk447 t = ad t := fun t ht => by
    have e0 : t ≠ (0, 0, 0) := fun e => by rw [e] at ht; simp only at ht; omega
    exact ⟨(show ctk468 t = ctk447 t by rw [ectk468, cup_ne e0]).trans (frk447 t ht).1, (frk447 t ht).2⟩
  refine g_ald_n hC dX7_init_145 rfl ?_
  refine g_iconst hC dX7_init_146 rfl ?_
  refine g_newI (n := 5) hC dX7_init_147 ga_int rfl (by decide) (by decide) (by decide) (fun q469 hnq469 => ?_)
  obtain ⟨gh470, egh470⟩ : ∃ g_, g_ = gset gh448 q469 (gI 1 5 (fun _ => 0)) := ⟨_, rfl⟩
  rw [← egh470]
  have h471 : gh470 q1 = some (gI 0 8 (fun _ => 0)) := by rw [egh470, gset_ne (fun z => by rw [z, hnq469] at h449; cases h449)]; exact h449
  have h472 : gh470 q10 = some (gI 1 14 (fun _ => 0)) := by rw [egh470, gset_ne (fun z => by rw [z, hnq469] at h450; cases h450)]; exact h450
  have h473 : gh470 q21 = some (gI 1 14 (fun _ => 0)) := by rw [egh470, gset_ne (fun z => by rw [z, hnq469] at h451; cases h451)]; exact h451
  have h474 : gh470 q34 = some (gI 1 14 (fun _ => 0)) := by rw [egh470, gset_ne (fun z => by rw [z, hnq469] at h452; cases h452)]; exact h452
  have h475 : gh470 q49 = some (gI 1 14 (fun _ => 0)) := by rw [egh470, gset_ne (fun z => by rw [z, hnq469] at h453; cases h453)]; exact h453
  have h476 : gh470 q66 = some (gI 1 84 (fun _ => 0)) := by rw [egh470, gset_ne (fun z => by rw [z, hnq469] at h454; cases h454)]; exact h454
  have h477 : gh470 q85 = some (gI 1 84 (fun _ => 0)) := by rw [egh470, gset_ne (fun z => by rw [z, hnq469] at h455; cases h455)]; exact h455
  have h478 : gh470 q106 = some (gI 0 672 (fun _ => 0)) := by rw [egh470, gset_ne (fun z => by rw [z, hnq469] at h456; cases h456)]; exact h456
  have h479 : gh470 q129 = some (gI 1 4 (fun _ => 0)) := by rw [egh470, gset_ne (fun z => by rw [z, hnq469] at h457; cases h457)]; exact h457
  have h480 : gh470 q154 = some (gI 1 4 (fun _ => 0)) := by rw [egh470, gset_ne (fun z => by rw [z, hnq469] at h458; cases h458)]; exact h458
  have h481 : gh470 q181 = some (gI 1 4 (fun _ => 0)) := by rw [egh470, gset_ne (fun z => by rw [z, hnq469] at h459; cases h459)]; exact h459
  have h482 : gh470 q210 = some (gI 1 14 (fun _ => 0)) := by rw [egh470, gset_ne (fun z => by rw [z, hnq469] at h460; cases h460)]; exact h460
  have h483 : gh470 q241 = some (gI 1 14 (fun _ => 0)) := by rw [egh470, gset_ne (fun z => by rw [z, hnq469] at h461; cases h461)]; exact h461
  have h484 : gh470 q274 = some (gI 1 14 (fun _ => 0)) := by rw [egh470, gset_ne (fun z => by rw [z, hnq469] at h462; cases h462)]; exact h462
  have h485 : gh470 q309 = some (gI 0 960 (fun _ => 0)) := by rw [egh470, gset_ne (fun z => by rw [z, hnq469] at h463; cases h463)]; exact h463
  have h486 : gh470 q346 = some (gI 1 56 (fun _ => 0)) := by rw [egh470, gset_ne (fun z => by rw [z, hnq469] at h464; cases h464)]; exact h464
  have h487 : gh470 q385 = some (gI 1 4 (fun _ => 0)) := by rw [egh470, gset_ne (fun z => by rw [z, hnq469] at h465; cases h465)]; exact h465
  have h488 : gh470 q426 = some (gI 1 5 (fun _ => 0)) := by rw [egh470, gset_ne (fun z => by rw [z, hnq469] at h466; cases h466)]; exact h466
  have h489 : gh470 xa = some (gO 11 [vi (0), vi (0), .ref q1, vi (0), .ref q10, .ref q21, .ref q34, .ref q49, .ref q66, .ref q85, .ref q106, vi (0), .ref q129, .ref q154, .ref q181, .ref q210, .ref q241, .ref q274, .ref q309, .ref q346, vi (0), .ref q385, vi (0), .ref q426, .null, .null, .null, vi (0)]) := by rw [egh470, gset_ne (fun z => by rw [z, hnq469] at h467; cases h467)]; exact h467
  have h490 : gh470 q469 = some (gI 1 5 (fun _ => 0)) := by rw [egh470]; exact gset_eq
  have Rk491 := Rk468.new (t := (1, 24, 0)) hnq469 (gI 1 5 (fun _ => 0))
  obtain ⟨adk491, eadk491⟩ : ∃ x, x = aup adk447 (1, 24, 0) q469 := ⟨_, rfl⟩
  obtain ⟨ctk491, ectk491⟩ : ∃ x, x = cup ctk468 (1, 24, 0) (gI 1 5 (fun _ => 0)) := ⟨_, rfl⟩
  rw [← eadk491, ← ectk491, ← egh470] at Rk491
  have pa0_k491 : adk491 (0, 0, 0) = xa := by rw [eadk491, aup_ne (by simp)]; exact pa0_k468
  have pc0_k491 : ctk491 (0, 0, 0) = some (gO 11 [vi (0), vi (0), .ref q1, vi (0), .ref q10, .ref q21, .ref q34, .ref q49, .ref q66, .ref q85, .ref q106, vi (0), .ref q129, .ref q154, .ref q181, .ref q210, .ref q241, .ref q274, .ref q309, .ref q346, vi (0), .ref q385, vi (0), .ref q426, .null, .null, .null, vi (0)]) := by rw [ectk491, cup_ne (by simp)]; exact pc0_k468
  have pa1_k491 : adk491 (1, 2, 0) = q1 := by rw [eadk491, aup_ne (by simp)]; exact pa1_k468
  have pc1_k491 : ctk491 (1, 2, 0) = some (gI 0 8 (fun _ => 0)) := by rw [ectk491, cup_ne (by simp)]; exact pc1_k468
  have pa2_k491 : adk491 (1, 4, 0) = q10 := by rw [eadk491, aup_ne (by simp)]; exact pa2_k468
  have pc2_k491 : ctk491 (1, 4, 0) = some (gI 1 14 (fun _ => 0)) := by rw [ectk491, cup_ne (by simp)]; exact pc2_k468
  have pa3_k491 : adk491 (1, 5, 0) = q21 := by rw [eadk491, aup_ne (by simp)]; exact pa3_k468
  have pc3_k491 : ctk491 (1, 5, 0) = some (gI 1 14 (fun _ => 0)) := by rw [ectk491, cup_ne (by simp)]; exact pc3_k468
  have pa4_k491 : adk491 (1, 6, 0) = q34 := by rw [eadk491, aup_ne (by simp)]; exact pa4_k468
  have pc4_k491 : ctk491 (1, 6, 0) = some (gI 1 14 (fun _ => 0)) := by rw [ectk491, cup_ne (by simp)]; exact pc4_k468
  have pa5_k491 : adk491 (1, 7, 0) = q49 := by rw [eadk491, aup_ne (by simp)]; exact pa5_k468
  have pc5_k491 : ctk491 (1, 7, 0) = some (gI 1 14 (fun _ => 0)) := by rw [ectk491, cup_ne (by simp)]; exact pc5_k468
  have pa6_k491 : adk491 (1, 8, 0) = q66 := by rw [eadk491, aup_ne (by simp)]; exact pa6_k468
  have pc6_k491 : ctk491 (1, 8, 0) = some (gI 1 84 (fun _ => 0)) := by rw [ectk491, cup_ne (by simp)]; exact pc6_k468
  have pa7_k491 : adk491 (1, 9, 0) = q85 := by rw [eadk491, aup_ne (by simp)]; exact pa7_k468
  have pc7_k491 : ctk491 (1, 9, 0) = some (gI 1 84 (fun _ => 0)) := by rw [ectk491, cup_ne (by simp)]; exact pc7_k468
  have pa8_k491 : adk491 (1, 10, 0) = q106 := by rw [eadk491, aup_ne (by simp)]; exact pa8_k468
  have pc8_k491 : ctk491 (1, 10, 0) = some (gI 0 672 (fun _ => 0)) := by rw [ectk491, cup_ne (by simp)]; exact pc8_k468
  have pa9_k491 : adk491 (1, 12, 0) = q129 := by rw [eadk491, aup_ne (by simp)]; exact pa9_k468
  have pc9_k491 : ctk491 (1, 12, 0) = some (gI 1 4 (fun _ => 0)) := by rw [ectk491, cup_ne (by simp)]; exact pc9_k468
  have pa10_k491 : adk491 (1, 13, 0) = q154 := by rw [eadk491, aup_ne (by simp)]; exact pa10_k468
  have pc10_k491 : ctk491 (1, 13, 0) = some (gI 1 4 (fun _ => 0)) := by rw [ectk491, cup_ne (by simp)]; exact pc10_k468
  have pa11_k491 : adk491 (1, 14, 0) = q181 := by rw [eadk491, aup_ne (by simp)]; exact pa11_k468
  have pc11_k491 : ctk491 (1, 14, 0) = some (gI 1 4 (fun _ => 0)) := by rw [ectk491, cup_ne (by simp)]; exact pc11_k468
  have pa12_k491 : adk491 (1, 15, 0) = q210 := by rw [eadk491, aup_ne (by simp)]; exact pa12_k468
  have pc12_k491 : ctk491 (1, 15, 0) = some (gI 1 14 (fun _ => 0)) := by rw [ectk491, cup_ne (by simp)]; exact pc12_k468
  have pa13_k491 : adk491 (1, 16, 0) = q241 := by rw [eadk491, aup_ne (by simp)]; exact pa13_k468
  have pc13_k491 : ctk491 (1, 16, 0) = some (gI 1 14 (fun _ => 0)) := by rw [ectk491, cup_ne (by simp)]; exact pc13_k468
  have pa14_k491 : adk491 (1, 17, 0) = q274 := by rw [eadk491, aup_ne (by simp)]; exact pa14_k468
  have pc14_k491 : ctk491 (1, 17, 0) = some (gI 1 14 (fun _ => 0)) := by rw [ectk491, cup_ne (by simp)]; exact pc14_k468
  have pa15_k491 : adk491 (1, 18, 0) = q309 := by rw [eadk491, aup_ne (by simp)]; exact pa15_k468
  have pc15_k491 : ctk491 (1, 18, 0) = some (gI 0 960 (fun _ => 0)) := by rw [ectk491, cup_ne (by simp)]; exact pc15_k468
  have pa16_k491 : adk491 (1, 19, 0) = q346 := by rw [eadk491, aup_ne (by simp)]; exact pa16_k468
  have pc16_k491 : ctk491 (1, 19, 0) = some (gI 1 56 (fun _ => 0)) := by rw [ectk491, cup_ne (by simp)]; exact pc16_k468
  have pa17_k491 : adk491 (1, 21, 0) = q385 := by rw [eadk491, aup_ne (by simp)]; exact pa17_k468
  have pc17_k491 : ctk491 (1, 21, 0) = some (gI 1 4 (fun _ => 0)) := by rw [ectk491, cup_ne (by simp)]; exact pc17_k468
  have pa18_k491 : adk491 (1, 23, 0) = q426 := by rw [eadk491, aup_ne (by simp)]; exact pa18_k468
  have pc18_k491 : ctk491 (1, 23, 0) = some (gI 1 5 (fun _ => 0)) := by rw [ectk491, cup_ne (by simp)]; exact pc18_k468
  have pa19_k491 : adk491 (1, 24, 0) = q469 := by rw [eadk491, aup_eq]
  have pc19_k491 : ctk491 (1, 24, 0) = some (gI 1 5 (fun _ => 0)) := by rw [ectk491, cup_eq]
  have frk491 : ∀ t : Tg, (2 ≤ t.1) → ctk491 t = ct t ∧ adk491 t = ad t := fun t ht => by
    have e0 : t ≠ (1, 24, 0) := fun e => by rw [e] at ht; simp only at ht; omega
    exact ⟨(show ctk491 t = ctk468 t by rw [ectk491, cup_ne e0]).trans (frk468 t ht).1, (show adk491 t = adk447 t by rw [eadk491, aup_ne e0]).trans (frk468 t ht).2⟩
  refine g_putF hC hq (fs' := [vi (0), vi (0), .ref q1, vi (0), .ref q10, .ref q21, .ref q34, .ref q49, .ref q66, .ref q85, .ref q106, vi (0), .ref q129, .ref q154, .ref q181, .ref q210, .ref q241, .ref q274, .ref q309, .ref q346, vi (0), .ref q385, vi (0), .ref q426, .ref q469, .null, .null, vi (0)]) dX7_init_149 gp_RX7_65 h489 ⟨rfl, rfl⟩ rfl (Nat.le_of_ble_eq_true rfl) ?_
  obtain ⟨gh492, egh492⟩ : ∃ g_, g_ = gset gh470 xa (gO 11 [vi (0), vi (0), .ref q1, vi (0), .ref q10, .ref q21, .ref q34, .ref q49, .ref q66, .ref q85, .ref q106, vi (0), .ref q129, .ref q154, .ref q181, .ref q210, .ref q241, .ref q274, .ref q309, .ref q346, vi (0), .ref q385, vi (0), .ref q426, .ref q469, .null, .null, vi (0)]) := ⟨_, rfl⟩
  rw [← egh492]
  have h493 : gh492 q1 = some (gI 0 8 (fun _ => 0)) := by rw [egh492, gset_ne (gne h471 h489 (by simp))]; exact h471
  have h494 : gh492 q10 = some (gI 1 14 (fun _ => 0)) := by rw [egh492, gset_ne (gne h472 h489 (by simp))]; exact h472
  have h495 : gh492 q21 = some (gI 1 14 (fun _ => 0)) := by rw [egh492, gset_ne (gne h473 h489 (by simp))]; exact h473
  have h496 : gh492 q34 = some (gI 1 14 (fun _ => 0)) := by rw [egh492, gset_ne (gne h474 h489 (by simp))]; exact h474
  have h497 : gh492 q49 = some (gI 1 14 (fun _ => 0)) := by rw [egh492, gset_ne (gne h475 h489 (by simp))]; exact h475
  have h498 : gh492 q66 = some (gI 1 84 (fun _ => 0)) := by rw [egh492, gset_ne (gne h476 h489 (by simp))]; exact h476
  have h499 : gh492 q85 = some (gI 1 84 (fun _ => 0)) := by rw [egh492, gset_ne (gne h477 h489 (by simp))]; exact h477
  have h500 : gh492 q106 = some (gI 0 672 (fun _ => 0)) := by rw [egh492, gset_ne (gne h478 h489 (by simp))]; exact h478
  have h501 : gh492 q129 = some (gI 1 4 (fun _ => 0)) := by rw [egh492, gset_ne (gne h479 h489 (by simp))]; exact h479
  have h502 : gh492 q154 = some (gI 1 4 (fun _ => 0)) := by rw [egh492, gset_ne (gne h480 h489 (by simp))]; exact h480
  have h503 : gh492 q181 = some (gI 1 4 (fun _ => 0)) := by rw [egh492, gset_ne (gne h481 h489 (by simp))]; exact h481
  have h504 : gh492 q210 = some (gI 1 14 (fun _ => 0)) := by rw [egh492, gset_ne (gne h482 h489 (by simp))]; exact h482
  have h505 : gh492 q241 = some (gI 1 14 (fun _ => 0)) := by rw [egh492, gset_ne (gne h483 h489 (by simp))]; exact h483
  have h506 : gh492 q274 = some (gI 1 14 (fun _ => 0)) := by rw [egh492, gset_ne (gne h484 h489 (by simp))]; exact h484
  have h507 : gh492 q309 = some (gI 0 960 (fun _ => 0)) := by rw [egh492, gset_ne (gne h485 h489 (by simp))]; exact h485
  have h508 : gh492 q346 = some (gI 1 56 (fun _ => 0)) := by rw [egh492, gset_ne (gne h486 h489 (by simp))]; exact h486
  have h509 : gh492 q385 = some (gI 1 4 (fun _ => 0)) := by rw [egh492, gset_ne (gne h487 h489 (by simp))]; exact h487
  have h510 : gh492 q426 = some (gI 1 5 (fun _ => 0)) := by rw [egh492, gset_ne (gne h488 h489 (by simp))]; exact h488
  have h511 : gh492 q469 = some (gI 1 5 (fun _ => 0)) := by rw [egh492, gset_ne (gne h490 h489 (by simp))]; exact h490
  have h512 : gh492 xa = some (gO 11 [vi (0), vi (0), .ref q1, vi (0), .ref q10, .ref q21, .ref q34, .ref q49, .ref q66, .ref q85, .ref q106, vi (0), .ref q129, .ref q154, .ref q181, .ref q210, .ref q241, .ref q274, .ref q309, .ref q346, vi (0), .ref q385, vi (0), .ref q426, .ref q469, .null, .null, vi (0)]) := by rw [egh492]; exact gset_eq
  have Rk513 := Rk491.put pc0_k491 (gO 11 [vi (0), vi (0), .ref q1, vi (0), .ref q10, .ref q21, .ref q34, .ref q49, .ref q66, .ref q85, .ref q106, vi (0), .ref q129, .ref q154, .ref q181, .ref q210, .ref q241, .ref q274, .ref q309, .ref q346, vi (0), .ref q385, vi (0), .ref q426, .ref q469, .null, .null, vi (0)])
  obtain ⟨ctk513, ectk513⟩ : ∃ x, x = cup ctk491 (0, 0, 0) (gO 11 [vi (0), vi (0), .ref q1, vi (0), .ref q10, .ref q21, .ref q34, .ref q49, .ref q66, .ref q85, .ref q106, vi (0), .ref q129, .ref q154, .ref q181, .ref q210, .ref q241, .ref q274, .ref q309, .ref q346, vi (0), .ref q385, vi (0), .ref q426, .ref q469, .null, .null, vi (0)]) := ⟨_, rfl⟩
  rw [pa0_k491, ← ectk513, ← egh492] at Rk513
  have pa0_k513 := pa0_k491
  have pc0_k513 : ctk513 (0, 0, 0) = some (gO 11 [vi (0), vi (0), .ref q1, vi (0), .ref q10, .ref q21, .ref q34, .ref q49, .ref q66, .ref q85, .ref q106, vi (0), .ref q129, .ref q154, .ref q181, .ref q210, .ref q241, .ref q274, .ref q309, .ref q346, vi (0), .ref q385, vi (0), .ref q426, .ref q469, .null, .null, vi (0)]) := by rw [ectk513, cup_eq]
  have pa1_k513 := pa1_k491
  have pc1_k513 : ctk513 (1, 2, 0) = some (gI 0 8 (fun _ => 0)) := by rw [ectk513, cup_ne (by simp)]; exact pc1_k491
  have pa2_k513 := pa2_k491
  have pc2_k513 : ctk513 (1, 4, 0) = some (gI 1 14 (fun _ => 0)) := by rw [ectk513, cup_ne (by simp)]; exact pc2_k491
  have pa3_k513 := pa3_k491
  have pc3_k513 : ctk513 (1, 5, 0) = some (gI 1 14 (fun _ => 0)) := by rw [ectk513, cup_ne (by simp)]; exact pc3_k491
  have pa4_k513 := pa4_k491
  have pc4_k513 : ctk513 (1, 6, 0) = some (gI 1 14 (fun _ => 0)) := by rw [ectk513, cup_ne (by simp)]; exact pc4_k491
  have pa5_k513 := pa5_k491
  have pc5_k513 : ctk513 (1, 7, 0) = some (gI 1 14 (fun _ => 0)) := by rw [ectk513, cup_ne (by simp)]; exact pc5_k491
  have pa6_k513 := pa6_k491
  have pc6_k513 : ctk513 (1, 8, 0) = some (gI 1 84 (fun _ => 0)) := by rw [ectk513, cup_ne (by simp)]; exact pc6_k491
  have pa7_k513 := pa7_k491
  have pc7_k513 : ctk513 (1, 9, 0) = some (gI 1 84 (fun _ => 0)) := by rw [ectk513, cup_ne (by simp)]; exact pc7_k491
  have pa8_k513 := pa8_k491
  have pc8_k513 : ctk513 (1, 10, 0) = some (gI 0 672 (fun _ => 0)) := by rw [ectk513, cup_ne (by simp)]; exact pc8_k491
  have pa9_k513 := pa9_k491
  have pc9_k513 : ctk513 (1, 12, 0) = some (gI 1 4 (fun _ => 0)) := by rw [ectk513, cup_ne (by simp)]; exact pc9_k491
  have pa10_k513 := pa10_k491
  have pc10_k513 : ctk513 (1, 13, 0) = some (gI 1 4 (fun _ => 0)) := by rw [ectk513, cup_ne (by simp)]; exact pc10_k491
  have pa11_k513 := pa11_k491
  have pc11_k513 : ctk513 (1, 14, 0) = some (gI 1 4 (fun _ => 0)) := by rw [ectk513, cup_ne (by simp)]; exact pc11_k491
  have pa12_k513 := pa12_k491
  have pc12_k513 : ctk513 (1, 15, 0) = some (gI 1 14 (fun _ => 0)) := by rw [ectk513, cup_ne (by simp)]; exact pc12_k491
  have pa13_k513 := pa13_k491
  have pc13_k513 : ctk513 (1, 16, 0) = some (gI 1 14 (fun _ => 0)) := by rw [ectk513, cup_ne (by simp)]; exact pc13_k491
  have pa14_k513 := pa14_k491
  have pc14_k513 : ctk513 (1, 17, 0) = some (gI 1 14 (fun _ => 0)) := by rw [ectk513, cup_ne (by simp)]; exact pc14_k491
  have pa15_k513 := pa15_k491
  have pc15_k513 : ctk513 (1, 18, 0) = some (gI 0 960 (fun _ => 0)) := by rw [ectk513, cup_ne (by simp)]; exact pc15_k491
  have pa16_k513 := pa16_k491
  have pc16_k513 : ctk513 (1, 19, 0) = some (gI 1 56 (fun _ => 0)) := by rw [ectk513, cup_ne (by simp)]; exact pc16_k491
  have pa17_k513 := pa17_k491
  have pc17_k513 : ctk513 (1, 21, 0) = some (gI 1 4 (fun _ => 0)) := by rw [ectk513, cup_ne (by simp)]; exact pc17_k491
  have pa18_k513 := pa18_k491
  have pc18_k513 : ctk513 (1, 23, 0) = some (gI 1 5 (fun _ => 0)) := by rw [ectk513, cup_ne (by simp)]; exact pc18_k491
  have pa19_k513 := pa19_k491
  have pc19_k513 : ctk513 (1, 24, 0) = some (gI 1 5 (fun _ => 0)) := by rw [ectk513, cup_ne (by simp)]; exact pc19_k491
  have frk513 : ∀ t : Tg, (2 ≤ t.1) → ctk513 t = ct t ∧ adk491 t = ad t := fun t ht => by
    have e0 : t ≠ (0, 0, 0) := fun e => by rw [e] at ht; simp only at ht; omega
    exact ⟨(show ctk513 t = ctk491 t by rw [ectk513, cup_ne e0]).trans (frk491 t ht).1, (frk491 t ht).2⟩
  refine g_ald_n hC dX7_init_152 rfl ?_
  refine g_bipush (z := 70) hC dX7_init_153 rfl ?_
  refine g_newI (n := 70) hC dX7_init_155 ga_int rfl (by decide) (by decide) (by decide) (fun q514 hnq514 => ?_)
  obtain ⟨gh515, egh515⟩ : ∃ g_, g_ = gset gh492 q514 (gI 1 70 (fun _ => 0)) := ⟨_, rfl⟩
  rw [← egh515]
  have h516 : gh515 q1 = some (gI 0 8 (fun _ => 0)) := by rw [egh515, gset_ne (fun z => by rw [z, hnq514] at h493; cases h493)]; exact h493
  have h517 : gh515 q10 = some (gI 1 14 (fun _ => 0)) := by rw [egh515, gset_ne (fun z => by rw [z, hnq514] at h494; cases h494)]; exact h494
  have h518 : gh515 q21 = some (gI 1 14 (fun _ => 0)) := by rw [egh515, gset_ne (fun z => by rw [z, hnq514] at h495; cases h495)]; exact h495
  have h519 : gh515 q34 = some (gI 1 14 (fun _ => 0)) := by rw [egh515, gset_ne (fun z => by rw [z, hnq514] at h496; cases h496)]; exact h496
  have h520 : gh515 q49 = some (gI 1 14 (fun _ => 0)) := by rw [egh515, gset_ne (fun z => by rw [z, hnq514] at h497; cases h497)]; exact h497
  have h521 : gh515 q66 = some (gI 1 84 (fun _ => 0)) := by rw [egh515, gset_ne (fun z => by rw [z, hnq514] at h498; cases h498)]; exact h498
  have h522 : gh515 q85 = some (gI 1 84 (fun _ => 0)) := by rw [egh515, gset_ne (fun z => by rw [z, hnq514] at h499; cases h499)]; exact h499
  have h523 : gh515 q106 = some (gI 0 672 (fun _ => 0)) := by rw [egh515, gset_ne (fun z => by rw [z, hnq514] at h500; cases h500)]; exact h500
  have h524 : gh515 q129 = some (gI 1 4 (fun _ => 0)) := by rw [egh515, gset_ne (fun z => by rw [z, hnq514] at h501; cases h501)]; exact h501
  have h525 : gh515 q154 = some (gI 1 4 (fun _ => 0)) := by rw [egh515, gset_ne (fun z => by rw [z, hnq514] at h502; cases h502)]; exact h502
  have h526 : gh515 q181 = some (gI 1 4 (fun _ => 0)) := by rw [egh515, gset_ne (fun z => by rw [z, hnq514] at h503; cases h503)]; exact h503
  have h527 : gh515 q210 = some (gI 1 14 (fun _ => 0)) := by rw [egh515, gset_ne (fun z => by rw [z, hnq514] at h504; cases h504)]; exact h504
  have h528 : gh515 q241 = some (gI 1 14 (fun _ => 0)) := by rw [egh515, gset_ne (fun z => by rw [z, hnq514] at h505; cases h505)]; exact h505
  have h529 : gh515 q274 = some (gI 1 14 (fun _ => 0)) := by rw [egh515, gset_ne (fun z => by rw [z, hnq514] at h506; cases h506)]; exact h506
  have h530 : gh515 q309 = some (gI 0 960 (fun _ => 0)) := by rw [egh515, gset_ne (fun z => by rw [z, hnq514] at h507; cases h507)]; exact h507
  have h531 : gh515 q346 = some (gI 1 56 (fun _ => 0)) := by rw [egh515, gset_ne (fun z => by rw [z, hnq514] at h508; cases h508)]; exact h508
  have h532 : gh515 q385 = some (gI 1 4 (fun _ => 0)) := by rw [egh515, gset_ne (fun z => by rw [z, hnq514] at h509; cases h509)]; exact h509
  have h533 : gh515 q426 = some (gI 1 5 (fun _ => 0)) := by rw [egh515, gset_ne (fun z => by rw [z, hnq514] at h510; cases h510)]; exact h510
  have h534 : gh515 q469 = some (gI 1 5 (fun _ => 0)) := by rw [egh515, gset_ne (fun z => by rw [z, hnq514] at h511; cases h511)]; exact h511
  have h535 : gh515 xa = some (gO 11 [vi (0), vi (0), .ref q1, vi (0), .ref q10, .ref q21, .ref q34, .ref q49, .ref q66, .ref q85, .ref q106, vi (0), .ref q129, .ref q154, .ref q181, .ref q210, .ref q241, .ref q274, .ref q309, .ref q346, vi (0), .ref q385, vi (0), .ref q426, .ref q469, .null, .null, vi (0)]) := by rw [egh515, gset_ne (fun z => by rw [z, hnq514] at h512; cases h512)]; exact h512
  have h536 : gh515 q514 = some (gI 1 70 (fun _ => 0)) := by rw [egh515]; exact gset_eq
  have Rk537 := Rk513.new (t := (1, 25, 0)) hnq514 (gI 1 70 (fun _ => 0))
  obtain ⟨adk537, eadk537⟩ : ∃ x, x = aup adk491 (1, 25, 0) q514 := ⟨_, rfl⟩
  obtain ⟨ctk537, ectk537⟩ : ∃ x, x = cup ctk513 (1, 25, 0) (gI 1 70 (fun _ => 0)) := ⟨_, rfl⟩
  rw [← eadk537, ← ectk537, ← egh515] at Rk537
  have pa0_k537 : adk537 (0, 0, 0) = xa := by rw [eadk537, aup_ne (by simp)]; exact pa0_k513
  have pc0_k537 : ctk537 (0, 0, 0) = some (gO 11 [vi (0), vi (0), .ref q1, vi (0), .ref q10, .ref q21, .ref q34, .ref q49, .ref q66, .ref q85, .ref q106, vi (0), .ref q129, .ref q154, .ref q181, .ref q210, .ref q241, .ref q274, .ref q309, .ref q346, vi (0), .ref q385, vi (0), .ref q426, .ref q469, .null, .null, vi (0)]) := by rw [ectk537, cup_ne (by simp)]; exact pc0_k513
  have pa1_k537 : adk537 (1, 2, 0) = q1 := by rw [eadk537, aup_ne (by simp)]; exact pa1_k513
  have pc1_k537 : ctk537 (1, 2, 0) = some (gI 0 8 (fun _ => 0)) := by rw [ectk537, cup_ne (by simp)]; exact pc1_k513
  have pa2_k537 : adk537 (1, 4, 0) = q10 := by rw [eadk537, aup_ne (by simp)]; exact pa2_k513
  have pc2_k537 : ctk537 (1, 4, 0) = some (gI 1 14 (fun _ => 0)) := by rw [ectk537, cup_ne (by simp)]; exact pc2_k513
  have pa3_k537 : adk537 (1, 5, 0) = q21 := by rw [eadk537, aup_ne (by simp)]; exact pa3_k513
  have pc3_k537 : ctk537 (1, 5, 0) = some (gI 1 14 (fun _ => 0)) := by rw [ectk537, cup_ne (by simp)]; exact pc3_k513
  have pa4_k537 : adk537 (1, 6, 0) = q34 := by rw [eadk537, aup_ne (by simp)]; exact pa4_k513
  have pc4_k537 : ctk537 (1, 6, 0) = some (gI 1 14 (fun _ => 0)) := by rw [ectk537, cup_ne (by simp)]; exact pc4_k513
  have pa5_k537 : adk537 (1, 7, 0) = q49 := by rw [eadk537, aup_ne (by simp)]; exact pa5_k513
  have pc5_k537 : ctk537 (1, 7, 0) = some (gI 1 14 (fun _ => 0)) := by rw [ectk537, cup_ne (by simp)]; exact pc5_k513
  have pa6_k537 : adk537 (1, 8, 0) = q66 := by rw [eadk537, aup_ne (by simp)]; exact pa6_k513
  have pc6_k537 : ctk537 (1, 8, 0) = some (gI 1 84 (fun _ => 0)) := by rw [ectk537, cup_ne (by simp)]; exact pc6_k513
  have pa7_k537 : adk537 (1, 9, 0) = q85 := by rw [eadk537, aup_ne (by simp)]; exact pa7_k513
  have pc7_k537 : ctk537 (1, 9, 0) = some (gI 1 84 (fun _ => 0)) := by rw [ectk537, cup_ne (by simp)]; exact pc7_k513
  have pa8_k537 : adk537 (1, 10, 0) = q106 := by rw [eadk537, aup_ne (by simp)]; exact pa8_k513
  have pc8_k537 : ctk537 (1, 10, 0) = some (gI 0 672 (fun _ => 0)) := by rw [ectk537, cup_ne (by simp)]; exact pc8_k513
  have pa9_k537 : adk537 (1, 12, 0) = q129 := by rw [eadk537, aup_ne (by simp)]; exact pa9_k513
  have pc9_k537 : ctk537 (1, 12, 0) = some (gI 1 4 (fun _ => 0)) := by rw [ectk537, cup_ne (by simp)]; exact pc9_k513
  have pa10_k537 : adk537 (1, 13, 0) = q154 := by rw [eadk537, aup_ne (by simp)]; exact pa10_k513
  have pc10_k537 : ctk537 (1, 13, 0) = some (gI 1 4 (fun _ => 0)) := by rw [ectk537, cup_ne (by simp)]; exact pc10_k513
  have pa11_k537 : adk537 (1, 14, 0) = q181 := by rw [eadk537, aup_ne (by simp)]; exact pa11_k513
  have pc11_k537 : ctk537 (1, 14, 0) = some (gI 1 4 (fun _ => 0)) := by rw [ectk537, cup_ne (by simp)]; exact pc11_k513
  have pa12_k537 : adk537 (1, 15, 0) = q210 := by rw [eadk537, aup_ne (by simp)]; exact pa12_k513
  have pc12_k537 : ctk537 (1, 15, 0) = some (gI 1 14 (fun _ => 0)) := by rw [ectk537, cup_ne (by simp)]; exact pc12_k513
  have pa13_k537 : adk537 (1, 16, 0) = q241 := by rw [eadk537, aup_ne (by simp)]; exact pa13_k513
  have pc13_k537 : ctk537 (1, 16, 0) = some (gI 1 14 (fun _ => 0)) := by rw [ectk537, cup_ne (by simp)]; exact pc13_k513
  have pa14_k537 : adk537 (1, 17, 0) = q274 := by rw [eadk537, aup_ne (by simp)]; exact pa14_k513
  have pc14_k537 : ctk537 (1, 17, 0) = some (gI 1 14 (fun _ => 0)) := by rw [ectk537, cup_ne (by simp)]; exact pc14_k513
  have pa15_k537 : adk537 (1, 18, 0) = q309 := by rw [eadk537, aup_ne (by simp)]; exact pa15_k513
  have pc15_k537 : ctk537 (1, 18, 0) = some (gI 0 960 (fun _ => 0)) := by rw [ectk537, cup_ne (by simp)]; exact pc15_k513
  have pa16_k537 : adk537 (1, 19, 0) = q346 := by rw [eadk537, aup_ne (by simp)]; exact pa16_k513
  have pc16_k537 : ctk537 (1, 19, 0) = some (gI 1 56 (fun _ => 0)) := by rw [ectk537, cup_ne (by simp)]; exact pc16_k513
  have pa17_k537 : adk537 (1, 21, 0) = q385 := by rw [eadk537, aup_ne (by simp)]; exact pa17_k513
  have pc17_k537 : ctk537 (1, 21, 0) = some (gI 1 4 (fun _ => 0)) := by rw [ectk537, cup_ne (by simp)]; exact pc17_k513
  have pa18_k537 : adk537 (1, 23, 0) = q426 := by rw [eadk537, aup_ne (by simp)]; exact pa18_k513
  have pc18_k537 : ctk537 (1, 23, 0) = some (gI 1 5 (fun _ => 0)) := by rw [ectk537, cup_ne (by simp)]; exact pc18_k513
  have pa19_k537 : adk537 (1, 24, 0) = q469 := by rw [eadk537, aup_ne (by simp)]; exact pa19_k513
  have pc19_k537 : ctk537 (1, 24, 0) = some (gI 1 5 (fun _ => 0)) := by rw [ectk537, cup_ne (by simp)]; exact pc19_k513
  have pa20_k537 : adk537 (1, 25, 0) = q514 := by rw [eadk537, aup_eq]
  have pc20_k537 : ctk537 (1, 25, 0) = some (gI 1 70 (fun _ => 0)) := by rw [ectk537, cup_eq]
  have frk537 : ∀ t : Tg, (2 ≤ t.1) → ctk537 t = ct t ∧ adk537 t = ad t := fun t ht => by
    have e0 : t ≠ (1, 25, 0) := fun e => by rw [e] at ht; simp only at ht; omega
    exact ⟨(show ctk537 t = ctk513 t by rw [ectk537, cup_ne e0]).trans (frk513 t ht).1, (show adk537 t = adk491 t by rw [eadk537, aup_ne e0]).trans (frk513 t ht).2⟩
  refine g_putF hC hq (fs' := [vi (0), vi (0), .ref q1, vi (0), .ref q10, .ref q21, .ref q34, .ref q49, .ref q66, .ref q85, .ref q106, vi (0), .ref q129, .ref q154, .ref q181, .ref q210, .ref q241, .ref q274, .ref q309, .ref q346, vi (0), .ref q385, vi (0), .ref q426, .ref q469, .ref q514, .null, vi (0)]) dX7_init_157 gp_RX7_68 h535 ⟨rfl, rfl⟩ rfl (Nat.le_of_ble_eq_true rfl) ?_
  obtain ⟨gh538, egh538⟩ : ∃ g_, g_ = gset gh515 xa (gO 11 [vi (0), vi (0), .ref q1, vi (0), .ref q10, .ref q21, .ref q34, .ref q49, .ref q66, .ref q85, .ref q106, vi (0), .ref q129, .ref q154, .ref q181, .ref q210, .ref q241, .ref q274, .ref q309, .ref q346, vi (0), .ref q385, vi (0), .ref q426, .ref q469, .ref q514, .null, vi (0)]) := ⟨_, rfl⟩
  rw [← egh538]
  have h539 : gh538 q1 = some (gI 0 8 (fun _ => 0)) := by rw [egh538, gset_ne (gne h516 h535 (by simp))]; exact h516
  have h540 : gh538 q10 = some (gI 1 14 (fun _ => 0)) := by rw [egh538, gset_ne (gne h517 h535 (by simp))]; exact h517
  have h541 : gh538 q21 = some (gI 1 14 (fun _ => 0)) := by rw [egh538, gset_ne (gne h518 h535 (by simp))]; exact h518
  have h542 : gh538 q34 = some (gI 1 14 (fun _ => 0)) := by rw [egh538, gset_ne (gne h519 h535 (by simp))]; exact h519
  have h543 : gh538 q49 = some (gI 1 14 (fun _ => 0)) := by rw [egh538, gset_ne (gne h520 h535 (by simp))]; exact h520
  have h544 : gh538 q66 = some (gI 1 84 (fun _ => 0)) := by rw [egh538, gset_ne (gne h521 h535 (by simp))]; exact h521
  have h545 : gh538 q85 = some (gI 1 84 (fun _ => 0)) := by rw [egh538, gset_ne (gne h522 h535 (by simp))]; exact h522
  have h546 : gh538 q106 = some (gI 0 672 (fun _ => 0)) := by rw [egh538, gset_ne (gne h523 h535 (by simp))]; exact h523
  have h547 : gh538 q129 = some (gI 1 4 (fun _ => 0)) := by rw [egh538, gset_ne (gne h524 h535 (by simp))]; exact h524
  have h548 : gh538 q154 = some (gI 1 4 (fun _ => 0)) := by rw [egh538, gset_ne (gne h525 h535 (by simp))]; exact h525
  have h549 : gh538 q181 = some (gI 1 4 (fun _ => 0)) := by rw [egh538, gset_ne (gne h526 h535 (by simp))]; exact h526
  have h550 : gh538 q210 = some (gI 1 14 (fun _ => 0)) := by rw [egh538, gset_ne (gne h527 h535 (by simp))]; exact h527
  have h551 : gh538 q241 = some (gI 1 14 (fun _ => 0)) := by rw [egh538, gset_ne (gne h528 h535 (by simp))]; exact h528
  have h552 : gh538 q274 = some (gI 1 14 (fun _ => 0)) := by rw [egh538, gset_ne (gne h529 h535 (by simp))]; exact h529
  have h553 : gh538 q309 = some (gI 0 960 (fun _ => 0)) := by rw [egh538, gset_ne (gne h530 h535 (by simp))]; exact h530
  have h554 : gh538 q346 = some (gI 1 56 (fun _ => 0)) := by rw [egh538, gset_ne (gne h531 h535 (by simp))]; exact h531
  have h555 : gh538 q385 = some (gI 1 4 (fun _ => 0)) := by rw [egh538, gset_ne (gne h532 h535 (by simp))]; exact h532
  have h556 : gh538 q426 = some (gI 1 5 (fun _ => 0)) := by rw [egh538, gset_ne (gne h533 h535 (by simp))]; exact h533
  have h557 : gh538 q469 = some (gI 1 5 (fun _ => 0)) := by rw [egh538, gset_ne (gne h534 h535 (by simp))]; exact h534
  have h558 : gh538 q514 = some (gI 1 70 (fun _ => 0)) := by rw [egh538, gset_ne (gne h536 h535 (by simp))]; exact h536
  have h559 : gh538 xa = some (gO 11 [vi (0), vi (0), .ref q1, vi (0), .ref q10, .ref q21, .ref q34, .ref q49, .ref q66, .ref q85, .ref q106, vi (0), .ref q129, .ref q154, .ref q181, .ref q210, .ref q241, .ref q274, .ref q309, .ref q346, vi (0), .ref q385, vi (0), .ref q426, .ref q469, .ref q514, .null, vi (0)]) := by rw [egh538]; exact gset_eq
  have Rk560 := Rk537.put pc0_k537 (gO 11 [vi (0), vi (0), .ref q1, vi (0), .ref q10, .ref q21, .ref q34, .ref q49, .ref q66, .ref q85, .ref q106, vi (0), .ref q129, .ref q154, .ref q181, .ref q210, .ref q241, .ref q274, .ref q309, .ref q346, vi (0), .ref q385, vi (0), .ref q426, .ref q469, .ref q514, .null, vi (0)])
  obtain ⟨ctk560, ectk560⟩ : ∃ x, x = cup ctk537 (0, 0, 0) (gO 11 [vi (0), vi (0), .ref q1, vi (0), .ref q10, .ref q21, .ref q34, .ref q49, .ref q66, .ref q85, .ref q106, vi (0), .ref q129, .ref q154, .ref q181, .ref q210, .ref q241, .ref q274, .ref q309, .ref q346, vi (0), .ref q385, vi (0), .ref q426, .ref q469, .ref q514, .null, vi (0)]) := ⟨_, rfl⟩
  rw [pa0_k537, ← ectk560, ← egh538] at Rk560
  have pa0_k560 := pa0_k537
  have pc0_k560 : ctk560 (0, 0, 0) = some (gO 11 [vi (0), vi (0), .ref q1, vi (0), .ref q10, .ref q21, .ref q34, .ref q49, .ref q66, .ref q85, .ref q106, vi (0), .ref q129, .ref q154, .ref q181, .ref q210, .ref q241, .ref q274, .ref q309, .ref q346, vi (0), .ref q385, vi (0), .ref q426, .ref q469, .ref q514, .null, vi (0)]) := by rw [ectk560, cup_eq]
  have pa1_k560 := pa1_k537
  have pc1_k560 : ctk560 (1, 2, 0) = some (gI 0 8 (fun _ => 0)) := by rw [ectk560, cup_ne (by simp)]; exact pc1_k537
  have pa2_k560 := pa2_k537
  have pc2_k560 : ctk560 (1, 4, 0) = some (gI 1 14 (fun _ => 0)) := by rw [ectk560, cup_ne (by simp)]; exact pc2_k537
  have pa3_k560 := pa3_k537
  have pc3_k560 : ctk560 (1, 5, 0) = some (gI 1 14 (fun _ => 0)) := by rw [ectk560, cup_ne (by simp)]; exact pc3_k537
  have pa4_k560 := pa4_k537
  have pc4_k560 : ctk560 (1, 6, 0) = some (gI 1 14 (fun _ => 0)) := by rw [ectk560, cup_ne (by simp)]; exact pc4_k537
  have pa5_k560 := pa5_k537
  have pc5_k560 : ctk560 (1, 7, 0) = some (gI 1 14 (fun _ => 0)) := by rw [ectk560, cup_ne (by simp)]; exact pc5_k537
  have pa6_k560 := pa6_k537
  have pc6_k560 : ctk560 (1, 8, 0) = some (gI 1 84 (fun _ => 0)) := by rw [ectk560, cup_ne (by simp)]; exact pc6_k537
  have pa7_k560 := pa7_k537
  have pc7_k560 : ctk560 (1, 9, 0) = some (gI 1 84 (fun _ => 0)) := by rw [ectk560, cup_ne (by simp)]; exact pc7_k537
  have pa8_k560 := pa8_k537
  have pc8_k560 : ctk560 (1, 10, 0) = some (gI 0 672 (fun _ => 0)) := by rw [ectk560, cup_ne (by simp)]; exact pc8_k537
  have pa9_k560 := pa9_k537
  have pc9_k560 : ctk560 (1, 12, 0) = some (gI 1 4 (fun _ => 0)) := by rw [ectk560, cup_ne (by simp)]; exact pc9_k537
  have pa10_k560 := pa10_k537
  have pc10_k560 : ctk560 (1, 13, 0) = some (gI 1 4 (fun _ => 0)) := by rw [ectk560, cup_ne (by simp)]; exact pc10_k537
  have pa11_k560 := pa11_k537
  have pc11_k560 : ctk560 (1, 14, 0) = some (gI 1 4 (fun _ => 0)) := by rw [ectk560, cup_ne (by simp)]; exact pc11_k537
  have pa12_k560 := pa12_k537
  have pc12_k560 : ctk560 (1, 15, 0) = some (gI 1 14 (fun _ => 0)) := by rw [ectk560, cup_ne (by simp)]; exact pc12_k537
  have pa13_k560 := pa13_k537
  have pc13_k560 : ctk560 (1, 16, 0) = some (gI 1 14 (fun _ => 0)) := by rw [ectk560, cup_ne (by simp)]; exact pc13_k537
  have pa14_k560 := pa14_k537
  have pc14_k560 : ctk560 (1, 17, 0) = some (gI 1 14 (fun _ => 0)) := by rw [ectk560, cup_ne (by simp)]; exact pc14_k537
  have pa15_k560 := pa15_k537
  have pc15_k560 : ctk560 (1, 18, 0) = some (gI 0 960 (fun _ => 0)) := by rw [ectk560, cup_ne (by simp)]; exact pc15_k537
  have pa16_k560 := pa16_k537
  have pc16_k560 : ctk560 (1, 19, 0) = some (gI 1 56 (fun _ => 0)) := by rw [ectk560, cup_ne (by simp)]; exact pc16_k537
  have pa17_k560 := pa17_k537
  have pc17_k560 : ctk560 (1, 21, 0) = some (gI 1 4 (fun _ => 0)) := by rw [ectk560, cup_ne (by simp)]; exact pc17_k537
  have pa18_k560 := pa18_k537
  have pc18_k560 : ctk560 (1, 23, 0) = some (gI 1 5 (fun _ => 0)) := by rw [ectk560, cup_ne (by simp)]; exact pc18_k537
  have pa19_k560 := pa19_k537
  have pc19_k560 : ctk560 (1, 24, 0) = some (gI 1 5 (fun _ => 0)) := by rw [ectk560, cup_ne (by simp)]; exact pc19_k537
  have pa20_k560 := pa20_k537
  have pc20_k560 : ctk560 (1, 25, 0) = some (gI 1 70 (fun _ => 0)) := by rw [ectk560, cup_ne (by simp)]; exact pc20_k537
  have frk560 : ∀ t : Tg, (2 ≤ t.1) → ctk560 t = ct t ∧ adk537 t = ad t := fun t ht => by
    have e0 : t ≠ (0, 0, 0) := fun e => by rw [e] at ht; simp only at ht; omega
    exact ⟨(show ctk560 t = ctk537 t by rw [ectk560, cup_ne e0]).trans (frk537 t ht).1, (frk537 t ht).2⟩
  refine g_ald_n hC dX7_init_160 rfl ?_
  refine g_sipush (z := 280) hC dX7_init_161 rfl ?_
  refine g_newI (n := 280) hC dX7_init_164 ga_int rfl (by decide) (by decide) (by decide) (fun q561 hnq561 => ?_)
  obtain ⟨gh562, egh562⟩ : ∃ g_, g_ = gset gh538 q561 (gI 1 280 (fun _ => 0)) := ⟨_, rfl⟩
  rw [← egh562]
  have h563 : gh562 q1 = some (gI 0 8 (fun _ => 0)) := by rw [egh562, gset_ne (fun z => by rw [z, hnq561] at h539; cases h539)]; exact h539
  have h564 : gh562 q10 = some (gI 1 14 (fun _ => 0)) := by rw [egh562, gset_ne (fun z => by rw [z, hnq561] at h540; cases h540)]; exact h540
  have h565 : gh562 q21 = some (gI 1 14 (fun _ => 0)) := by rw [egh562, gset_ne (fun z => by rw [z, hnq561] at h541; cases h541)]; exact h541
  have h566 : gh562 q34 = some (gI 1 14 (fun _ => 0)) := by rw [egh562, gset_ne (fun z => by rw [z, hnq561] at h542; cases h542)]; exact h542
  have h567 : gh562 q49 = some (gI 1 14 (fun _ => 0)) := by rw [egh562, gset_ne (fun z => by rw [z, hnq561] at h543; cases h543)]; exact h543
  have h568 : gh562 q66 = some (gI 1 84 (fun _ => 0)) := by rw [egh562, gset_ne (fun z => by rw [z, hnq561] at h544; cases h544)]; exact h544
  have h569 : gh562 q85 = some (gI 1 84 (fun _ => 0)) := by rw [egh562, gset_ne (fun z => by rw [z, hnq561] at h545; cases h545)]; exact h545
  have h570 : gh562 q106 = some (gI 0 672 (fun _ => 0)) := by rw [egh562, gset_ne (fun z => by rw [z, hnq561] at h546; cases h546)]; exact h546
  have h571 : gh562 q129 = some (gI 1 4 (fun _ => 0)) := by rw [egh562, gset_ne (fun z => by rw [z, hnq561] at h547; cases h547)]; exact h547
  have h572 : gh562 q154 = some (gI 1 4 (fun _ => 0)) := by rw [egh562, gset_ne (fun z => by rw [z, hnq561] at h548; cases h548)]; exact h548
  have h573 : gh562 q181 = some (gI 1 4 (fun _ => 0)) := by rw [egh562, gset_ne (fun z => by rw [z, hnq561] at h549; cases h549)]; exact h549
  have h574 : gh562 q210 = some (gI 1 14 (fun _ => 0)) := by rw [egh562, gset_ne (fun z => by rw [z, hnq561] at h550; cases h550)]; exact h550
  have h575 : gh562 q241 = some (gI 1 14 (fun _ => 0)) := by rw [egh562, gset_ne (fun z => by rw [z, hnq561] at h551; cases h551)]; exact h551
  have h576 : gh562 q274 = some (gI 1 14 (fun _ => 0)) := by rw [egh562, gset_ne (fun z => by rw [z, hnq561] at h552; cases h552)]; exact h552
  have h577 : gh562 q309 = some (gI 0 960 (fun _ => 0)) := by rw [egh562, gset_ne (fun z => by rw [z, hnq561] at h553; cases h553)]; exact h553
  have h578 : gh562 q346 = some (gI 1 56 (fun _ => 0)) := by rw [egh562, gset_ne (fun z => by rw [z, hnq561] at h554; cases h554)]; exact h554
  have h579 : gh562 q385 = some (gI 1 4 (fun _ => 0)) := by rw [egh562, gset_ne (fun z => by rw [z, hnq561] at h555; cases h555)]; exact h555
  have h580 : gh562 q426 = some (gI 1 5 (fun _ => 0)) := by rw [egh562, gset_ne (fun z => by rw [z, hnq561] at h556; cases h556)]; exact h556
  have h581 : gh562 q469 = some (gI 1 5 (fun _ => 0)) := by rw [egh562, gset_ne (fun z => by rw [z, hnq561] at h557; cases h557)]; exact h557
  have h582 : gh562 q514 = some (gI 1 70 (fun _ => 0)) := by rw [egh562, gset_ne (fun z => by rw [z, hnq561] at h558; cases h558)]; exact h558
  have h583 : gh562 xa = some (gO 11 [vi (0), vi (0), .ref q1, vi (0), .ref q10, .ref q21, .ref q34, .ref q49, .ref q66, .ref q85, .ref q106, vi (0), .ref q129, .ref q154, .ref q181, .ref q210, .ref q241, .ref q274, .ref q309, .ref q346, vi (0), .ref q385, vi (0), .ref q426, .ref q469, .ref q514, .null, vi (0)]) := by rw [egh562, gset_ne (fun z => by rw [z, hnq561] at h559; cases h559)]; exact h559
  have h584 : gh562 q561 = some (gI 1 280 (fun _ => 0)) := by rw [egh562]; exact gset_eq
  have Rk585 := Rk560.new (t := (1, 26, 0)) hnq561 (gI 1 280 (fun _ => 0))
  obtain ⟨adk585, eadk585⟩ : ∃ x, x = aup adk537 (1, 26, 0) q561 := ⟨_, rfl⟩
  obtain ⟨ctk585, ectk585⟩ : ∃ x, x = cup ctk560 (1, 26, 0) (gI 1 280 (fun _ => 0)) := ⟨_, rfl⟩
  rw [← eadk585, ← ectk585, ← egh562] at Rk585
  have pa0_k585 : adk585 (0, 0, 0) = xa := by rw [eadk585, aup_ne (by simp)]; exact pa0_k560
  have pc0_k585 : ctk585 (0, 0, 0) = some (gO 11 [vi (0), vi (0), .ref q1, vi (0), .ref q10, .ref q21, .ref q34, .ref q49, .ref q66, .ref q85, .ref q106, vi (0), .ref q129, .ref q154, .ref q181, .ref q210, .ref q241, .ref q274, .ref q309, .ref q346, vi (0), .ref q385, vi (0), .ref q426, .ref q469, .ref q514, .null, vi (0)]) := by rw [ectk585, cup_ne (by simp)]; exact pc0_k560
  have pa1_k585 : adk585 (1, 2, 0) = q1 := by rw [eadk585, aup_ne (by simp)]; exact pa1_k560
  have pc1_k585 : ctk585 (1, 2, 0) = some (gI 0 8 (fun _ => 0)) := by rw [ectk585, cup_ne (by simp)]; exact pc1_k560
  have pa2_k585 : adk585 (1, 4, 0) = q10 := by rw [eadk585, aup_ne (by simp)]; exact pa2_k560
  have pc2_k585 : ctk585 (1, 4, 0) = some (gI 1 14 (fun _ => 0)) := by rw [ectk585, cup_ne (by simp)]; exact pc2_k560
  have pa3_k585 : adk585 (1, 5, 0) = q21 := by rw [eadk585, aup_ne (by simp)]; exact pa3_k560
  have pc3_k585 : ctk585 (1, 5, 0) = some (gI 1 14 (fun _ => 0)) := by rw [ectk585, cup_ne (by simp)]; exact pc3_k560
  have pa4_k585 : adk585 (1, 6, 0) = q34 := by rw [eadk585, aup_ne (by simp)]; exact pa4_k560
  have pc4_k585 : ctk585 (1, 6, 0) = some (gI 1 14 (fun _ => 0)) := by rw [ectk585, cup_ne (by simp)]; exact pc4_k560
  have pa5_k585 : adk585 (1, 7, 0) = q49 := by rw [eadk585, aup_ne (by simp)]; exact pa5_k560
  have pc5_k585 : ctk585 (1, 7, 0) = some (gI 1 14 (fun _ => 0)) := by rw [ectk585, cup_ne (by simp)]; exact pc5_k560
  have pa6_k585 : adk585 (1, 8, 0) = q66 := by rw [eadk585, aup_ne (by simp)]; exact pa6_k560
  have pc6_k585 : ctk585 (1, 8, 0) = some (gI 1 84 (fun _ => 0)) := by rw [ectk585, cup_ne (by simp)]; exact pc6_k560
  have pa7_k585 : adk585 (1, 9, 0) = q85 := by rw [eadk585, aup_ne (by simp)]; exact pa7_k560
  have pc7_k585 : ctk585 (1, 9, 0) = some (gI 1 84 (fun _ => 0)) := by rw [ectk585, cup_ne (by simp)]; exact pc7_k560
  have pa8_k585 : adk585 (1, 10, 0) = q106 := by rw [eadk585, aup_ne (by simp)]; exact pa8_k560
  have pc8_k585 : ctk585 (1, 10, 0) = some (gI 0 672 (fun _ => 0)) := by rw [ectk585, cup_ne (by simp)]; exact pc8_k560
  have pa9_k585 : adk585 (1, 12, 0) = q129 := by rw [eadk585, aup_ne (by simp)]; exact pa9_k560
  have pc9_k585 : ctk585 (1, 12, 0) = some (gI 1 4 (fun _ => 0)) := by rw [ectk585, cup_ne (by simp)]; exact pc9_k560
  have pa10_k585 : adk585 (1, 13, 0) = q154 := by rw [eadk585, aup_ne (by simp)]; exact pa10_k560
  have pc10_k585 : ctk585 (1, 13, 0) = some (gI 1 4 (fun _ => 0)) := by rw [ectk585, cup_ne (by simp)]; exact pc10_k560
  have pa11_k585 : adk585 (1, 14, 0) = q181 := by rw [eadk585, aup_ne (by simp)]; exact pa11_k560
  have pc11_k585 : ctk585 (1, 14, 0) = some (gI 1 4 (fun _ => 0)) := by rw [ectk585, cup_ne (by simp)]; exact pc11_k560
  have pa12_k585 : adk585 (1, 15, 0) = q210 := by rw [eadk585, aup_ne (by simp)]; exact pa12_k560
  have pc12_k585 : ctk585 (1, 15, 0) = some (gI 1 14 (fun _ => 0)) := by rw [ectk585, cup_ne (by simp)]; exact pc12_k560
  have pa13_k585 : adk585 (1, 16, 0) = q241 := by rw [eadk585, aup_ne (by simp)]; exact pa13_k560
  have pc13_k585 : ctk585 (1, 16, 0) = some (gI 1 14 (fun _ => 0)) := by rw [ectk585, cup_ne (by simp)]; exact pc13_k560
  have pa14_k585 : adk585 (1, 17, 0) = q274 := by rw [eadk585, aup_ne (by simp)]; exact pa14_k560
  have pc14_k585 : ctk585 (1, 17, 0) = some (gI 1 14 (fun _ => 0)) := by rw [ectk585, cup_ne (by simp)]; exact pc14_k560
  have pa15_k585 : adk585 (1, 18, 0) = q309 := by rw [eadk585, aup_ne (by simp)]; exact pa15_k560
  have pc15_k585 : ctk585 (1, 18, 0) = some (gI 0 960 (fun _ => 0)) := by rw [ectk585, cup_ne (by simp)]; exact pc15_k560
  have pa16_k585 : adk585 (1, 19, 0) = q346 := by rw [eadk585, aup_ne (by simp)]; exact pa16_k560
  have pc16_k585 : ctk585 (1, 19, 0) = some (gI 1 56 (fun _ => 0)) := by rw [ectk585, cup_ne (by simp)]; exact pc16_k560
  have pa17_k585 : adk585 (1, 21, 0) = q385 := by rw [eadk585, aup_ne (by simp)]; exact pa17_k560
  have pc17_k585 : ctk585 (1, 21, 0) = some (gI 1 4 (fun _ => 0)) := by rw [ectk585, cup_ne (by simp)]; exact pc17_k560
  have pa18_k585 : adk585 (1, 23, 0) = q426 := by rw [eadk585, aup_ne (by simp)]; exact pa18_k560
  have pc18_k585 : ctk585 (1, 23, 0) = some (gI 1 5 (fun _ => 0)) := by rw [ectk585, cup_ne (by simp)]; exact pc18_k560
  have pa19_k585 : adk585 (1, 24, 0) = q469 := by rw [eadk585, aup_ne (by simp)]; exact pa19_k560
  have pc19_k585 : ctk585 (1, 24, 0) = some (gI 1 5 (fun _ => 0)) := by rw [ectk585, cup_ne (by simp)]; exact pc19_k560
  have pa20_k585 : adk585 (1, 25, 0) = q514 := by rw [eadk585, aup_ne (by simp)]; exact pa20_k560
  have pc20_k585 : ctk585 (1, 25, 0) = some (gI 1 70 (fun _ => 0)) := by rw [ectk585, cup_ne (by simp)]; exact pc20_k560
  have pa21_k585 : adk585 (1, 26, 0) = q561 := by rw [eadk585, aup_eq]
  have pc21_k585 : ctk585 (1, 26, 0) = some (gI 1 280 (fun _ => 0)) := by rw [ectk585, cup_eq]
  have frk585 : ∀ t : Tg, (2 ≤ t.1) → ctk585 t = ct t ∧ adk585 t = ad t := fun t ht => by
    have e0 : t ≠ (1, 26, 0) := fun e => by rw [e] at ht; simp only at ht; omega
    exact ⟨(show ctk585 t = ctk560 t by rw [ectk585, cup_ne e0]).trans (frk560 t ht).1, (show adk585 t = adk537 t by rw [eadk585, aup_ne e0]).trans (frk560 t ht).2⟩
  refine g_putF hC hq (fs' := [vi (0), vi (0), .ref q1, vi (0), .ref q10, .ref q21, .ref q34, .ref q49, .ref q66, .ref q85, .ref q106, vi (0), .ref q129, .ref q154, .ref q181, .ref q210, .ref q241, .ref q274, .ref q309, .ref q346, vi (0), .ref q385, vi (0), .ref q426, .ref q469, .ref q514, .ref q561, vi (0)]) dX7_init_166 gp_RX7_71 h583 ⟨rfl, rfl⟩ rfl (Nat.le_of_ble_eq_true rfl) ?_
  obtain ⟨gh586, egh586⟩ : ∃ g_, g_ = gset gh562 xa (gO 11 [vi (0), vi (0), .ref q1, vi (0), .ref q10, .ref q21, .ref q34, .ref q49, .ref q66, .ref q85, .ref q106, vi (0), .ref q129, .ref q154, .ref q181, .ref q210, .ref q241, .ref q274, .ref q309, .ref q346, vi (0), .ref q385, vi (0), .ref q426, .ref q469, .ref q514, .ref q561, vi (0)]) := ⟨_, rfl⟩
  rw [← egh586]
  have h587 : gh586 q1 = some (gI 0 8 (fun _ => 0)) := by rw [egh586, gset_ne (gne h563 h583 (by simp))]; exact h563
  have h588 : gh586 q10 = some (gI 1 14 (fun _ => 0)) := by rw [egh586, gset_ne (gne h564 h583 (by simp))]; exact h564
  have h589 : gh586 q21 = some (gI 1 14 (fun _ => 0)) := by rw [egh586, gset_ne (gne h565 h583 (by simp))]; exact h565
  have h590 : gh586 q34 = some (gI 1 14 (fun _ => 0)) := by rw [egh586, gset_ne (gne h566 h583 (by simp))]; exact h566
  have h591 : gh586 q49 = some (gI 1 14 (fun _ => 0)) := by rw [egh586, gset_ne (gne h567 h583 (by simp))]; exact h567
  have h592 : gh586 q66 = some (gI 1 84 (fun _ => 0)) := by rw [egh586, gset_ne (gne h568 h583 (by simp))]; exact h568
  have h593 : gh586 q85 = some (gI 1 84 (fun _ => 0)) := by rw [egh586, gset_ne (gne h569 h583 (by simp))]; exact h569
  have h594 : gh586 q106 = some (gI 0 672 (fun _ => 0)) := by rw [egh586, gset_ne (gne h570 h583 (by simp))]; exact h570
  have h595 : gh586 q129 = some (gI 1 4 (fun _ => 0)) := by rw [egh586, gset_ne (gne h571 h583 (by simp))]; exact h571
  have h596 : gh586 q154 = some (gI 1 4 (fun _ => 0)) := by rw [egh586, gset_ne (gne h572 h583 (by simp))]; exact h572
  have h597 : gh586 q181 = some (gI 1 4 (fun _ => 0)) := by rw [egh586, gset_ne (gne h573 h583 (by simp))]; exact h573
  have h598 : gh586 q210 = some (gI 1 14 (fun _ => 0)) := by rw [egh586, gset_ne (gne h574 h583 (by simp))]; exact h574
  have h599 : gh586 q241 = some (gI 1 14 (fun _ => 0)) := by rw [egh586, gset_ne (gne h575 h583 (by simp))]; exact h575
  have h600 : gh586 q274 = some (gI 1 14 (fun _ => 0)) := by rw [egh586, gset_ne (gne h576 h583 (by simp))]; exact h576
  have h601 : gh586 q309 = some (gI 0 960 (fun _ => 0)) := by rw [egh586, gset_ne (gne h577 h583 (by simp))]; exact h577
  have h602 : gh586 q346 = some (gI 1 56 (fun _ => 0)) := by rw [egh586, gset_ne (gne h578 h583 (by simp))]; exact h578
  have h603 : gh586 q385 = some (gI 1 4 (fun _ => 0)) := by rw [egh586, gset_ne (gne h579 h583 (by simp))]; exact h579
  have h604 : gh586 q426 = some (gI 1 5 (fun _ => 0)) := by rw [egh586, gset_ne (gne h580 h583 (by simp))]; exact h580
  have h605 : gh586 q469 = some (gI 1 5 (fun _ => 0)) := by rw [egh586, gset_ne (gne h581 h583 (by simp))]; exact h581
  have h606 : gh586 q514 = some (gI 1 70 (fun _ => 0)) := by rw [egh586, gset_ne (gne h582 h583 (by simp))]; exact h582
  have h607 : gh586 q561 = some (gI 1 280 (fun _ => 0)) := by rw [egh586, gset_ne (gne h584 h583 (by simp))]; exact h584
  have h608 : gh586 xa = some (gO 11 [vi (0), vi (0), .ref q1, vi (0), .ref q10, .ref q21, .ref q34, .ref q49, .ref q66, .ref q85, .ref q106, vi (0), .ref q129, .ref q154, .ref q181, .ref q210, .ref q241, .ref q274, .ref q309, .ref q346, vi (0), .ref q385, vi (0), .ref q426, .ref q469, .ref q514, .ref q561, vi (0)]) := by rw [egh586]; exact gset_eq
  have Rk609 := Rk585.put pc0_k585 (gO 11 [vi (0), vi (0), .ref q1, vi (0), .ref q10, .ref q21, .ref q34, .ref q49, .ref q66, .ref q85, .ref q106, vi (0), .ref q129, .ref q154, .ref q181, .ref q210, .ref q241, .ref q274, .ref q309, .ref q346, vi (0), .ref q385, vi (0), .ref q426, .ref q469, .ref q514, .ref q561, vi (0)])
  obtain ⟨ctk609, ectk609⟩ : ∃ x, x = cup ctk585 (0, 0, 0) (gO 11 [vi (0), vi (0), .ref q1, vi (0), .ref q10, .ref q21, .ref q34, .ref q49, .ref q66, .ref q85, .ref q106, vi (0), .ref q129, .ref q154, .ref q181, .ref q210, .ref q241, .ref q274, .ref q309, .ref q346, vi (0), .ref q385, vi (0), .ref q426, .ref q469, .ref q514, .ref q561, vi (0)]) := ⟨_, rfl⟩
  rw [pa0_k585, ← ectk609, ← egh586] at Rk609
  have pa0_k609 := pa0_k585
  have pc0_k609 : ctk609 (0, 0, 0) = some (gO 11 [vi (0), vi (0), .ref q1, vi (0), .ref q10, .ref q21, .ref q34, .ref q49, .ref q66, .ref q85, .ref q106, vi (0), .ref q129, .ref q154, .ref q181, .ref q210, .ref q241, .ref q274, .ref q309, .ref q346, vi (0), .ref q385, vi (0), .ref q426, .ref q469, .ref q514, .ref q561, vi (0)]) := by rw [ectk609, cup_eq]
  have pa1_k609 := pa1_k585
  have pc1_k609 : ctk609 (1, 2, 0) = some (gI 0 8 (fun _ => 0)) := by rw [ectk609, cup_ne (by simp)]; exact pc1_k585
  have pa2_k609 := pa2_k585
  have pc2_k609 : ctk609 (1, 4, 0) = some (gI 1 14 (fun _ => 0)) := by rw [ectk609, cup_ne (by simp)]; exact pc2_k585
  have pa3_k609 := pa3_k585
  have pc3_k609 : ctk609 (1, 5, 0) = some (gI 1 14 (fun _ => 0)) := by rw [ectk609, cup_ne (by simp)]; exact pc3_k585
  have pa4_k609 := pa4_k585
  have pc4_k609 : ctk609 (1, 6, 0) = some (gI 1 14 (fun _ => 0)) := by rw [ectk609, cup_ne (by simp)]; exact pc4_k585
  have pa5_k609 := pa5_k585
  have pc5_k609 : ctk609 (1, 7, 0) = some (gI 1 14 (fun _ => 0)) := by rw [ectk609, cup_ne (by simp)]; exact pc5_k585
  have pa6_k609 := pa6_k585
  have pc6_k609 : ctk609 (1, 8, 0) = some (gI 1 84 (fun _ => 0)) := by rw [ectk609, cup_ne (by simp)]; exact pc6_k585
  have pa7_k609 := pa7_k585
  have pc7_k609 : ctk609 (1, 9, 0) = some (gI 1 84 (fun _ => 0)) := by rw [ectk609, cup_ne (by simp)]; exact pc7_k585
  have pa8_k609 := pa8_k585
  have pc8_k609 : ctk609 (1, 10, 0) = some (gI 0 672 (fun _ => 0)) := by rw [ectk609, cup_ne (by simp)]; exact pc8_k585
  have pa9_k609 := pa9_k585
  have pc9_k609 : ctk609 (1, 12, 0) = some (gI 1 4 (fun _ => 0)) := by rw [ectk609, cup_ne (by simp)]; exact pc9_k585
  have pa10_k609 := pa10_k585
  have pc10_k609 : ctk609 (1, 13, 0) = some (gI 1 4 (fun _ => 0)) := by rw [ectk609, cup_ne (by simp)]; exact pc10_k585
  have pa11_k609 := pa11_k585
  have pc11_k609 : ctk609 (1, 14, 0) = some (gI 1 4 (fun _ => 0)) := by rw [ectk609, cup_ne (by simp)]; exact pc11_k585
  have pa12_k609 := pa12_k585
  have pc12_k609 : ctk609 (1, 15, 0) = some (gI 1 14 (fun _ => 0)) := by rw [ectk609, cup_ne (by simp)]; exact pc12_k585
  have pa13_k609 := pa13_k585
  have pc13_k609 : ctk609 (1, 16, 0) = some (gI 1 14 (fun _ => 0)) := by rw [ectk609, cup_ne (by simp)]; exact pc13_k585
  have pa14_k609 := pa14_k585
  have pc14_k609 : ctk609 (1, 17, 0) = some (gI 1 14 (fun _ => 0)) := by rw [ectk609, cup_ne (by simp)]; exact pc14_k585
  have pa15_k609 := pa15_k585
  have pc15_k609 : ctk609 (1, 18, 0) = some (gI 0 960 (fun _ => 0)) := by rw [ectk609, cup_ne (by simp)]; exact pc15_k585
  have pa16_k609 := pa16_k585
  have pc16_k609 : ctk609 (1, 19, 0) = some (gI 1 56 (fun _ => 0)) := by rw [ectk609, cup_ne (by simp)]; exact pc16_k585
  have pa17_k609 := pa17_k585
  have pc17_k609 : ctk609 (1, 21, 0) = some (gI 1 4 (fun _ => 0)) := by rw [ectk609, cup_ne (by simp)]; exact pc17_k585
  have pa18_k609 := pa18_k585
  have pc18_k609 : ctk609 (1, 23, 0) = some (gI 1 5 (fun _ => 0)) := by rw [ectk609, cup_ne (by simp)]; exact pc18_k585
  have pa19_k609 := pa19_k585
  have pc19_k609 : ctk609 (1, 24, 0) = some (gI 1 5 (fun _ => 0)) := by rw [ectk609, cup_ne (by simp)]; exact pc19_k585
  have pa20_k609 := pa20_k585
  have pc20_k609 : ctk609 (1, 25, 0) = some (gI 1 70 (fun _ => 0)) := by rw [ectk609, cup_ne (by simp)]; exact pc20_k585
  have pa21_k609 := pa21_k585
  have pc21_k609 : ctk609 (1, 26, 0) = some (gI 1 280 (fun _ => 0)) := by rw [ectk609, cup_ne (by simp)]; exact pc21_k585
  have frk609 : ∀ t : Tg, (2 ≤ t.1) → ctk609 t = ct t ∧ adk585 t = ad t := fun t ht => by
    have e0 : t ≠ (0, 0, 0) := fun e => by rw [e] at ht; simp only at ht; omega
    exact ⟨(show ctk609 t = ctk585 t by rw [ectk609, cup_ne e0]).trans (frk585 t ht).1, (frk585 t ht).2⟩
  refine g_vret hC hq dX7_init_169 (by decide) (by decide) ⟨rfl, adk585, ctk609, Rk609, ⟨?_, fun k hk hm => ?_⟩, frk609, by rw [pa0_k609]; exact pa0_0.symm⟩
  · rw [pc0_k609, ← pa1_k609, ← pa2_k609, ← pa3_k609, ← pa4_k609, ← pa5_k609, ← pa6_k609, ← pa7_k609, ← pa8_k609, ← pa9_k609, ← pa10_k609, ← pa11_k609, ← pa12_k609, ← pa13_k609, ← pa14_k609, ← pa15_k609, ← pa16_k609, ← pa17_k609, ← pa18_k609, ← pa19_k609, ← pa20_k609, ← pa21_k609]; rfl
  · match k, hk, hm with
    | 0, _, hm => exact absurd hm (by decide)
    | 1, _, hm => exact absurd hm (by decide)
    | 2, _, _ => exact pc1_k609
    | 3, _, hm => exact absurd hm (by decide)
    | 4, _, _ => exact pc2_k609
    | 5, _, _ => exact pc3_k609
    | 6, _, _ => exact pc4_k609
    | 7, _, _ => exact pc5_k609
    | 8, _, _ => exact pc6_k609
    | 9, _, _ => exact pc7_k609
    | 10, _, _ => exact pc8_k609
    | 11, _, hm => exact absurd hm (by decide)
    | 12, _, _ => exact pc9_k609
    | 13, _, _ => exact pc10_k609
    | 14, _, _ => exact pc11_k609
    | 15, _, _ => exact pc12_k609
    | 16, _, _ => exact pc13_k609
    | 17, _, _ => exact pc14_k609
    | 18, _, _ => exact pc15_k609
    | 19, _, _ => exact pc16_k609
    | 20, _, hm => exact absurd hm (by decide)
    | 21, _, _ => exact pc17_k609
    | 22, _, hm => exact absurd hm (by decide)
    | 23, _, _ => exact pc18_k609
    | 24, _, _ => exact pc19_k609
    | 25, _, _ => exact pc20_k609
    | 26, _, _ => exact pc21_k609
    | 27, _, hm => exact absurd hm (by decide)
    | j + 28, hk, _ => omega

end C28
