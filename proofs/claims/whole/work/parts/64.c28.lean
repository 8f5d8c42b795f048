/-! the constructors of the class and of the reference -/
section C28
set_option maxHeartbeats 4000000 in
set_option maxRecDepth 100000 in
theorem kX6_init {l : Launch} (hl : l.stackTraces = false) {D : gD} {base : Nat}  {ad : Tg → Nat} {z : Nat → Int} {F : Nat → Nat → Int} {ct : Tg → Option gC} (z0 : z 0 = 0) (z1 : z 1 = 0) (z3 : z 3 = 0) (z11 : z 11 = 0) (z22 : z 22 = 0) (hx : ct (2, 0, 0) = some (gO 10 [.null, .null, .null, .null, vi 0, vi 0, vi 0, vi 0])) (gh : gH) (hR : cR ad ct gh) : gM l D base yX6_init cX6_init 1 none 3 53 5 43 [.ref (ad (2, 0, 0))] gh (fun r gh' => r = none ∧ xOK ad ct z F gh') gNo := by
  refine gM.of hl (by decide) (by simp [Value.category]) (Nat.le_of_ble_eq_true rfl) [some (.ref (ad (2, 0, 0)))] rfl (fun x hC hq => ?_)
  obtain ⟨xa, pa0_0⟩ : ∃ x, ad (2, 0, 0) = x := ⟨_, rfl⟩
  rw [pa0_0]
  have pc0_0 := hx
  have fr0 : ∀ t : Tg, (t.1 ≤ 1 ∨ 24 ≤ t.1) → ct t = ct t ∧ ad t = ad t := fun _ _ => ⟨rfl, rfl⟩
  have h00 : gh xa = some (gO 10 [.null, .null, .null, .null, vi (0), vi (0), vi (0), vi (0)]) := by have h9_ := hR.1 _ _ hx; rw [pa0_0] at h9_; exact h9_
  refine g_ald_n hC dX6_init_0 rfl ?_
  refine g_objInit hC dX6_init_1 go_RX6 go_i go_c (by decide) (by decide) ?_
  refine g_ald_n hC dX6_init_4 rfl ?_
  refine g_new hC dX6_init_5 gn_RX6_7 (by decide) (by decide) (fun q1 hnq1 => ?_)
  obtain ⟨gh2, egh2⟩ : ∃ g_, g_ = gset gh q1 (gO 1 [.null, vi (0), vi (0), vi (0)]) := ⟨_, rfl⟩
  rw [← egh2]
  have h3 : gh2 xa = some (gO 10 [.null, .null, .null, .null, vi (0), vi (0), vi (0), vi (0)]) := by rw [egh2, gset_ne (fun z => by rw [z, hnq1] at h00; cases h00)]; exact h00
  have h4 : gh2 q1 = some (gO 1 [.null, vi (0), vi (0), vi (0)]) := by rw [egh2]; exact gset_eq
  have Rk5 := hR.new (t := (2, 1, 0)) hnq1 (gO 1 [.null, vi (0), vi (0), vi (0)])
  obtain ⟨adk5, eadk5⟩ : ∃ x, x = aup ad (2, 1, 0) q1 := ⟨_, rfl⟩
  obtain ⟨ctk5, ectk5⟩ : ∃ x, x = cup ct (2, 1, 0) (gO 1 [.null, vi (0), vi (0), vi (0)]) := ⟨_, rfl⟩
  rw [← eadk5, ← ectk5, ← egh2] at Rk5
  have pa0_k5 : adk5 (2, 0, 0) = xa := by rw [eadk5, aup_ne (by simp)]; exact pa0_0
  have pc0_k5 : ctk5 (2, 0, 0) = some (gO 10 [.null, .null, .null, .null, vi (0), vi (0), vi (0), vi (0)]) := by rw [ectk5, cup_ne (by simp)]; exact pc0_0
  have pa1_k5 : adk5 (2, 1, 0) = q1 := by rw [eadk5, aup_eq]
  have pc1_k5 : ctk5 (2, 1, 0) = some (gO 1 [.null, vi (0), vi (0), vi (0)]) := by rw [ectk5, cup_eq]
  have frk5 : ∀ t : Tg, (t.1 ≤ 1 ∨ 24 ≤ t.1) → ctk5 t = ct t ∧ adk5 t = ad t := fun t ht => by
    have e0 : t ≠ (2, 1, 0) := fun e => by rw [e] at ht; simp only at ht; omega
    exact ⟨(show ctk5 t = ct t by rw [ectk5, cup_ne e0]).trans (fr0 t ht).1, (show adk5 t = ad t by rw [eadk5, aup_ne e0]).trans (fr0 t ht).2⟩
  refine g_dup hC dX6_init_8 rfl ?_
  refine g_callI (rest := [.ref q1, .ref xa]) hC (kJ4_init hl  gh2 h4) gc_RX6_9 rfl ⟨by decide, by decide⟩ ⟨by decide, by decide⟩ (Nat.le_of_ble_eq_true rfl) rfl dX6_init_9 (fun r gz hp => ?_)
  obtain ⟨rfl, qb, hnqb, hgh⟩ := hp
  rw [hgh]
  clear hgh
  obtain ⟨gh6, egh6⟩ : ∃ g_, g_ = gset gh2 qb (gI 2 16 (fun _ => 0)) := ⟨_, rfl⟩
  rw [← egh6]
  have h7 : gh6 xa = some (gO 10 [.null, .null, .null, .null, vi (0), vi (0), vi (0), vi (0)]) := by rw [egh6, gset_ne (fun z => by rw [z, hnqb] at h3; cases h3)]; exact h3
  have h8 : gh6 q1 = some (gO 1 [.null, vi (0), vi (0), vi (0)]) := by rw [egh6, gset_ne (fun z => by rw [z, hnqb] at h4; cases h4)]; exact h4
  have h9 : gh6 qb = some (gI 2 16 (fun _ => 0)) := by rw [egh6]; exact gset_eq
  have Rk10 := Rk5.new (t := (2, 2, 0)) hnqb (gI 2 16 (fun _ => 0))
  obtain ⟨adk10, eadk10⟩ : ∃ x, x = aup adk5 (2, 2, 0) qb := ⟨_, rfl⟩
  obtain ⟨ctk10, ectk10⟩ : ∃ x, x = cup ctk5 (2, 2, 0) (gI 2 16 (fun _ => 0)) := ⟨_, rfl⟩
  rw [← eadk10, ← ectk10, ← egh6] at Rk10
  have pa0_k10 : adk10 (2, 0, 0) = xa := by rw [eadk10, aup_ne (by simp)]; exact pa0_k5
  have pc0_k10 : ctk10 (2, 0, 0) = some (gO 10 [.null, .null, .null, .null, vi (0), vi (0), vi (0), vi (0)]) := by rw [ectk10, cup_ne (by simp)]; exact pc0_k5
  have pa1_k10 : adk10 (2, 1, 0) = q1 := by rw [eadk10, aup_ne (by simp)]; exact pa1_k5
  have pc1_k10 : ctk10 (2, 1, 0) = some (gO 1 [.null, vi (0), vi (0), vi (0)]) := by rw [ectk10, cup_ne (by simp)]; exact pc1_k5
  have pa2_k10 : adk10 (2, 2, 0) = qb := by rw [eadk10, aup_eq]
  have pc2_k10 : ctk10 (2, 2, 0) = some (gI 2 16 (fun _ => 0)) := by rw [ectk10, cup_eq]
  have frk10 : ∀ t : Tg, (t.1 ≤ 1 ∨ 24 ≤ t.1) → ctk10 t = ct t ∧ adk10 t = ad t := fun t ht => by
    have e0 : t ≠ (2, 2, 0) := fun e => by rw [e] at ht; simp only at ht; omega
    exact ⟨(show ctk10 t = ctk5 t by rw [ectk10, cup_ne e0]).trans (frk5 t ht).1, (show adk10 t = adk5 t by rw [eadk10, aup_ne e0]).trans (frk5 t ht).2⟩
  obtain ⟨gh11, egh11⟩ : ∃ g_, g_ = gset gh6 q1 (gO 1 [.ref qb, vi (0), vi (0), vi (0)]) := ⟨_, rfl⟩
  rw [← egh11]
  have h12 : gh11 xa = some (gO 10 [.null, .null, .null, .null, vi (0), vi (0), vi (0), vi (0)]) := by rw [egh11, gset_ne (gne h7 h8 (by simp))]; exact h7
  have h13 : gh11 qb = some (gI 2 16 (fun _ => 0)) := by rw [egh11, gset_ne (gne h9 h8 (by simp))]; exact h9
  have h14 : gh11 q1 = some (gO 1 [.ref qb, vi (0), vi (0), vi (0)]) := by rw [egh11]; exact gset_eq
  have Rk15 := Rk10.put pc1_k10 (gO 1 [.ref qb, vi (0), vi (0), vi (0)])
  obtain ⟨ctk15, ectk15⟩ : ∃ x, x = cup ctk10 (2, 1, 0) (gO 1 [.ref qb, vi (0), vi (0), vi (0)]) := ⟨_, rfl⟩
  rw [pa1_k10, ← ectk15, ← egh11] at Rk15
  have pa0_k15 := pa0_k10
  have pc0_k15 : ctk15 (2, 0, 0) = some (gO 10 [.null, .null, .null, .null, vi (0), vi (0), vi (0), vi (0)]) := by rw [ectk15, cup_ne (by simp)]; exact pc0_k10
  have pa1_k15 := pa1_k10
  have pc1_k15 : ctk15 (2, 1, 0) = some (gO 1 [.ref qb, vi (0), vi (0), vi (0)]) := by rw [ectk15, cup_eq]
  have pa2_k15 := pa2_k10
  have pc2_k15 : ctk15 (2, 2, 0) = some (gI 2 16 (fun _ => 0)) := by rw [ectk15, cup_ne (by simp)]; exact pc2_k10
  have frk15 : ∀ t : Tg, (t.1 ≤ 1 ∨ 24 ≤ t.1) → ctk15 t = ct t ∧ adk10 t = ad t := fun t ht => by
    have e0 : t ≠ (2, 1, 0) := fun e => by rw [e] at ht; simp only at ht; omega
    exact ⟨(show ctk15 t = ctk10 t by rw [ectk15, cup_ne e0]).trans (frk10 t ht).1, (frk10 t ht).2⟩
  refine gV.eqs (st' := [.ref q1, .ref xa]) rfl rfl rfl ?_
  refine g_putF hC hq (fs' := [.ref q1, .null, .null, .null, vi (0), vi (0), vi (0), vi (0)]) dX6_init_12 gp_RX6_10 h12 ⟨rfl, rfl⟩ rfl (Nat.le_of_ble_eq_true rfl) ?_
  obtain ⟨gh16, egh16⟩ : ∃ g_, g_ = gset gh11 xa (gO 10 [.ref q1, .null, .null, .null, vi (0), vi (0), vi (0), vi (0)]) := ⟨_, rfl⟩
  rw [← egh16]
  have h17 : gh16 qb = some (gI 2 16 (fun _ => 0)) := by rw [egh16, gset_ne (gne h13 h12 (by simp))]; exact h13
  have h18 : gh16 q1 = some (gO 1 [.ref qb, vi (0), vi (0), vi (0)]) := by rw [egh16, gset_ne (gne h14 h12 (by simp))]; exact h14
  have h19 : gh16 xa = some (gO 10 [.ref q1, .null, .null, .null, vi (0), vi (0), vi (0), vi (0)]) := by rw [egh16]; exact gset_eq
  have Rk20 := Rk15.put pc0_k15 (gO 10 [.ref q1, .null, .null, .null, vi (0), vi (0), vi (0), vi (0)])
  obtain ⟨ctk20, ectk20⟩ : ∃ x, x = cup ctk15 (2, 0, 0) (gO 10 [.ref q1, .null, .null, .null, vi (0), vi (0), vi (0), vi (0)]) := ⟨_, rfl⟩
  rw [pa0_k15, ← ectk20, ← egh16] at Rk20
  have pa0_k20 := pa0_k15
  have pc0_k20 : ctk20 (2, 0, 0) = some (gO 10 [.ref q1, .null, .null, .null, vi (0), vi (0), vi (0), vi (0)]) := by rw [ectk20, cup_eq]
  have pa1_k20 := pa1_k15
  have pc1_k20 : ctk20 (2, 1, 0) = some (gO 1 [.ref qb, vi (0), vi (0), vi (0)]) := by rw [ectk20, cup_ne (by simp)]; exact pc1_k15
  have pa2_k20 := pa2_k15
  have pc2_k20 : ctk20 (2, 2, 0) = some (gI 2 16 (fun _ => 0)) := by rw [ectk20, cup_ne (by simp)]; exact pc2_k15
  have frk20 : ∀ t : Tg, (t.1 ≤ 1 ∨ 24 ≤ t.1) → ctk20 t = ct t ∧ adk10 t = ad t := fun t ht => by
    have e0 : t ≠ (2, 0, 0) := fun e => by rw [e] at ht; simp only at ht; omega
    exact ⟨(show ctk20 t = ctk15 t by rw [ectk20, cup_ne e0]).trans (frk15 t ht).1, (frk15 t ht).2⟩
  refine g_ald_n hC dX6_init_15 rfl ?_
  refine g_bipush (z := 14) hC dX6_init_16 rfl ?_
  refine g_newR (n := 14) (kd := 4) hC dX6_init_18 ga_RX6_16.1 ga_RX6_16.2 (by decide) rfl rfl (by decide) (by decide) (by decide) (fun q21 hnq21 => ?_)
  obtain ⟨gh22, egh22⟩ : ∃ g_, g_ = gset gh16 q21 (gR 4 14 (fun _ => none)) := ⟨_, rfl⟩
  rw [← egh22]
  have h23 : gh22 qb = some (gI 2 16 (fun _ => 0)) := by rw [egh22, gset_ne (fun z => by rw [z, hnq21] at h17; cases h17)]; exact h17
  have h24 : gh22 q1 = some (gO 1 [.ref qb, vi (0), vi (0), vi (0)]) := by rw [egh22, gset_ne (fun z => by rw [z, hnq21] at h18; cases h18)]; exact h18
  have h25 : gh22 xa = some (gO 10 [.ref q1, .null, .null, .null, vi (0), vi (0), vi (0), vi (0)]) := by rw [egh22, gset_ne (fun z => by rw [z, hnq21] at h19; cases h19)]; exact h19
  have h26 : gh22 q21 = some (gR 4 14 (fun _ => none)) := by rw [egh22]; exact gset_eq
  have Rk27 := Rk20.new (t := (2, 3, 0)) hnq21 (gR 4 14 (fun _ => none))
  obtain ⟨adk27, eadk27⟩ : ∃ x, x = aup adk10 (2, 3, 0) q21 := ⟨_, rfl⟩
  obtain ⟨ctk27, ectk27⟩ : ∃ x, x = cup ctk20 (2, 3, 0) (gR 4 14 (fun _ => none)) := ⟨_, rfl⟩
  rw [← eadk27, ← ectk27, ← egh22] at Rk27
  have pa0_k27 : adk27 (2, 0, 0) = xa := by rw [eadk27, aup_ne (by simp)]; exact pa0_k20
  have pc0_k27 : ctk27 (2, 0, 0) = some (gO 10 [.ref q1, .null, .null, .null, vi (0), vi (0), vi (0), vi (0)]) := by rw [ectk27, cup_ne (by simp)]; exact pc0_k20
  have pa1_k27 : adk27 (2, 1, 0) = q1 := by rw [eadk27, aup_ne (by simp)]; exact pa1_k20
  have pc1_k27 : ctk27 (2, 1, 0) = some (gO 1 [.ref qb, vi (0), vi (0), vi (0)]) := by rw [ectk27, cup_ne (by simp)]; exact pc1_k20
  have pa2_k27 : adk27 (2, 2, 0) = qb := by rw [eadk27, aup_ne (by simp)]; exact pa2_k20
  have pc2_k27 : ctk27 (2, 2, 0) = some (gI 2 16 (fun _ => 0)) := by rw [ectk27, cup_ne (by simp)]; exact pc2_k20
  have pa3_k27 : adk27 (2, 3, 0) = q21 := by rw [eadk27, aup_eq]
  have pc3_k27 : ctk27 (2, 3, 0) = some (gR 4 14 (fun _ => none)) := by rw [ectk27, cup_eq]
  have frk27 : ∀ t : Tg, (t.1 ≤ 1 ∨ 24 ≤ t.1) → ctk27 t = ct t ∧ adk27 t = ad t := fun t ht => by
    have e0 : t ≠ (2, 3, 0) := fun e => by rw [e] at ht; simp only at ht; omega
    exact ⟨(show ctk27 t = ctk20 t by rw [ectk27, cup_ne e0]).trans (frk20 t ht).1, (show adk27 t = adk10 t by rw [eadk27, aup_ne e0]).trans (frk20 t ht).2⟩
  refine g_putF hC hq (fs' := [.ref q1, .ref q21, .null, .null, vi (0), vi (0), vi (0), vi (0)]) dX6_init_21 gp_RX6_18 h25 ⟨rfl, rfl⟩ rfl (Nat.le_of_ble_eq_true rfl) ?_
  obtain ⟨gh28, egh28⟩ : ∃ g_, g_ = gset gh22 xa (gO 10 [.ref q1, .ref q21, .null, .null, vi (0), vi (0), vi (0), vi (0)]) := ⟨_, rfl⟩
  rw [← egh28]
  have h29 : gh28 qb = some (gI 2 16 (fun _ => 0)) := by rw [egh28, gset_ne (gne h23 h25 (by simp))]; exact h23
  have h30 : gh28 q1 = some (gO 1 [.ref qb, vi (0), vi (0), vi (0)]) := by rw [egh28, gset_ne (gne h24 h25 (by simp))]; exact h24
  have h31 : gh28 q21 = some (gR 4 14 (fun _ => none)) := by rw [egh28, gset_ne (gne h26 h25 (by simp))]; exact h26
  have h32 : gh28 xa = some (gO 10 [.ref q1, .ref q21, .null, .null, vi (0), vi (0), vi (0), vi (0)]) := by rw [egh28]; exact gset_eq
  have Rk33 := Rk27.put pc0_k27 (gO 10 [.ref q1, .ref q21, .null, .null, vi (0), vi (0), vi (0), vi (0)])
  obtain ⟨ctk33, ectk33⟩ : ∃ x, x = cup ctk27 (2, 0, 0) (gO 10 [.ref q1, .ref q21, .null, .null, vi (0), vi (0), vi (0), vi (0)]) := ⟨_, rfl⟩
  rw [pa0_k27, ← ectk33, ← egh28] at Rk33
  have pa0_k33 := pa0_k27
  have pc0_k33 : ctk33 (2, 0, 0) = some (gO 10 [.ref q1, .ref q21, .null, .null, vi (0), vi (0), vi (0), vi (0)]) := by rw [ectk33, cup_eq]
  have pa1_k33 := pa1_k27
  have pc1_k33 : ctk33 (2, 1, 0) = some (gO 1 [.ref qb, vi (0), vi (0), vi (0)]) := by rw [ectk33, cup_ne (by simp)]; exact pc1_k27
  have pa2_k33 := pa2_k27
  have pc2_k33 : ctk33 (2, 2, 0) = some (gI 2 16 (fun _ => 0)) := by rw [ectk33, cup_ne (by simp)]; exact pc2_k27
  have pa3_k33 := pa3_k27
  have pc3_k33 : ctk33 (2, 3, 0) = some (gR 4 14 (fun _ => none)) := by rw [ectk33, cup_ne (by simp)]; exact pc3_k27
  have frk33 : ∀ t : Tg, (t.1 ≤ 1 ∨ 24 ≤ t.1) → ctk33 t = ct t ∧ adk27 t = ad t := fun t ht => by
    have e0 : t ≠ (2, 0, 0) := fun e => by rw [e] at ht; simp only at ht; omega
    exact ⟨(show ctk33 t = ctk27 t by rw [ectk33, cup_ne e0]).trans (frk27 t ht).1, (frk27 t ht).2⟩
  refine g_ald_n hC dX6_init_24 rfl ?_
  refine g_iconst hC dX6_init_25 rfl ?_
  refine g_newR (n := 4) (kd := 5) hC dX6_init_26 ga_RX6_22.1 ga_RX6_22.2 (by decide) rfl rfl (by decide) (by decide) (by decide) (fun q34 hnq34 => ?_)
  obtain ⟨gh35, egh35⟩ : ∃ g_, g_ = gset gh28 q34 (gR 5 4 (fun _ => none)) := ⟨_, rfl⟩
  rw [← egh35]
  have h36 : gh35 qb = some (gI 2 16 (fun _ => 0)) := by rw [egh35, gset_ne (fun z => by rw [z, hnq34] at h29; cases h29)]; exact h29
  have h37 : gh35 q1 = some (gO 1 [.ref qb, vi (0), vi (0), vi (0)]) := by rw [egh35, gset_ne (fun z => by rw [z, hnq34] at h30; cases h30)]; exact h30
  have h38 : gh35 q21 = some (gR 4 14 (fun _ => none)) := by rw [egh35, gset_ne (fun z => by rw [z, hnq34] at h31; cases h31)]; exact h31
  have h39 : gh35 xa = some (gO 10 [.ref q1, .ref q21, .null, .null, vi (0), vi (0), vi (0), vi (0)]) := by rw [egh35, gset_ne (fun z => by rw [z, hnq34] at h32; cases h32)]; exact h32
  have h40 : gh35 q34 = some (gR 5 4 (fun _ => none)) := by rw [egh35]; exact gset_eq
  have Rk41 := Rk33.new (t := (2, 4, 0)) hnq34 (gR 5 4 (fun _ => none))
  obtain ⟨adk41, eadk41⟩ : ∃ x, x = aup adk27 (2, 4, 0) q34 := ⟨_, rfl⟩
  obtain ⟨ctk41, ectk41⟩ : ∃ x, x = cup ctk33 (2, 4, 0) (gR 5 4 (fun _ => none)) := ⟨_, rfl⟩
  rw [← eadk41, ← ectk41, ← egh35] at Rk41
  have pa0_k41 : adk41 (2, 0, 0) = xa := by rw [eadk41, aup_ne (by simp)]; exact pa0_k33
  have pc0_k41 : ctk41 (2, 0, 0) = some (gO 10 [.ref q1, .ref q21, .null, .null, vi (0), vi (0), vi (0), vi (0)]) := by rw [ectk41, cup_ne (by simp)]; exact pc0_k33
  have pa1_k41 : adk41 (2, 1, 0) = q1 := by rw [eadk41, aup_ne (by simp)]; exact pa1_k33
  have pc1_k41 : ctk41 (2, 1, 0) = some (gO 1 [.ref qb, vi (0), vi (0), vi (0)]) := by rw [ectk41, cup_ne (by simp)]; exact pc1_k33
  have pa2_k41 : adk41 (2, 2, 0) = qb := by rw [eadk41, aup_ne (by simp)]; exact pa2_k33
  have pc2_k41 : ctk41 (2, 2, 0) = some (gI 2 16 (fun _ => 0)) := by rw [ectk41, cup_ne (by simp)]; exact pc2_k33
  have pa3_k41 : adk41 (2, 3, 0) = q21 := by rw [eadk41, aup_ne (by simp)]; exact pa3_k33
  have pc3_k41 : ctk41 (2, 3, 0) = some (gR 4 14 (fun _ => none)) := by rw [ectk41, cup_ne (by simp)]; exact pc3_k33
  have pa4_k41 : adk41 (2, 4, 0) = q34 := by rw [eadk41, aup_eq]
  have pc4_k41 : ctk41 (2, 4, 0) = some (gR 5 4 (fun _ => none)) := by rw [ectk41, cup_eq]
  have frk41 : ∀ t : Tg, (t.1 ≤ 1 ∨ 24 ≤ t.1) → ctk41 t = ct t ∧ adk41 t = ad t := fun t ht => by
    have e0 : t ≠ (2, 4, 0) := fun e => by rw [e] at ht; simp only at ht; omega
    exact ⟨(show ctk41 t = ctk33 t by rw [ectk41, cup_ne e0]).trans (frk33 t ht).1, (show adk41 t = adk27 t by rw [eadk41, aup_ne e0]).trans (frk33 t ht).2⟩
  refine g_putF hC hq (fs' := [.ref q1, .ref q21, .ref q34, .null, vi (0), vi (0), vi (0), vi (0)]) dX6_init_29 gp_RX6_24 h39 ⟨rfl, rfl⟩ rfl (Nat.le_of_ble_eq_true rfl) ?_
  obtain ⟨gh42, egh42⟩ : ∃ g_, g_ = gset gh35 xa (gO 10 [.ref q1, .ref q21, .ref q34, .null, vi (0), vi (0), vi (0), vi (0)]) := ⟨_, rfl⟩
  rw [← egh42]
  have h43 : gh42 qb = some (gI 2 16 (fun _ => 0)) := by rw [egh42, gset_ne (gne h36 h39 (by simp))]; exact h36
  have h44 : gh42 q1 = some (gO 1 [.ref qb, vi (0), vi (0), vi (0)]) := by rw [egh42, gset_ne (gne h37 h39 (by simp))]; exact h37
  have h45 : gh42 q21 = some (gR 4 14 (fun _ => none)) := by rw [egh42, gset_ne (gne h38 h39 (by simp))]; exact h38
  have h46 : gh42 q34 = some (gR 5 4 (fun _ => none)) := by rw [egh42, gset_ne (gne h40 h39 (by simp))]; exact h40
  have h47 : gh42 xa = some (gO 10 [.ref q1, .ref q21, .ref q34, .null, vi (0), vi (0), vi (0), vi (0)]) := by rw [egh42]; exact gset_eq
  have Rk48 := Rk41.put pc0_k41 (gO 10 [.ref q1, .ref q21, .ref q34, .null, vi (0), vi (0), vi (0), vi (0)])
  obtain ⟨ctk48, ectk48⟩ : ∃ x, x = cup ctk41 (2, 0, 0) (gO 10 [.ref q1, .ref q21, .ref q34, .null, vi (0), vi (0), vi (0), vi (0)]) := ⟨_, rfl⟩
  rw [pa0_k41, ← ectk48, ← egh42] at Rk48
  have pa0_k48 := pa0_k41
  have pc0_k48 : ctk48 (2, 0, 0) = some (gO 10 [.ref q1, .ref q21, .ref q34, .null, vi (0), vi (0), vi (0), vi (0)]) := by rw [ectk48, cup_eq]
  have pa1_k48 := pa1_k41
  have pc1_k48 : ctk48 (2, 1, 0) = some (gO 1 [.ref qb, vi (0), vi (0), vi (0)]) := by rw [ectk48, cup_ne (by simp)]; exact pc1_k41
  have pa2_k48 := pa2_k41
  have pc2_k48 : ctk48 (2, 2, 0) = some (gI 2 16 (fun _ => 0)) := by rw [ectk48, cup_ne (by simp)]; exact pc2_k41
  have pa3_k48 := pa3_k41
  have pc3_k48 : ctk48 (2, 3, 0) = some (gR 4 14 (fun _ => none)) := by rw [ectk48, cup_ne (by simp)]; exact pc3_k41
  have pa4_k48 := pa4_k41
  have pc4_k48 : ctk48 (2, 4, 0) = some (gR 5 4 (fun _ => none)) := by rw [ectk48, cup_ne (by simp)]; exact pc4_k41
  have frk48 : ∀ t : Tg, (t.1 ≤ 1 ∨ 24 ≤ t.1) → ctk48 t = ct t ∧ adk41 t = ad t := fun t ht => by
    have e0 : t ≠ (2, 0, 0) := fun e => by rw [e] at ht; simp only at ht; omega
    exact ⟨(show ctk48 t = ctk41 t by rw [ectk48, cup_ne e0]).trans (frk41 t ht).1, (frk41 t ht).2⟩
  refine g_ald_n hC dX6_init_32 rfl ?_
  refine g_iconst hC dX6_init_33 rfl ?_
  refine g_newR (n := 5) (kd := 6) hC dX6_init_34 ga_RX6_28.1 ga_RX6_28.2 (by decide) rfl rfl (by decide) (by decide) (by decide) (fun q49 hnq49 => ?_)
  obtain ⟨gh50, egh50⟩ : ∃ g_, g_ = gset gh42 q49 (gR 6 5 (fun _ => none)) := ⟨_, rfl⟩
  rw [← egh50]
  have h51 : gh50 qb = some (gI 2 16 (fun _ => 0)) := by rw [egh50, gset_ne (fun z => by rw [z, hnq49] at h43; cases h43)]; exact h43
  have h52 : gh50 q1 = some (gO 1 [.ref qb, vi (0), vi (0), vi (0)]) := by rw [egh50, gset_ne (fun z => by rw [z, hnq49] at h44; cases h44)]; exact h44
  have h53 : gh50 q21 = some (gR 4 14 (fun _ => none)) := by rw [egh50, gset_ne (fun z => by rw [z, hnq49] at h45; cases h45)]; exact h45
  have h54 : gh50 q34 = some (gR 5 4 (fun _ => none)) := by rw [egh50, gset_ne (fun z => by rw [z, hnq49] at h46; cases h46)]; exact h46
  have h55 : gh50 xa = some (gO 10 [.ref q1, .ref q21, .ref q34, .null, vi (0), vi (0), vi (0), vi (0)]) := by rw [egh50, gset_ne (fun z => by rw [z, hnq49] at h47; cases h47)]; exact h47
  have h56 : gh50 q49 = some (gR 6 5 (fun _ => none)) := by rw [egh50]; exact gset_eq
  have Rk57 := Rk48.new (t := (2, 5, 0)) hnq49 (gR 6 5 (fun _ => none))
  obtain ⟨adk57, eadk57⟩ : ∃ x, x = aup adk41 (2, 5, 0) q49 := ⟨_, rfl⟩
  obtain ⟨ctk57, ectk57⟩ : ∃ x, x = cup ctk48 (2, 5, 0) (gR 6 5 (fun _ => none)) := ⟨_, rfl⟩
  rw [← eadk57, ← ectk57, ← egh50] at Rk57
  have pa0_k57 : adk57 (2, 0, 0) = xa := by rw [eadk57, aup_ne (by simp)]; exact pa0_k48
  have pc0_k57 : ctk57 (2, 0, 0) = some (gO 10 [.ref q1, .ref q21, .ref q34, .null, vi (0), vi (0), vi (0), vi (0)]) := by rw [ectk57, cup_ne (by simp)]; exact pc0_k48
  have pa1_k57 : adk57 (2, 1, 0) = q1 := by rw [eadk57, aup_ne (by simp)]; exact pa1_k48
  have pc1_k57 : ctk57 (2, 1, 0) = some (gO 1 [.ref qb, vi (0), vi (0), vi (0)]) := by rw [ectk57, cup_ne (by simp)]; exact pc1_k48
  have pa2_k57 : adk57 (2, 2, 0) = qb := by rw [eadk57, aup_ne (by simp)]; exact pa2_k48
  have pc2_k57 : ctk57 (2, 2, 0) = some (gI 2 16 (fun _ => 0)) := by rw [ectk57, cup_ne (by simp)]; exact pc2_k48
  have pa3_k57 : adk57 (2, 3, 0) = q21 := by rw [eadk57, aup_ne (by simp)]; exact pa3_k48
  have pc3_k57 : ctk57 (2, 3, 0) = some (gR 4 14 (fun _ => none)) := by rw [ectk57, cup_ne (by simp)]; exact pc3_k48
  have pa4_k57 : adk57 (2, 4, 0) = q34 := by rw [eadk57, aup_ne (by simp)]; exact pa4_k48
  have pc4_k57 : ctk57 (2, 4, 0) = some (gR 5 4 (fun _ => none)) := by rw [ectk57, cup_ne (by simp)]; exact pc4_k48
  have pa5_k57 : adk57 (2, 5, 0) = q49 := by rw [eadk57, aup_eq]
  have pc5_k57 : ctk57 (2, 5, 0) = some (gR 6 5 (fun _ => none)) := by rw [ectk57, cup_eq]
  have frk57 : ∀ t : Tg, (t.1 ≤ 1 ∨ 24 ≤ t.1) → ctk57 t = ct t ∧ adk57 t = ad t := fun t ht => by
    have e0 : t ≠ (2, 5, 0) := fun e => by rw [e] at ht; simp only at ht; omega
    exact ⟨(show ctk57 t = ctk48 t by rw [ectk57, cup_ne e0]).trans (frk48 t ht).1, (show adk57 t = adk41 t by rw [eadk57, aup_ne e0]).trans (frk48 t ht).2⟩
  refine g_putF hC hq (fs' := [.ref q1, .ref q21, .ref q34, .ref q49, vi (0), vi (0), vi (0), vi (0)]) dX6_init_37 gp_RX6_30 h55 ⟨rfl, rfl⟩ rfl (Nat.le_of_ble_eq_true rfl) ?_
  obtain ⟨gh58, egh58⟩ : ∃ g_, g_ = gset gh50 xa (gO 10 [.ref q1, .ref q21, .ref q34, .ref q49, vi (0), vi (0), vi (0), vi (0)]) := ⟨_, rfl⟩
  rw [← egh58]
  have h59 : gh58 qb = some (gI 2 16 (fun _ => 0)) := by rw [egh58, gset_ne (gne h51 h55 (by simp))]; exact h51
  have h60 : gh58 q1 = some (gO 1 [.ref qb, vi (0), vi (0), vi (0)]) := by rw [egh58, gset_ne (gne h52 h55 (by simp))]; exact h52
  have h61 : gh58 q21 = some (gR 4 14 (fun _ => none)) := by rw [egh58, gset_ne (gne h53 h55 (by simp))]; exact h53
  have h62 : gh58 q34 = some (gR 5 4 (fun _ => none)) := by rw [egh58, gset_ne (gne h54 h55 (by simp))]; exact h54
  have h63 : gh58 q49 = some (gR 6 5 (fun _ => none)) := by rw [egh58, gset_ne (gne h56 h55 (by simp))]; exact h56
  have h64 : gh58 xa = some (gO 10 [.ref q1, .ref q21, .ref q34, .ref q49, vi (0), vi (0), vi (0), vi (0)]) := by rw [egh58]; exact gset_eq
  have Rk65 := Rk57.put pc0_k57 (gO 10 [.ref q1, .ref q21, .ref q34, .ref q49, vi (0), vi (0), vi (0), vi (0)])
  obtain ⟨ctk65, ectk65⟩ : ∃ x, x = cup ctk57 (2, 0, 0) (gO 10 [.ref q1, .ref q21, .ref q34, .ref q49, vi (0), vi (0), vi (0), vi (0)]) := ⟨_, rfl⟩
  rw [pa0_k57, ← ectk65, ← egh58] at Rk65
  have pa0_k65 := pa0_k57
  have pc0_k65 : ctk65 (2, 0, 0) = some (gO 10 [.ref q1, .ref q21, .ref q34, .ref q49, vi (0), vi (0), vi (0), vi (0)]) := by rw [ectk65, cup_eq]
  have pa1_k65 := pa1_k57
  have pc1_k65 : ctk65 (2, 1, 0) = some (gO 1 [.ref qb, vi (0), vi (0), vi (0)]) := by rw [ectk65, cup_ne (by simp)]; exact pc1_k57
  have pa2_k65 := pa2_k57
  have pc2_k65 : ctk65 (2, 2, 0) = some (gI 2 16 (fun _ => 0)) := by rw [ectk65, cup_ne (by simp)]; exact pc2_k57
  have pa3_k65 := pa3_k57
  have pc3_k65 : ctk65 (2, 3, 0) = some (gR 4 14 (fun _ => none)) := by rw [ectk65, cup_ne (by simp)]; exact pc3_k57
  have pa4_k65 := pa4_k57
  have pc4_k65 : ctk65 (2, 4, 0) = some (gR 5 4 (fun _ => none)) := by rw [ectk65, cup_ne (by simp)]; exact pc4_k57
  have pa5_k65 := pa5_k57
  have pc5_k65 : ctk65 (2, 5, 0) = some (gR 6 5 (fun _ => none)) := by rw [ectk65, cup_ne (by simp)]; exact pc5_k57
  have frk65 : ∀ t : Tg, (t.1 ≤ 1 ∨ 24 ≤ t.1) → ctk65 t = ct t ∧ adk57 t = ad t := fun t ht => by
    have e0 : t ≠ (2, 0, 0) := fun e => by rw [e] at ht; simp only at ht; omega
    exact ⟨(show ctk65 t = ctk57 t by rw [ectk65, cup_ne e0]).trans (frk57 t ht).1, (frk57 t ht).2⟩
  refine g_ald_n hC dX6_init_40 rfl ?_
  refine g_iconst hC dX6_init_41 rfl ?_
  refine g_put hC (fs' := [.ref q1, .ref q21, .ref q34, .ref q49, vi (0), vi (0), vi (0), vi (0)]) dX6_init_42 gp_RX6_34 h64 ⟨rfl, rfl⟩ rfl (Nat.le_of_ble_eq_true rfl) ?_
  obtain ⟨gh66, egh66⟩ : ∃ g_, g_ = gset gh58 xa (gO 10 [.ref q1, .ref q21, .ref q34, .ref q49, vi (0), vi (0), vi (0), vi (0)]) := ⟨_, rfl⟩
  rw [← egh66]
  have h67 : gh66 qb = some (gI 2 16 (fun _ => 0)) := by rw [egh66, gset_ne (gne h59 h64 (by simp))]; exact h59
  have h68 : gh66 q1 = some (gO 1 [.ref qb, vi (0), vi (0), vi (0)]) := by rw [egh66, gset_ne (gne h60 h64 (by simp))]; exact h60
  have h69 : gh66 q21 = some (gR 4 14 (fun _ => none)) := by rw [egh66, gset_ne (gne h61 h64 (by simp))]; exact h61
  have h70 : gh66 q34 = some (gR 5 4 (fun _ => none)) := by rw [egh66, gset_ne (gne h62 h64 (by simp))]; exact h62
  have h71 : gh66 q49 = some (gR 6 5 (fun _ => none)) := by rw [egh66, gset_ne (gne h63 h64 (by simp))]; exact h63
  have h72 : gh66 xa = some (gO 10 [.ref q1, .ref q21, .ref q34, .ref q49, vi (0), vi (0), vi (0), vi (0)]) := by rw [egh66]; exact gset_eq
  have Rk73 := Rk65.put pc0_k65 (gO 10 [.ref q1, .ref q21, .ref q34, .ref q49, vi (0), vi (0), vi (0), vi (0)])
  obtain ⟨ctk73, ectk73⟩ : ∃ x, x = cup ctk65 (2, 0, 0) (gO 10 [.ref q1, .ref q21, .ref q34, .ref q49, vi (0), vi (0), vi (0), vi (0)]) := ⟨_, rfl⟩
  rw [pa0_k65, ← ectk73, ← egh66] at Rk73
  have pa0_k73 := pa0_k65
  have pc0_k73 : ctk73 (2, 0, 0) = some (gO 10 [.ref q1, .ref q21, .ref q34, .ref q49, vi (0), vi (0), vi (0), vi (0)]) := by rw [ectk73, cup_eq]
  have pa1_k73 := pa1_k65
  have pc1_k73 : ctk73 (2, 1, 0) = some (gO 1 [.ref qb, vi (0), vi (0), vi (0)]) := by rw [ectk73, cup_ne (by simp)]; exact pc1_k65
  have pa2_k73 := pa2_k65
  have pc2_k73 : ctk73 (2, 2, 0) = some (gI 2 16 (fun _ => 0)) := by rw [ectk73, cup_ne (by simp)]; exact pc2_k65
  have pa3_k73 := pa3_k65
  have pc3_k73 : ctk73 (2, 3, 0) = some (gR 4 14 (fun _ => none)) := by rw [ectk73, cup_ne (by simp)]; exact pc3_k65
  have pa4_k73 := pa4_k65
  have pc4_k73 : ctk73 (2, 4, 0) = some (gR 5 4 (fun _ => none)) := by rw [ectk73, cup_ne (by simp)]; exact pc4_k65
  have pa5_k73 := pa5_k65
  have pc5_k73 : ctk73 (2, 5, 0) = some (gR 6 5 (fun _ => none)) := by rw [ectk73, cup_ne (by simp)]; exact pc5_k65
  have frk73 : ∀ t : Tg, (t.1 ≤ 1 ∨ 24 ≤ t.1) → ctk73 t = ct t ∧ adk57 t = ad t := fun t ht => by
    have e0 : t ≠ (2, 0, 0) := fun e => by rw [e] at ht; simp only at ht; omega
    exact ⟨(show ctk73 t = ctk65 t by rw [ectk73, cup_ne e0]).trans (frk65 t ht).1, (frk65 t ht).2⟩
  refine g_ald_n hC dX6_init_45 rfl ?_
  refine g_iconst hC dX6_init_46 rfl ?_
  refine g_put hC (fs' := [.ref q1, .ref q21, .ref q34, .ref q49, vi (0), vi (0), vi (0), vi (0)]) dX6_init_47 gp_RX6_38 h72 ⟨rfl, rfl⟩ rfl (Nat.le_of_ble_eq_true rfl) ?_
  obtain ⟨gh74, egh74⟩ : ∃ g_, g_ = gset gh66 xa (gO 10 [.ref q1, .ref q21, .ref q34, .ref q49, vi (0), vi (0), vi (0), vi (0)]) := ⟨_, rfl⟩
  rw [← egh74]
  have h75 : gh74 qb = some (gI 2 16 (fun _ => 0)) := by rw [egh74, gset_ne (gne h67 h72 (by simp))]; exact h67
  have h76 : gh74 q1 = some (gO 1 [.ref qb, vi (0), vi (0), vi (0)]) := by rw [egh74, gset_ne (gne h68 h72 (by simp))]; exact h68
  have h77 : gh74 q21 = some (gR 4 14 (fun _ => none)) := by rw [egh74, gset_ne (gne h69 h72 (by simp))]; exact h69
  have h78 : gh74 q34 = some (gR 5 4 (fun _ => none)) := by rw [egh74, gset_ne (gne h70 h72 (by simp))]; exact h70
  have h79 : gh74 q49 = some (gR 6 5 (fun _ => none)) := by rw [egh74, gset_ne (gne h71 h72 (by simp))]; exact h71
  have h80 : gh74 xa = some (gO 10 [.ref q1, .ref q21, .ref q34, .ref q49, vi (0), vi (0), vi (0), vi (0)]) := by rw [egh74]; exact gset_eq
  have Rk81 := Rk73.put pc0_k73 (gO 10 [.ref q1, .ref q21, .ref q34, .ref q49, vi (0), vi (0), vi (0), vi (0)])
  obtain ⟨ctk81, ectk81⟩ : ∃ x, x = cup ctk73 (2, 0, 0) (gO 10 [.ref q1, .ref q21, .ref q34, .ref q49, vi (0), vi (0), vi (0), vi (0)]) := ⟨_, rfl⟩
  rw [pa0_k73, ← ectk81, ← egh74] at Rk81
  have pa0_k81 := pa0_k73
  have pc0_k81 : ctk81 (2, 0, 0) = some (gO 10 [.ref q1, .ref q21, .ref q34, .ref q49, vi (0), vi (0), vi (0), vi (0)]) := by rw [ectk81, cup_eq]
  have pa1_k81 := pa1_k73
  have pc1_k81 : ctk81 (2, 1, 0) = some (gO 1 [.ref qb, vi (0), vi (0), vi (0)]) := by rw [ectk81, cup_ne (by simp)]; exact pc1_k73
  have pa2_k81 := pa2_k73
  have pc2_k81 : ctk81 (2, 2, 0) = some (gI 2 16 (fun _ => 0)) := by rw [ectk81, cup_ne (by simp)]; exact pc2_k73
  have pa3_k81 := pa3_k73
  have pc3_k81 : ctk81 (2, 3, 0) = some (gR 4 14 (fun _ => none)) := by rw [ectk81, cup_ne (by simp)]; exact pc3_k73
  have pa4_k81 := pa4_k73
  have pc4_k81 : ctk81 (2, 4, 0) = some (gR 5 4 (fun _ => none)) := by rw [ectk81, cup_ne (by simp)]; exact pc4_k73
  have pa5_k81 := pa5_k73
  have pc5_k81 : ctk81 (2, 5, 0) = some (gR 6 5 (fun _ => none)) := by rw [ectk81, cup_ne (by simp)]; exact pc5_k73
  have frk81 : ∀ t : Tg, (t.1 ≤ 1 ∨ 24 ≤ t.1) → ctk81 t = ct t ∧ adk57 t = ad t := fun t ht => by
    have e0 : t ≠ (2, 0, 0) := fun e => by rw [e] at ht; simp only at ht; omega
    exact ⟨(show ctk81 t = ctk73 t by rw [ectk81, cup_ne e0]).trans (frk73 t ht).1, (frk73 t ht).2⟩
  refine g_ald_n hC dX6_init_50 rfl ?_
  refine g_iconst hC dX6_init_51 rfl ?_
  refine g_put hC (fs' := [.ref q1, .ref q21, .ref q34, .ref q49, vi (0), vi (0), vi (0), vi (0)]) dX6_init_52 gp_RX6_41 h80 ⟨rfl, rfl⟩ rfl (Nat.le_of_ble_eq_true rfl) ?_
  obtain ⟨gh82, egh82⟩ : ∃ g_, g_ = gset gh74 xa (gO 10 [.ref q1, .ref q21, .ref q34, .ref q49, vi (0), vi (0), vi (0), vi (0)]) := ⟨_, rfl⟩
  rw [← egh82]
  have h83 : gh82 qb = some (gI 2 16 (fun _ => 0)) := by rw [egh82, gset_ne (gne h75 h80 (by simp))]; exact h75
  have h84 : gh82 q1 = some (gO 1 [.ref qb, vi (0), vi (0), vi (0)]) := by rw [egh82, gset_ne (gne h76 h80 (by simp))]; exact h76
  have h85 : gh82 q21 = some (gR 4 14 (fun _ => none)) := by rw [egh82, gset_ne (gne h77 h80 (by simp))]; exact h77
  have h86 : gh82 q34 = some (gR 5 4 (fun _ => none)) := by rw [egh82, gset_ne (gne h78 h80 (by simp))]; exact h78
  have h87 : gh82 q49 = some (gR 6 5 (fun _ => none)) := by rw [egh82, gset_ne (gne h79 h80 (by simp))]; exact h79
  have h88 : gh82 xa = some (gO 10 [.ref q1, .ref q21, .ref q34, .ref q49, vi (0), vi (0), vi (0), vi (0)]) := by rw [egh82]; exact gset_eq
  have Rk89 := Rk81.put pc0_k81 (gO 10 [.ref q1, .ref q21, .ref q34, .ref q49, vi (0), vi (0), vi (0), vi (0)])
  obtain ⟨ctk89, ectk89⟩ : ∃ x, x = cup ctk81 (2, 0, 0) (gO 10 [.ref q1, .ref q21, .ref q34, .ref q49, vi (0), vi (0), vi (0), vi (0)]) := ⟨_, rfl⟩
  rw [pa0_k81, ← ectk89, ← egh82] at Rk89
  have pa0_k89 := pa0_k81
  have pc0_k89 : ctk89 (2, 0, 0) = some (gO 10 [.ref q1, .ref q21, .ref q34, .ref q49, vi (0), vi (0), vi (0), vi (0)]) := by rw [ectk89, cup_eq]
  have pa1_k89 := pa1_k81
  have pc1_k89 : ctk89 (2, 1, 0) = some (gO 1 [.ref qb, vi (0), vi (0), vi (0)]) := by rw [ectk89, cup_ne (by simp)]; exact pc1_k81
  have pa2_k89 := pa2_k81
  have pc2_k89 : ctk89 (2, 2, 0) = some (gI 2 16 (fun _ => 0)) := by rw [ectk89, cup_ne (by simp)]; exact pc2_k81
  have pa3_k89 := pa3_k81
  have pc3_k89 : ctk89 (2, 3, 0) = some (gR 4 14 (fun _ => none)) := by rw [ectk89, cup_ne (by simp)]; exact pc3_k81
  have pa4_k89 := pa4_k81
  have pc4_k89 : ctk89 (2, 4, 0) = some (gR 5 4 (fun _ => none)) := by rw [ectk89, cup_ne (by simp)]; exact pc4_k81
  have pa5_k89 := pa5_k81
  have pc5_k89 : ctk89 (2, 5, 0) = some (gR 6 5 (fun _ => none)) := by rw [ectk89, cup_ne (by simp)]; exact pc5_k81
  have frk89 : ∀ t : Tg, (t.1 ≤ 1 ∨ 24 ≤ t.1) → ctk89 t = ct t ∧ adk57 t = ad t := fun t ht => by
    have e0 : t ≠ (2, 0, 0) := fun e => by rw [e] at ht; simp only at ht; omega
    exact ⟨(show ctk89 t = ctk81 t by rw [ectk89, cup_ne e0]).trans (frk81 t ht).1, (frk81 t ht).2⟩
  refine g_ald_n hC dX6_init_55 rfl ?_
  refine g_iconst hC dX6_init_56 rfl ?_
  refine g_put hC (fs' := [.ref q1, .ref q21, .ref q34, .ref q49, vi (0), vi (0), vi (0), vi (0)]) dX6_init_57 gp_RX6_44 h88 ⟨rfl, rfl⟩ rfl (Nat.le_of_ble_eq_true rfl) ?_
  obtain ⟨gh90, egh90⟩ : ∃ g_, g_ = gset gh82 xa (gO 10 [.ref q1, .ref q21, .ref q34, .ref q49, vi (0), vi (0), vi (0), vi (0)]) := ⟨_, rfl⟩
  rw [← egh90]
  have h91 : gh90 qb = some (gI 2 16 (fun _ => 0)) := by rw [egh90, gset_ne (gne h83 h88 (by simp))]; exact h83
  have h92 : gh90 q1 = some (gO 1 [.ref qb, vi (0), vi (0), vi (0)]) := by rw [egh90, gset_ne (gne h84 h88 (by simp))]; exact h84
  have h93 : gh90 q21 = some (gR 4 14 (fun _ => none)) := by rw [egh90, gset_ne (gne h85 h88 (by simp))]; exact h85
  have h94 : gh90 q34 = some (gR 5 4 (fun _ => none)) := by rw [egh90, gset_ne (gne h86 h88 (by simp))]; exact h86
  have h95 : gh90 q49 = some (gR 6 5 (fun _ => none)) := by rw [egh90, gset_ne (gne h87 h88 (by simp))]; exact h87
  have h96 : gh90 xa = some (gO 10 [.ref q1, .ref q21, .ref q34, .ref q49, vi (0), vi (0), vi (0), vi (0)]) := by rw [egh90]; exact gset_eq
  have Rk97 := Rk89.put pc0_k89 (gO 10 [.ref q1, .ref q21, .ref q34, .ref q49, vi (0), vi (0), vi (0), vi (0)])
  obtain ⟨ctk97, ectk97⟩ : ∃ x, x = cup ctk89 (2, 0, 0) (gO 10 [.ref q1, .ref q21, .ref q34, .ref q49, vi (0), vi (0), vi (0), vi (0)]) := ⟨_, rfl⟩
  rw [pa0_k89, ← ectk97, ← egh90] at Rk97
  have pa0_k97 := pa0_k89
  have pc0_k97 : ctk97 (2, 0, 0) = some (gO 10 [.ref q1, .ref q21, .ref q34, .ref q49, vi (0), vi (0), vi (0), vi (0)]) := by rw [ectk97, cup_eq]
  have pa1_k97 := pa1_k89
  have pc1_k97 : ctk97 (2, 1, 0) = some (gO 1 [.ref qb, vi (0), vi (0), vi (0)]) := by rw [ectk97, cup_ne (by simp)]; exact pc1_k89
  have pa2_k97 := pa2_k89
  have pc2_k97 : ctk97 (2, 2, 0) = some (gI 2 16 (fun _ => 0)) := by rw [ectk97, cup_ne (by simp)]; exact pc2_k89
  have pa3_k97 := pa3_k89
  have pc3_k97 : ctk97 (2, 3, 0) = some (gR 4 14 (fun _ => none)) := by rw [ectk97, cup_ne (by simp)]; exact pc3_k89
  have pa4_k97 := pa4_k89
  have pc4_k97 : ctk97 (2, 4, 0) = some (gR 5 4 (fun _ => none)) := by rw [ectk97, cup_ne (by simp)]; exact pc4_k89
  have pa5_k97 := pa5_k89
  have pc5_k97 : ctk97 (2, 5, 0) = some (gR 6 5 (fun _ => none)) := by rw [ectk97, cup_ne (by simp)]; exact pc5_k89
  have frk97 : ∀ t : Tg, (t.1 ≤ 1 ∨ 24 ≤ t.1) → ctk97 t = ct t ∧ adk57 t = ad t := fun t ht => by
    have e0 : t ≠ (2, 0, 0) := fun e => by rw [e] at ht; simp only at ht; omega
    exact ⟨(show ctk97 t = ctk89 t by rw [ectk97, cup_ne e0]).trans (frk89 t ht).1, (frk89 t ht).2⟩
  refine g_vret hC hq dX6_init_60 (by decide) (by decide) ⟨rfl, adk57, ctk97, Rk97, ?_, frk97, by rw [pa0_k97]; exact pa0_0.symm⟩
  refine ⟨?_, ⟨0, fun _ => 0, ?_, ?_, fun t ht => by rw [z1] at ht; omega⟩, ?_, ?_, ?_, fun i hi => by rw [z3] at hi; omega, fun i hi => by rw [z11] at hi; omega, fun i hi => by rw [z22] at hi; omega⟩
  · rw [pc0_k97]; unfold clO; rw [z0, z3, z11, z22, pa1_k97, pa3_k97, pa4_k97, pa5_k97]
  · rw [pc1_k97, z1, pa2_k97]
  · exact pc2_k97
  · rw [pc3_k97, z3]; exact congrArg (fun f => some (gR 4 14 f)) (funext (fun s => (if_neg (by omega)).symm))
  · rw [pc4_k97, z11]; exact congrArg (fun f => some (gR 5 4 f)) (funext (fun s => (if_neg (by omega)).symm))
  · rw [pc5_k97, z22]; exact congrArg (fun f => some (gR 6 5 f)) (funext (fun s => (if_neg (by omega)).symm))

set_option maxHeartbeats 4000000 in
set_option maxRecDepth 100000 in
theorem kX7_init {l : Launch} (hl : l.stackTraces = false) {D : gD} {base : Nat}  {ad : Tg → Nat} {ct : Tg → Option gC} (hx : ct (0, 0, 0) = some (gO 11 [vi (0), vi (0), .null, vi (0), .null, .null, .null, .null, .null, .null, .null, vi (0), .null, .null, .null, .null, .null, .null, .null, .null, vi (0), .null, vi (0), .null, .null, .null, .null, vi (0)])) (gh : gH) (hR : cR ad ct gh) : gM l D base yX7_init cX7_init 1 none 1 12 21 2338 [.ref (ad (0, 0, 0))] gh (fun r gh' => r = none ∧ ∃ ad' ct', cR ad' ct' gh' ∧ MRP ad' (fun _ => 0) (fun _ _ => 0) ct' ∧ (∀ t : Tg, 2 ≤ t.1 → ct' t = ct t ∧ ad' t = ad t) ∧ ad' (0, 0, 0) = ad (0, 0, 0)) gNo := by
  refine gM.of hl (by decide) (by simp [Value.category]) (Nat.le_of_ble_eq_true rfl) [some (.ref (ad (0, 0, 0)))] rfl (fun x hC hq => ?_)
  obtain ⟨xa, pa0_0⟩ : ∃ x, ad (0, 0, 0) = x := ⟨_, rfl⟩
  rw [pa0_0]
  have pc0_0 := hx
  have fr0 : ∀ t : Tg, (2 ≤ t.1) → ct t = ct t ∧ ad t = ad t := fun _ _ => ⟨rfl, rfl⟩
  have h00 : gh xa = some (gO 11 [vi (0), vi (0), .null, vi (0), .null, .null, .null, .null, .null, .null, .null, vi (0), .null, .null, .null, .null, .null, .null, .null, .null, vi (0), .null, vi (0), .null, .null, .null, .null, vi (0)]) := by have h9_ := hR.1 _ _ hx; rw [pa0_0] at h9_; exact h9_
  refine g_ald_n hC dX7_init_0 rfl ?_
  refine g_objInit hC dX7_init_1 go_RX7 go_i go_c (by decide) (by decide) ?_
  refine g_ald_n hC dX7_init_4 rfl ?_
  refine g_bipush (z := 8) hC dX7_init_5 rfl ?_
  refine g_newC (n := 8) hC dX7_init_7 ga_char rfl (by decide) (by decide) (by decide) (fun q1 hnq1 => ?_)
  obtain ⟨gh2, egh2⟩ : ∃ g_, g_ = gset gh q1 (gI 0 8 (fun _ => 0)) := ⟨_, rfl⟩
  rw [← egh2]
  have h3 : gh2 xa = some (gO 11 [vi (0), vi (0), .null, vi (0), .null, .null, .null, .null, .null, .null, .null, vi (0), .null, .null, .null, .null, .null, .null, .null, .null, vi (0), .null, vi (0), .null, .null, .null, .null, vi (0)]) := by rw [egh2, gset_ne (fun z => by rw [z, hnq1] at h00; cases h00)]; exact h00
  have h4 : gh2 q1 = some (gI 0 8 (fun _ => 0)) := by rw [egh2]; exact gset_eq
  have Rk5 := hR.new (t := (1, 2, 0)) hnq1 (gI 0 8 (fun _ => 0))
  obtain ⟨adk5, eadk5⟩ : ∃ x, x = aup ad (1, 2, 0) q1 := ⟨_, rfl⟩
  obtain ⟨ctk5, ectk5⟩ : ∃ x, x = cup ct (1, 2, 0) (gI 0 8 (fun _ => 0)) := ⟨_, rfl⟩
  rw [← eadk5, ← ectk5, ← egh2] at Rk5
  have pa0_k5 : adk5 (0, 0, 0) = xa := by rw [eadk5, aup_ne (by simp)]; exact pa0_0
  have pc0_k5 : ctk5 (0, 0, 0) = some (gO 11 [vi (0), vi (0), .null, vi (0), .null, .null, .null, .null, .null, .null, .null, vi (0), .null, .null, .null, .null, .null, .null, .null, .null, vi (0), .null, vi (0), .null, .null, .null, .null, vi (0)]) := by rw [ectk5, cup_ne (by simp)]; exact pc0_0
  have pa1_k5 : adk5 (1, 2, 0) = q1 := by rw [eadk5, aup_eq]
  have pc1_k5 : ctk5 (1, 2, 0) = some (gI 0 8 (fun _ => 0)) := by rw [ectk5, cup_eq]
  have frk5 : ∀ t : Tg, (2 ≤ t.1) → ctk5 t = ct t ∧ adk5 t = ad t := fun t ht => by
    have e0 : t ≠ (1, 2, 0) := fun e => by rw [e] at ht; simp only at ht; omega
    exact ⟨(show ctk5 t = ct t by rw [ectk5, cup_ne e0]).trans (fr0 t ht).1, (show adk5 t = ad t by rw [eadk5, aup_ne e0]).trans (fr0 t ht).2⟩
  clear pc0_0 fr0 ectk5 egh2 eadk5 h00
  refine g_putF hC hq (fs' := [vi (0), vi (0), .ref q1, vi (0), .null, .null, .null, .null, .null, .null, .null, vi (0), .null, .null, .null, .null, .null, .null, .null, .null, vi (0), .null, vi (0), .null, .null, .null, .null, vi (0)]) dX7_init_9 gp_RX7_7 h3 ⟨rfl, rfl⟩ rfl (Nat.le_of_ble_eq_true rfl) ?_
  obtain ⟨gh6, egh6⟩ : ∃ g_, g_ = gset gh2 xa (gO 11 [vi (0), vi (0), .ref q1, vi (0), .null, .null, .null, .null, .null, .null, .null, vi (0), .null, .null, .null, .null, .null, .null, .null, .null, vi (0), .null, vi (0), .null, .null, .null, .null, vi (0)]) := ⟨_, rfl⟩
  rw [← egh6]
  have h7 : gh6 xa = some (gO 11 [vi (0), vi (0), .ref q1, vi (0), .null, .null, .null, .null, .null, .null, .null, vi (0), .null, .null, .null, .null, .null, .null, .null, .null, vi (0), .null, vi (0), .null, .null, .null, .null, vi (0)]) := by rw [egh6]; exact gset_eq
  have Rk8 := Rk5.put pc0_k5 (gO 11 [vi (0), vi (0), .ref q1, vi (0), .null, .null, .null, .null, .null, .null, .null, vi (0), .null, .null, .null, .null, .null, .null, .null, .null, vi (0), .null, vi (0), .null, .null, .null, .null, vi (0)])
  obtain ⟨ctk8, ectk8⟩ : ∃ x, x = cup ctk5 (0, 0, 0) (gO 11 [vi (0), vi (0), .ref q1, vi (0), .null, .null, .null, .null, .null, .null, .null, vi (0), .null, .null, .null, .null, .null, .null, .null, .null, vi (0), .null, vi (0), .null, .null, .null, .null, vi (0)]) := ⟨_, rfl⟩
  rw [pa0_k5, ← ectk8, ← egh6] at Rk8
  have pa0_k8 := pa0_k5
  have pc0_k8 : ctk8 (0, 0, 0) = some (gO 11 [vi (0), vi (0), .ref q1, vi (0), .null, .null, .null, .null, .null, .null, .null, vi (0), .null, .null, .null, .null, .null, .null, .null, .null, vi (0), .null, vi (0), .null, .null, .null, .null, vi (0)]) := by rw [ectk8, cup_eq]
  have pa1_k8 := pa1_k5
  have pc1_k8 : ctk8 (1, 2, 0) = some (gI 0 8 (fun _ => 0)) := by rw [ectk8, cup_ne (by simp)]; exact pc1_k5
  have frk8 : ∀ t : Tg, (2 ≤ t.1) → ctk8 t = ct t ∧ adk5 t = ad t := fun t ht => by
    have e0 : t ≠ (0, 0, 0) := fun e => by rw [e] at ht; simp only at ht; omega
    exact ⟨(show ctk8 t = ctk5 t by rw [ectk8, cup_ne e0]).trans (frk5 t ht).1, (frk5 t ht).2⟩
  clear pa0_k5 pa1_k5 pc0_k5 pc1_k5 frk5 ectk8 egh6 Rk5 h3 h4
  refine g_ald_n hC dX7_init_12 rfl ?_
  refine g_bipush (z := 14) hC dX7_init_13 rfl ?_
  refine g_newI (n := 14) hC dX7_init_15 ga_int rfl (by decide) (by decide) (by decide) (fun q9 hnq9 => ?_)
  obtain ⟨gh10, egh10⟩ : ∃ g_, g_ = gset gh6 q9 (gI 1 14 (fun _ => 0)) := ⟨_, rfl⟩
  rw [← egh10]
  have h11 : gh10 xa = some (gO 11 [vi (0), vi (0), .ref q1, vi (0), .null, .null, .null, .null, .null, .null, .null, vi (0), .null, .null, .null, .null, .null, .null, .null, .null, vi (0), .null, vi (0), .null, .null, .null, .null, vi (0)]) := by rw [egh10, gset_ne (fun z => by rw [z, hnq9] at h7; cases h7)]; exact h7
  have h12 : gh10 q9 = some (gI 1 14 (fun _ => 0)) := by rw [egh10]; exact gset_eq
  have Rk13 := Rk8.new (t := (1, 4, 0)) hnq9 (gI 1 14 (fun _ => 0))
  obtain ⟨adk13, eadk13⟩ : ∃ x, x = aup adk5 (1, 4, 0) q9 := ⟨_, rfl⟩
  obtain ⟨ctk13, ectk13⟩ : ∃ x, x = cup ctk8 (1, 4, 0) (gI 1 14 (fun _ => 0)) := ⟨_, rfl⟩
  rw [← eadk13, ← ectk13, ← egh10] at Rk13
  have pa0_k13 : adk13 (0, 0, 0) = xa := by rw [eadk13, aup_ne (by simp)]; exact pa0_k8
  have pc0_k13 : ctk13 (0, 0, 0) = some (gO 11 [vi (0), vi (0), .ref q1, vi (0), .null, .null, .null, .null, .null, .null, .null, vi (0), .null, .null, .null, .null, .null, .null, .null, .null, vi (0), .null, vi (0), .null, .null, .null, .null, vi (0)]) := by rw [ectk13, cup_ne (by simp)]; exact pc0_k8
  have pa1_k13 : adk13 (1, 2, 0) = q1 := by rw [eadk13, aup_ne (by simp)]; exact pa1_k8
  have pc1_k13 : ctk13 (1, 2, 0) = some (gI 0 8 (fun _ => 0)) := by rw [ectk13, cup_ne (by simp)]; exact pc1_k8
  have pa2_k13 : adk13 (1, 4, 0) = q9 := by rw [eadk13, aup_eq]
  have pc2_k13 : ctk13 (1, 4, 0) = some (gI 1 14 (fun _ => 0)) := by rw [ectk13, cup_eq]
  have frk13 : ∀ t : Tg, (2 ≤ t.1) → ctk13 t = ct t ∧ adk13 t = ad t := fun t ht => by
    have e0 : t ≠ (1, 4, 0) := fun e => by rw [e] at ht; simp only at ht; omega
    exact ⟨(show ctk13 t = ctk8 t by rw [ectk13, cup_ne e0]).trans (frk8 t ht).1, (show adk13 t = adk5 t by rw [eadk13, aup_ne e0]).trans (frk8 t ht).2⟩
  clear pa0_k8 pa1_k8 pc0_k8 pc1_k8 frk8 ectk13 egh10 Rk8 eadk13 h7
  refine g_putF hC hq (fs' := [vi (0), vi (0), .ref q1, vi (0), .ref q9, .null, .null, .null, .null, .null, .null, vi (0), .null, .null, .null, .null, .null, .null, .null, .null, vi (0), .null, vi (0), .null, .null, .null, .null, vi (0)]) dX7_init_17 gp_RX7_13 h11 ⟨rfl, rfl⟩ rfl (Nat.le_of_ble_eq_true rfl) ?_
  obtain ⟨gh14, egh14⟩ : ∃ g_, g_ = gset gh10 xa (gO 11 [vi (0), vi (0), .ref q1, vi (0), .ref q9, .null, .null, .null, .null, .null, .null, vi (0), .null, .null, .null, .null, .null, .null, .null, .null, vi (0), .null, vi (0), .null, .null, .null, .null, vi (0)]) := ⟨_, rfl⟩
  rw [← egh14]
  have h15 : gh14 xa = some (gO 11 [vi (0), vi (0), .ref q1, vi (0), .ref q9, .null, .null, .null, .null, .null, .null, vi (0), .null, .null, .null, .null, .null, .null, .null, .null, vi (0), .null, vi (0), .null, .null, .null, .null, vi (0)]) := by rw [egh14]; exact gset_eq
  have Rk16 := Rk13.put pc0_k13 (gO 11 [vi (0), vi (0), .ref q1, vi (0), .ref q9, .null, .null, .null, .null, .null, .null, vi (0), .null, .null, .null, .null, .null, .null, .null, .null, vi (0), .null, vi (0), .null, .null, .null, .null, vi (0)])
  obtain ⟨ctk16, ectk16⟩ : ∃ x, x = cup ctk13 (0, 0, 0) (gO 11 [vi (0), vi (0), .ref q1, vi (0), .ref q9, .null, .null, .null, .null, .null, .null, vi (0), .null, .null, .null, .null, .null, .null, .null, .null, vi (0), .null, vi (0), .null, .null, .null, .null, vi (0)]) := ⟨_, rfl⟩
  rw [pa0_k13, ← ectk16, ← egh14] at Rk16
  have pa0_k16 := pa0_k13
  have pc0_k16 : ctk16 (0, 0, 0) = some (gO 11 [vi (0), vi (0), .ref q1, vi (0), .ref q9, .null, .null, .null, .null, .null, .null, vi (0), .null, .null, .null, .null, .null, .null, .null, .null, vi (0), .null, vi (0), .null, .null, .null, .null, vi (0)]) := by rw [ectk16, cup_eq]
  have pa1_k16 := pa1_k13
  have pc1_k16 : ctk16 (1, 2, 0) = some (gI 0 8 (fun _ => 0)) := by rw [ectk16, cup_ne (by simp)]; exact pc1_k13
  have pa2_k16 := pa2_k13
  have pc2_k16 : ctk16 (1, 4, 0) = some (gI 1 14 (fun _ => 0)) := by rw [ectk16, cup_ne (by simp)]; exact pc2_k13
  have frk16 : ∀ t : Tg, (2 ≤ t.1) → ctk16 t = ct t ∧ adk13 t = ad t := fun t ht => by
    have e0 : t ≠ (0, 0, 0) := fun e => by rw [e] at ht; simp only at ht; omega
    exact ⟨(show ctk16 t = ctk13 t by rw [ectk16, cup_ne e0]).trans (frk13 t ht).1, (frk13 t ht).2⟩
  clear pa0_k13 pa1_k13 pa2_k13 pc0_k13 pc1_k13 pc2_k13 frk13 ectk16 egh14 Rk13 h11 h12
  refine g_ald_n hC dX7_init_20 rfl ?_
  refine g_bipush (z := 14) hC dX7_init_21 rfl ?_
  refine g_newI (n := 14) hC dX7_init_23 ga_int rfl (by decide) (by decide) (by decide) (fun q17 hnq17 => ?_)
  obtain ⟨gh18, egh18⟩ : ∃ g_, g_ = gset gh14 q17 (gI 1 14 (fun _ => 0)) := ⟨_, rfl⟩
  rw [← egh18]
  have h19 : gh18 xa = some (gO 11 [vi (0), vi (0), .ref q1, vi (0), .ref q9, .null, .null, .null, .null, .null, .null, vi (0), .null, .null, .null, .null, .null, .null, .null, .null, vi (0), .null, vi (0), .null, .null, .null, .null, vi (0)]) := by rw [egh18, gset_ne (fun z => by rw [z, hnq17] at h15; cases h15)]; exact h15
  have h20 : gh18 q17 = some (gI 1 14 (fun _ => 0)) := by rw [egh18]; exact gset_eq
  have Rk21 := Rk16.new (t := (1, 5, 0)) hnq17 (gI 1 14 (fun _ => 0))
  obtain ⟨adk21, eadk21⟩ : ∃ x, x = aup adk13 (1, 5, 0) q17 := ⟨_, rfl⟩
  obtain ⟨ctk21, ectk21⟩ : ∃ x, x = cup ctk16 (1, 5, 0) (gI 1 14 (fun _ => 0)) := ⟨_, rfl⟩
  rw [← eadk21, ← ectk21, ← egh18] at Rk21
  have pa0_k21 : adk21 (0, 0, 0) = xa := by rw [eadk21, aup_ne (by simp)]; exact pa0_k16
  have pc0_k21 : ctk21 (0, 0, 0) = some (gO 11 [vi (0), vi (0), .ref q1, vi (0), .ref q9, .null, .null, .null, .null, .null, .null, vi (0), .null, .null, .null, .null, .null, .null, .null, .null, vi (0), .null, vi (0), .null, .null, .null, .null, vi (0)]) := by rw [ectk21, cup_ne (by simp)]; exact pc0_k16
  have pa1_k21 : adk21 (1, 2, 0) = q1 := by rw [eadk21, aup_ne (by simp)]; exact pa1_k16
  have pc1_k21 : ctk21 (1, 2, 0) = some (gI 0 8 (fun _ => 0)) := by rw [ectk21, cup_ne (by simp)]; exact pc1_k16
  have pa2_k21 : adk21 (1, 4, 0) = q9 := by rw [eadk21, aup_ne (by simp)]; exact pa2_k16
  have pc2_k21 : ctk21 (1, 4, 0) = some (gI 1 14 (fun _ => 0)) := by rw [ectk21, cup_ne (by simp)]; exact pc2_k16
  have pa3_k21 : adk21 (1, 5, 0) = q17 := by rw [eadk21, aup_eq]
  have pc3_k21 : ctk21 (1, 5, 0) = some (gI 1 14 (fun _ => 0)) := by rw [ectk21, cup_eq]
  have frk21 : ∀ t : Tg, (2 ≤ t.1) → ctk21 t = ct t ∧ adk21 t = ad t := fun t ht => by
    have e0 : t ≠ (1, 5, 0) := fun e => by rw [e] at ht; simp only at ht; omega
    exact ⟨(show ctk21 t = ctk16 t by rw [ectk21, cup_ne e0]).trans (frk16 t ht).1, (show adk21 t = adk13 t by rw [eadk21, aup_ne e0]).trans (frk16 t ht).2⟩
  clear pa0_k16 pa1_k16 pa2_k16 pc0_k16 pc1_k16 pc2_k16 frk16 ectk21 egh18 Rk16 eadk21 h15
  refine g_putF hC hq (fs' := [vi (0), vi (0), .ref q1, vi (0), .ref q9, .ref q17, .null, .null, .null, .null, .null, vi (0), .null, .null, .null, .null, .null, .null, .null, .null, vi (0), .null, vi (0), .null, .null, .null, .null, vi (0)]) dX7_init_25 gp_RX7_17 h19 ⟨rfl, rfl⟩ rfl (Nat.le_of_ble_eq_true rfl) ?_
  obtain ⟨gh22, egh22⟩ : ∃ g_, g_ = gset gh18 xa (gO 11 [vi (0), vi (0), .ref q1, vi (0), .ref q9, .ref q17, .null, .null, .null, .null, .null, vi (0), .null, .null, .null, .null, .null, .null, .null, .null, vi (0), .null, vi (0), .null, .null, .null, .null, vi (0)]) := ⟨_, rfl⟩
  rw [← egh22]
  have h23 : gh22 xa = some (gO 11 [vi (0), vi (0), .ref q1, vi (0), .ref q9, .ref q17, .null, .null, .null, .null, .null, vi (0), .null, .null, .null, .null, .null, .null, .null, .null, vi (0), .null, vi (0), .null, .null, .null, .null, vi (0)]) := by rw [egh22]; exact gset_eq
  have Rk24 := Rk21.put pc0_k21 (gO 11 [vi (0), vi (0), .ref q1, vi (0), .ref q9, .ref q17, .null, .null, .null, .null, .null, vi (0), .null, .null, .null, .null, .null, .null, .null, .null, vi (0), .null, vi (0), .null, .null, .null, .null, vi (0)])
  obtain ⟨ctk24, ectk24⟩ : ∃ x, x = cup ctk21 (0, 0, 0) (gO 11 [vi (0), vi (0), .ref q1, vi (0), .ref q9, .ref q17, .null, .null, .null, .null, .null, vi (0), .null, .null, .null, .null, .null, .null, .null, .null, vi (0), .null, vi (0), .null, .null, .null, .null, vi (0)]) := ⟨_, rfl⟩
  rw [pa0_k21, ← ectk24, ← egh22] at Rk24
  have pa0_k24 := pa0_k21
  have pc0_k24 : ctk24 (0, 0, 0) = some (gO 11 [vi (0), vi (0), .ref q1, vi (0), .ref q9, .ref q17, .null, .null, .null, .null, .null, vi (0), .null, .null, .null, .null, .null, .null, .null, .null, vi (0), .null, vi (0), .null, .null, .null, .null, vi (0)]) := by rw [ectk24, cup_eq]
  have pa1_k24 := pa1_k21
  have pc1_k24 : ctk24 (1, 2, 0) = some (gI 0 8 (fun _ => 0)) := by rw [ectk24, cup_ne (by simp)]; exact pc1_k21
  have pa2_k24 := pa2_k21
  have pc2_k24 : ctk24 (1, 4, 0) = some (gI 1 14 (fun _ => 0)) := by rw [ectk24, cup_ne (by simp)]; exact pc2_k21
  have pa3_k24 := pa3_k21
  have pc3_k24 : ctk24 (1, 5, 0) = some (gI 1 14 (fun _ => 0)) := by rw [ectk24, cup_ne (by simp)]; exact pc3_k21
  have frk24 : ∀ t : Tg, (2 ≤ t.1) → ctk24 t = ct t ∧ adk21 t = ad t := fun t ht => by
    have e0 : t ≠ (0, 0, 0) := fun e => by rw [e] at ht; simp only at ht; omega
    exact ⟨(show ctk24 t = ctk21 t by rw [ectk24, cup_ne e0]).trans (frk21 t ht).1, (frk21 t ht).2⟩
  clear pa0_k21 pa1_k21 pa2_k21 pa3_k21 pc0_k21 pc1_k21 pc2_k21 pc3_k21 frk21 ectk24 egh22 Rk21 h19 h20
  refine g_ald_n hC dX7_init_28 rfl ?_
  refine g_bipush (z := 14) hC dX7_init_29 rfl ?_
  refine g_newI (n := 14) hC dX7_init_31 ga_int rfl (by decide) (by decide) (by decide) (fun q25 hnq25 => ?_)
  obtain ⟨gh26, egh26⟩ : ∃ g_, g_ = gset gh22 q25 (gI 1 14 (fun _ => 0)) := ⟨_, rfl⟩
  rw [← egh26]
  have h27 : gh26 xa = some (gO 11 [vi (0), vi (0), .ref q1, vi (0), .ref q9, .ref q17, .null, .null, .null, .null, .null, vi (0), .null, .null, .null, .null, .null, .null, .null, .null, vi (0), .null, vi (0), .null, .null, .null, .null, vi (0)]) := by rw [egh26, gset_ne (fun z => by rw [z, hnq25] at h23; cases h23)]; exact h23
  have h28 : gh26 q25 = some (gI 1 14 (fun _ => 0)) := by rw [egh26]; exact gset_eq
  have Rk29 := Rk24.new (t := (1, 6, 0)) hnq25 (gI 1 14 (fun _ => 0))
  obtain ⟨adk29, eadk29⟩ : ∃ x, x = aup adk21 (1, 6, 0) q25 := ⟨_, rfl⟩
  obtain ⟨ctk29, ectk29⟩ : ∃ x, x = cup ctk24 (1, 6, 0) (gI 1 14 (fun _ => 0)) := ⟨_, rfl⟩
  rw [← eadk29, ← ectk29, ← egh26] at Rk29
  have pa0_k29 : adk29 (0, 0, 0) = xa := by rw [eadk29, aup_ne (by simp)]; exact pa0_k24
  have pc0_k29 : ctk29 (0, 0, 0) = some (gO 11 [vi (0), vi (0), .ref q1, vi (0), .ref q9, .ref q17, .null, .null, .null, .null, .null, vi (0), .null, .null, .null, .null, .null, .null, .null, .null, vi (0), .null, vi (0), .null, .null, .null, .null, vi (0)]) := by rw [ectk29, cup_ne (by simp)]; exact pc0_k24
  have pa1_k29 : adk29 (1, 2, 0) = q1 := by rw [eadk29, aup_ne (by simp)]; exact pa1_k24
  have pc1_k29 : ctk29 (1, 2, 0) = some (gI 0 8 (fun _ => 0)) := by rw [ectk29, cup_ne (by simp)]; exact pc1_k24
  have pa2_k29 : adk29 (1, 4, 0) = q9 := by rw [eadk29, aup_ne (by simp)]; exact pa2_k24
  have pc2_k29 : ctk29 (1, 4, 0) = some (gI 1 14 (fun _ => 0)) := by rw [ectk29, cup_ne (by simp)]; exact pc2_k24
  have pa3_k29 : adk29 (1, 5, 0) = q17 := by rw [eadk29, aup_ne (by simp)]; exact pa3_k24
  have pc3_k29 : ctk29 (1, 5, 0) = some (gI 1 14 (fun _ => 0)) := by rw [ectk29, cup_ne (by simp)]; exact pc3_k24
  have pa4_k29 : adk29 (1, 6, 0) = q25 := by rw [eadk29, aup_eq]
  have pc4_k29 : ctk29 (1, 6, 0) = some (gI 1 14 (fun _ => 0)) := by rw [ectk29, cup_eq]
  have frk29 : ∀ t : Tg, (2 ≤ t.1) → ctk29 t = ct t ∧ adk29 t = ad t := fun t ht => by
    have e0 : t ≠ (1, 6, 0) := fun e => by rw [e] at ht; simp only at ht; omega
    exact ⟨(show ctk29 t = ctk24 t by rw [ectk29, cup_ne e0]).trans (frk24 t ht).1, (show adk29 t = adk21 t by rw [eadk29, aup_ne e0]).trans (frk24 t ht).2⟩
  clear pa0_k24 pa1_k24 pa2_k24 pa3_k24 pc0_k24 pc1_k24 pc2_k24 pc3_k24 frk24 ectk29 egh26 Rk24 eadk29 h23
  refine g_putF hC hq (fs' := [vi (0), vi (0), .ref q1, vi (0), .ref q9, .ref q17, .ref q25, .null, .null, .null, .null, vi (0), .null, .null, .null, .null, .null, .null, .null, .null, vi (0), .null, vi (0), .null, .null, .null, .null, vi (0)]) dX7_init_33 gp_RX7_20 h27 ⟨rfl, rfl⟩ rfl (Nat.le_of_ble_eq_true rfl) ?_
  obtain ⟨gh30, egh30⟩ : ∃ g_, g_ = gset gh26 xa (gO 11 [vi (0), vi (0), .ref q1, vi (0), .ref q9, .ref q17, .ref q25, .null, .null, .null, .null, vi (0), .null, .null, .null, .null, .null, .null, .null, .null, vi (0), .null, vi (0), .null, .null, .null, .null, vi (0)]) := ⟨_, rfl⟩
  rw [← egh30]
  have h31 : gh30 xa = some (gO 11 [vi (0), vi (0), .ref q1, vi (0), .ref q9, .ref q17, .ref q25, .null, .null, .null, .null, vi (0), .null, .null, .null, .null, .null, .null, .null, .null, vi (0), .null, vi (0), .null, .null, .null, .null, vi (0)]) := by rw [egh30]; exact gset_eq
  have Rk32 := Rk29.put pc0_k29 (gO 11 [vi (0), vi (0), .ref q1, vi (0), .ref q9, .ref q17, .ref q25, .null, .null, .null, .null, vi (0), .null, .null, .null, .null, .null, .null, .null, .null, vi (0), .null, vi (0), .null, .null, .null, .null, vi (0)])
  obtain ⟨ctk32, ectk32⟩ : ∃ x, x = cup ctk29 (0, 0, 0) (gO 11 [vi (0), vi (0), .ref q1, vi (0), .ref q9, .ref q17, .ref q25, .null, .null, .null, .null, vi (0), .null, .null, .null, .null, .null, .null, .null, .null, vi (0), .null, vi (0), .null, .null, .null, .null, vi (0)]) := ⟨_, rfl⟩
  rw [pa0_k29, ← ectk32, ← egh30] at Rk32
  have pa0_k32 := pa0_k29
  have pc0_k32 : ctk32 (0, 0, 0) = some (gO 11 [vi (0), vi (0), .ref q1, vi (0), .ref q9, .ref q17, .ref q25, .null, .null, .null, .null, vi (0), .null, .null, .null, .null, .null, .null, .null, .null, vi (0), .null, vi (0), .null, .null, .null, .null, vi (0)]) := by rw [ectk32, cup_eq]
  have pa1_k32 := pa1_k29
  have pc1_k32 : ctk32 (1, 2, 0) = some (gI 0 8 (fun _ => 0)) := by rw [ectk32, cup_ne (by simp)]; exact pc1_k29
  have pa2_k32 := pa2_k29
  have pc2_k32 : ctk32 (1, 4, 0) = some (gI 1 14 (fun _ => 0)) := by rw [ectk32, cup_ne (by simp)]; exact pc2_k29
  have pa3_k32 := pa3_k29
  have pc3_k32 : ctk32 (1, 5, 0) = some (gI 1 14 (fun _ => 0)) := by rw [ectk32, cup_ne (by simp)]; exact pc3_k29
  have pa4_k32 := pa4_k29
  have pc4_k32 : ctk32 (1, 6, 0) = some (gI 1 14 (fun _ => 0)) := by rw [ectk32, cup_ne (by simp)]; exact pc4_k29
  have frk32 : ∀ t : Tg, (2 ≤ t.1) → ctk32 t = ct t ∧ adk29 t = ad t := fun t ht => by
    have e0 : t ≠ (0, 0, 0) := fun e => by rw [e] at ht; simp only at ht; omega
    exact ⟨(show ctk32 t = ctk29 t by rw [ectk32, cup_ne e0]).trans (frk29 t ht).1, (frk29 t ht).2⟩
  clear pa0_k29 pa1_k29 pa2_k29 pa3_k29 pa4_k29 pc0_k29 pc1_k29 pc2_k29 pc3_k29 pc4_k29 frk29 ectk32 egh30 Rk29 h27 h28
  refine g_ald_n hC dX7_init_36 rfl ?_
  refine g_bipush (z := 14) hC dX7_init_37 rfl ?_
  refine g_newI (n := 14) hC dX7_init_39 ga_int rfl (by decide) (by decide) (by decide) (fun q33 hnq33 => ?_)
  obtain ⟨gh34, egh34⟩ : ∃ g_, g_ = gset gh30 q33 (gI 1 14 (fun _ => 0)) := ⟨_, rfl⟩
  rw [← egh34]
  have h35 : gh34 xa = some (gO 11 [vi (0), vi (0), .ref q1, vi (0), .ref q9, .ref q17, .ref q25, .null, .null, .null, .null, vi (0), .null, .null, .null, .null, .null, .null, .null, .null, vi (0), .null, vi (0), .null, .null, .null, .null, vi (0)]) := by rw [egh34, gset_ne (fun z => by rw [z, hnq33] at h31; cases h31)]; exact h31
  have h36 : gh34 q33 = some (gI 1 14 (fun _ => 0)) := by rw [egh34]; exact gset_eq
  have Rk37 := Rk32.new (t := (1, 7, 0)) hnq33 (gI 1 14 (fun _ => 0))
  obtain ⟨adk37, eadk37⟩ : ∃ x, x = aup adk29 (1, 7, 0) q33 := ⟨_, rfl⟩
  obtain ⟨ctk37, ectk37⟩ : ∃ x, x = cup ctk32 (1, 7, 0) (gI 1 14 (fun _ => 0)) := ⟨_, rfl⟩
  rw [← eadk37, ← ectk37, ← egh34] at Rk37
  have pa0_k37 : adk37 (0, 0, 0) = xa := by rw [eadk37, aup_ne (by simp)]; exact pa0_k32
  have pc0_k37 : ctk37 (0, 0, 0) = some (gO 11 [vi (0), vi (0), .ref q1, vi (0), .ref q9, .ref q17, .ref q25, .null, .null, .null, .null, vi (0), .null, .null, .null, .null, .null, .null, .null, .null, vi (0), .null, vi (0), .null, .null, .null, .null, vi (0)]) := by rw [ectk37, cup_ne (by simp)]; exact pc0_k32
  have pa1_k37 : adk37 (1, 2, 0) = q1 := by rw [eadk37, aup_ne (by simp)]; exact pa1_k32
  have pc1_k37 : ctk37 (1, 2, 0) = some (gI 0 8 (fun _ => 0)) := by rw [ectk37, cup_ne (by simp)]; exact pc1_k32
  have pa2_k37 : adk37 (1, 4, 0) = q9 := by rw [eadk37, aup_ne (by simp)]; exact pa2_k32
  have pc2_k37 : ctk37 (1, 4, 0) = some (gI 1 14 (fun _ => 0)) := by rw [ectk37, cup_ne (by simp)]; exact pc2_k32
  have pa3_k37 : adk37 (1, 5, 0) = q17 := by rw [eadk37, aup_ne (by simp)]; exact pa3_k32
  have pc3_k37 : ctk37 (1, 5, 0) = some (gI 1 14 (fun _ => 0)) := by rw [ectk37, cup_ne (by simp)]; exact pc3_k32
  have pa4_k37 : adk37 (1, 6, 0) = q25 := by rw [eadk37, aup_ne (by simp)]; exact pa4_k32
  have pc4_k37 : ctk37 (1, 6, 0) = some (gI 1 14 (fun _ => 0)) := by rw [ectk37, cup_ne (by simp)]; exact pc4_k32
  have pa5_k37 : adk37 (1, 7, 0) = q33 := by rw [eadk37, aup_eq]
  have pc5_k37 : ctk37 (1, 7, 0) = some (gI 1 14 (fun _ => 0)) := by rw [ectk37, cup_eq]
  have frk37 : ∀ t : Tg, (2 ≤ t.1) → ctk37 t = ct t ∧ adk37 t = ad t := fun t ht => by
    have e0 : t ≠ (1, 7, 0) := fun e => by rw [e] at ht; simp only at ht; omega
    exact ⟨(show ctk37 t = ctk32 t by rw [ectk37, cup_ne e0]).trans (frk32 t ht).1, (show adk37 t = adk29 t by rw [eadk37, aup_ne e0]).trans (frk32 t ht).2⟩
  clear pa0_k32 pa1_k32 pa2_k32 pa3_k32 pa4_k32 pc0_k32 pc1_k32 pc2_k32 pc3_k32 pc4_k32 frk32 ectk37 egh34 Rk32 eadk37 h31
  refine g_putF hC hq (fs' := [vi (0), vi (0), .ref q1, vi (0), .ref q9, .ref q17, .ref q25, .ref q33, .null, .null, .null, vi (0), .null, .null, .null, .null, .null, .null, .null, .null, vi (0), .null, vi (0), .null, .null, .null, .null, vi (0)]) dX7_init_41 gp_RX7_23 h35 ⟨rfl, rfl⟩ rfl (Nat.le_of_ble_eq_true rfl) ?_
  obtain ⟨gh38, egh38⟩ : ∃ g_, g_ = gset gh34 xa (gO 11 [vi (0), vi (0), .ref q1, vi (0), .ref q9, .ref q17, .ref q25, .ref q33, .null, .null, .null, vi (0), .null, .null, .null, .null, .null, .null, .null, .null, vi (0), .null, vi (0), .null, .null, .null, .null, vi (0)]) := ⟨_, rfl⟩
  rw [← egh38]
  have h39 : gh38 xa = some (gO 11 [vi (0), vi (0), .ref q1, vi (0), .ref q9, .ref q17, .ref q25, .ref q33, .null, .null, .null, vi (0), .null, .null, .null, .null, .null, .null, .null, .null, vi (0), .null, vi (0), .null, .null, .null, .null, vi (0)]) := by rw [egh38]; exact gset_eq
  have Rk40 := Rk37.put pc0_k37 (gO 11 [vi (0), vi (0), .ref q1, vi (0), .ref q9, .ref q17, .ref q25, .ref q33, .null, .null, .null, vi (0), .null, .null, .null, .null, .null, .null, .null, .null, vi (0), .null, vi (0), .null, .null, .null, .null, vi (0)])
  obtain ⟨ctk40, ectk40⟩ : ∃ x, x = cup ctk37 (0, 0, 0) (gO 11 [vi (0), vi (0), .ref q1, vi (0), .ref q9, .ref q17, .ref q25, .ref q33, .null, .null, .null, vi (0), .null, .null, .null, .null, .null, .null, .null, .null, vi (0), .null, vi (0), .null, .null, .null, .null, vi (0)]) := ⟨_, rfl⟩
  rw [pa0_k37, ← ectk40, ← egh38] at Rk40
  have pa0_k40 := pa0_k37
  have pc0_k40 : ctk40 (0, 0, 0) = some (gO 11 [vi (0), vi (0), .ref q1, vi (0), .ref q9, .ref q17, .ref q25, .ref q33, .null, .null, .null, vi (0), .null, .null, .null, .null, .null, .null, .null, .null, vi (0), .null, vi (0), .null, .null, .null, .null, vi (0)]) := by rw [ectk40, cup_eq]
  have pa1_k40 := pa1_k37
  have pc1_k40 : ctk40 (1, 2, 0) = some (gI 0 8 (fun _ => 0)) := by rw [ectk40, cup_ne (by simp)]; exact pc1_k37
  have pa2_k40 := pa2_k37
  have pc2_k40 : ctk40 (1, 4, 0) = some (gI 1 14 (fun _ => 0)) := by rw [ectk40, cup_ne (by simp)]; exact pc2_k37
  have pa3_k40 := pa3_k37
  have pc3_k40 : ctk40 (1, 5, 0) = some (gI 1 14 (fun _ => 0)) := by rw [ectk40, cup_ne (by simp)]; exact pc3_k37
  have pa4_k40 := pa4_k37
  have pc4_k40 : ctk40 (1, 6, 0) = some (gI 1 14 (fun _ => 0)) := by rw [ectk40, cup_ne (by simp)]; exact pc4_k37
  have pa5_k40 := pa5_k37
  have pc5_k40 : ctk40 (1, 7, 0) = some (gI 1 14 (fun _ => 0)) := by rw [ectk40, cup_ne (by simp)]; exact pc5_k37
  have frk40 : ∀ t : Tg, (2 ≤ t.1) → ctk40 t = ct t ∧ adk37 t = ad t := fun t ht => by
    have e0 : t ≠ (0, 0, 0) := fun e => by rw [e] at ht; simp only at ht; omega
    exact ⟨(show ctk40 t = ctk37 t by rw [ectk40, cup_ne e0]).trans (frk37 t ht).1, (frk37 t ht).2⟩
  clear pa0_k37 pa1_k37 pa2_k37 pa3_k37 pa4_k37 pa5_k37 pc0_k37 pc1_k37 pc2_k37 pc3_k37 pc4_k37 pc5_k37 frk37 ectk40 egh38 Rk37 h35 h36
  refine g_ald_n hC dX7_init_44 rfl ?_
  refine g_bipush (z := 84) hC dX7_init_45 rfl ?_
  refine g_newI (n := 84) hC dX7_init_47 ga_int rfl (by decide) (by decide) (by decide) (fun q41 hnq41 => ?_)
  obtain ⟨gh42, egh42⟩ : ∃ g_, g_ = gset gh38 q41 (gI 1 84 (fun _ => 0)) := ⟨_, rfl⟩
  rw [← egh42]
  have h43 : gh42 xa = some (gO 11 [vi (0), vi (0), .ref q1, vi (0), .ref q9, .ref q17, .ref q25, .ref q33, .null, .null, .null, vi (0), .null, .null, .null, .null, .null, .null, .null, .null, vi (0), .null, vi (0), .null, .null, .null, .null, vi (0)]) := by rw [egh42, gset_ne (fun z => by rw [z, hnq41] at h39; cases h39)]; exact h39
  have h44 : gh42 q41 = some (gI 1 84 (fun _ => 0)) := by rw [egh42]; exact gset_eq
  have Rk45 := Rk40.new (t := (1, 8, 0)) hnq41 (gI 1 84 (fun _ => 0))
  obtain ⟨adk45, eadk45⟩ : ∃ x, x = aup adk37 (1, 8, 0) q41 := ⟨_, rfl⟩
  obtain ⟨ctk45, ectk45⟩ : ∃ x, x = cup ctk40 (1, 8, 0) (gI 1 84 (fun _ => 0)) := ⟨_, rfl⟩
  rw [← eadk45, ← ectk45, ← egh42] at Rk45
  have pa0_k45 : adk45 (0, 0, 0) = xa := by rw [eadk45, aup_ne (by simp)]; exact pa0_k40
  have pc0_k45 : ctk45 (0, 0, 0) = some (gO 11 [vi (0), vi (0), .ref q1, vi (0), .ref q9, .ref q17, .ref q25, .ref q33, .null, .null, .null, vi (0), .null, .null, .null, .null, .null, .null, .null, .null, vi (0), .null, vi (0), .null, .null, .null, .null, vi (0)]) := by rw [ectk45, cup_ne (by simp)]; exact pc0_k40
  have pa1_k45 : adk45 (1, 2, 0) = q1 := by rw [eadk45, aup_ne (by simp)]; exact pa1_k40
  have pc1_k45 : ctk45 (1, 2, 0) = some (gI 0 8 (fun _ => 0)) := by rw [ectk45, cup_ne (by simp)]; exact pc1_k40
  have pa2_k45 : adk45 (1, 4, 0) = q9 := by rw [eadk45, aup_ne (by simp)]; exact pa2_k40
  have pc2_k45 : ctk45 (1, 4, 0) = some (gI 1 14 (fun _ => 0)) := by rw [ectk45, cup_ne (by simp)]; exact pc2_k40
  have pa3_k45 : adk45 (1, 5, 0) = q17 := by rw [eadk45, aup_ne (by simp)]; exact pa3_k40
  have pc3_k45 : ctk45 (1, 5, 0) = some (gI 1 14 (fun _ => 0)) := by rw [ectk45, cup_ne (by simp)]; exact pc3_k40
  have pa4_k45 : adk45 (1, 6, 0) = q25 := by rw [eadk45, aup_ne (by simp)]; exact pa4_k40
  have pc4_k45 : ctk45 (1, 6, 0) = some (gI 1 14 (fun _ => 0)) := by rw [ectk45, cup_ne (by simp)]; exact pc4_k40
  have pa5_k45 : adk45 (1, 7, 0) = q33 := by rw [eadk45, aup_ne (by simp)]; exact pa5_k40
  have pc5_k45 : ctk45 (1, 7, 0) = some (gI 1 14 (fun _ => 0)) := by rw [ectk45, cup_ne (by simp)]; exact pc5_k40
  have pa6_k45 : adk45 (1, 8, 0) = q41 := by rw [eadk45, aup_eq]
  have pc6_k45 : ctk45 (1, 8, 0) = some (gI 1 84 (fun _ => 0)) := by rw [ectk45, cup_eq]
  have frk45 : ∀ t : Tg, (2 ≤ t.1) → ctk45 t = ct t ∧ adk45 t = ad t := fun t ht => by
    have e0 : t ≠ (1, 8, 0) := fun e => by rw [e] at ht; simp only at ht; omega
    exact ⟨(show ctk45 t = ctk40 t by rw [ectk45, cup_ne e0]).trans (frk40 t ht).1, (show adk45 t = adk37 t by rw [eadk45, aup_ne e0]).trans (frk40 t ht).2⟩
  clear pa0_k40 pa1_k40 pa2_k40 pa3_k40 pa4_k40 pa5_k40 pc0_k40 pc1_k40 pc2_k40 pc3_k40 pc4_k40 pc5_k40 frk40 ectk45 egh42 Rk40 eadk45 h39
  refine g_putF hC hq (fs' := [vi (0), vi (0), .ref q1, vi (0), .ref q9, .ref q17, .ref q25, .ref q33, .ref q41, .null, .null, vi (0), .null, .null, .null, .null, .null, .null, .null, .null, vi (0), .null, vi (0), .null, .null, .null, .null, vi (0)]) dX7_init_49 gp_RX7_26 h43 ⟨rfl, rfl⟩ rfl (Nat.le_of_ble_eq_true rfl) ?_
  obtain ⟨gh46, egh46⟩ : ∃ g_, g_ = gset gh42 xa (gO 11 [vi (0), vi (0), .ref q1, vi (0), .ref q9, .ref q17, .ref q25, .ref q33, .ref q41, .null, .null, vi (0), .null, .null, .null, .null, .null, .null, .null, .null, vi (0), .null, vi (0), .null, .null, .null, .null, vi (0)]) := ⟨_, rfl⟩
  rw [← egh46]
  have h47 : gh46 xa = some (gO 11 [vi (0), vi (0), .ref q1, vi (0), .ref q9, .ref q17, .ref q25, .ref q33, .ref q41, .null, .null, vi (0), .null, .null, .null, .null, .null, .null, .null, .null, vi (0), .null, vi (0), .null, .null, .null, .null, vi (0)]) := by rw [egh46]; exact gset_eq
  have Rk48 := Rk45.put pc0_k45 (gO 11 [vi (0), vi (0), .ref q1, vi (0), .ref q9, .ref q17, .ref q25, .ref q33, .ref q41, .null, .null, vi (0), .null, .null, .null, .null, .null, .null, .null, .null, vi (0), .null, vi (0), .null, .null, .null, .null, vi (0)])
  obtain ⟨ctk48, ectk48⟩ : ∃ x, x = cup ctk45 (0, 0, 0) (gO 11 [vi (0), vi (0), .ref q1, vi (0), .ref q9, .ref q17, .ref q25, .ref q33, .ref q41, .null, .null, vi (0), .null, .null, .null, .null, .null, .null, .null, .null, vi (0), .null, vi (0), .null, .null, .null, .null, vi (0)]) := ⟨_, rfl⟩
  rw [pa0_k45, ← ectk48, ← egh46] at Rk48
  have pa0_k48 := pa0_k45
  have pc0_k48 : ctk48 (0, 0, 0) = some (gO 11 [vi (0), vi (0), .ref q1, vi (0), .ref q9, .ref q17, .ref q25, .ref q33, .ref q41, .null, .null, vi (0), .null, .null, .null, .null, .null, .null, .null, .null, vi (0), .null, vi (0), .null, .null, .null, .null, vi (0)]) := by rw [ectk48, cup_eq]
  have pa1_k48 := pa1_k45
  have pc1_k48 : ctk48 (1, 2, 0) = some (gI 0 8 (fun _ => 0)) := by rw [ectk48, cup_ne (by simp)]; exact pc1_k45
  have pa2_k48 := pa2_k45
  have pc2_k48 : ctk48 (1, 4, 0) = some (gI 1 14 (fun _ => 0)) := by rw [ectk48, cup_ne (by simp)]; exact pc2_k45
  have pa3_k48 := pa3_k45
  have pc3_k48 : ctk48 (1, 5, 0) = some (gI 1 14 (fun _ => 0)) := by rw [ectk48, cup_ne (by simp)]; exact pc3_k45
  have pa4_k48 := pa4_k45
  have pc4_k48 : ctk48 (1, 6, 0) = some (gI 1 14 (fun _ => 0)) := by rw [ectk48, cup_ne (by simp)]; exact pc4_k45
  have pa5_k48 := pa5_k45
  have pc5_k48 : ctk48 (1, 7, 0) = some (gI 1 14 (fun _ => 0)) := by rw [ectk48, cup_ne (by simp)]; exact pc5_k45
  have pa6_k48 := pa6_k45
  have pc6_k48 : ctk48 (1, 8, 0) = some (gI 1 84 (fun _ => 0)) := by rw [ectk48, cup_ne (by simp)]; exact pc6_k45
  have frk48 : ∀ t : Tg, (2 ≤ t.1) → ctk48 t = ct t ∧ adk45 t = ad t := fun t ht => by
    have e0 : t ≠ (0, 0, 0) := fun e => by rw [e] at ht; simp only at ht; omega
    exact ⟨(show ctk48 t = ctk45 t by rw [ectk48, cup_ne e0]).trans (frk45 t ht).1, (frk45 t ht).2⟩
  clear pa0_k45 pa1_k45 pa2_k45 pa3_k45 pa4_k45 pa5_k45 pa6_k45 pc0_k45 pc1_k45 pc2_k45 pc3_k45 pc4_k45 pc5_k45 pc6_k45 frk45 ectk48 egh46 Rk45 h43 h44
  refine g_ald_n hC dX7_init_52 rfl ?_
  refine g_bipush (z := 84) hC dX7_init_53 rfl ?_
  refine g_newI (n := 84) hC dX7_init_55 ga_int rfl (by decide) (by decide) (by decide) (fun q49 hnq49 => ?_)
  obtain ⟨gh50, egh50⟩ : ∃ g_, g_ = gset gh46 q49 (gI 1 84 (fun _ => 0)) := ⟨_, rfl⟩
  rw [← egh50]
  have h51 : gh50 xa = some (gO 11 [vi (0), vi (0), .ref q1, vi (0), .ref q9, .ref q17, .ref q25, .ref q33, .ref q41, .null, .null, vi (0), .null, .null, .null, .null, .null, .null, .null, .null, vi (0), .null, vi (0), .null, .null, .null, .null, vi (0)]) := by rw [egh50, gset_ne (fun z => by rw [z, hnq49] at h47; cases h47)]; exact h47
  have h52 : gh50 q49 = some (gI 1 84 (fun _ => 0)) := by rw [egh50]; exact gset_eq
  have Rk53 := Rk48.new (t := (1, 9, 0)) hnq49 (gI 1 84 (fun _ => 0))
  obtain ⟨adk53, eadk53⟩ : ∃ x, x = aup adk45 (1, 9, 0) q49 := ⟨_, rfl⟩
  obtain ⟨ctk53, ectk53⟩ : ∃ x, x = cup ctk48 (1, 9, 0) (gI 1 84 (fun _ => 0)) := ⟨_, rfl⟩
  rw [← eadk53, ← ectk53, ← egh50] at Rk53
  have pa0_k53 : adk53 (0, 0, 0) = xa := by rw [eadk53, aup_ne (by simp)]; exact pa0_k48
  have pc0_k53 : ctk53 (0, 0, 0) = some (gO 11 [vi (0), vi (0), .ref q1, vi (0), .ref q9, .ref q17, .ref q25, .ref q33, .ref q41, .null, .null, vi (0), .null, .null, .null, .null, .null, .null, .null, .null, vi (0), .null, vi (0), .null, .null, .null, .null, vi (0)]) := by rw [ectk53, cup_ne (by simp)]; exact pc0_k48
  have pa1_k53 : adk53 (1, 2, 0) = q1 := by rw [eadk53, aup_ne (by simp)]; exact pa1_k48
  have pc1_k53 : ctk53 (1, 2, 0) = some (gI 0 8 (fun _ => 0)) := by rw [ectk53, cup_ne (by simp)]; exact pc1_k48
  have pa2_k53 : adk53 (1, 4, 0) = q9 := by rw [eadk53, aup_ne (by simp)]; exact pa2_k48
  have pc2_k53 : ctk53 (1, 4, 0) = some (gI 1 14 (fun _ => 0)) := by rw [ectk53, cup_ne (by simp)]; exact pc2_k48
  have pa3_k53 : adk53 (1, 5, 0) = q17 := by rw [eadk53, aup_ne (by simp)]; exact pa3_k48
  have pc3_k53 : ctk53 (1, 5, 0) = some (gI 1 14 (fun _ => 0)) := by rw [ectk53, cup_ne (by simp)]; exact pc3_k48
  have pa4_k53 : adk53 (1, 6, 0) = q25 := by rw [eadk53, aup_ne (by simp)]; exact pa4_k48
  have pc4_k53 : ctk53 (1, 6, 0) = some (gI 1 14 (fun _ => 0)) := by rw [ectk53, cup_ne (by simp)]; exact pc4_k48
  have pa5_k53 : adk53 (1, 7, 0) = q33 := by rw [eadk53, aup_ne (by simp)]; exact pa5_k48
  have pc5_k53 : ctk53 (1, 7, 0) = some (gI 1 14 (fun _ => 0)) := by rw [ectk53, cup_ne (by simp)]; exact pc5_k48
  have pa6_k53 : adk53 (1, 8, 0) = q41 := by rw [eadk53, aup_ne (by simp)]; exact pa6_k48
  have pc6_k53 : ctk53 (1, 8, 0) = some (gI 1 84 (fun _ => 0)) := by rw [ectk53, cup_ne (by simp)]; exact pc6_k48
  have pa7_k53 : adk53 (1, 9, 0) = q49 := by rw [eadk53, aup_eq]
  have pc7_k53 : ctk53 (1, 9, 0) = some (gI 1 84 (fun _ => 0)) := by rw [ectk53, cup_eq]
  have frk53 : ∀ t : Tg, (2 ≤ t.1) → ctk53 t = ct t ∧ adk53 t = ad t := fun t ht => by
    have e0 : t ≠ (1, 9, 0) := fun e => by rw [e] at ht; simp only at ht; omega
    exact ⟨(show ctk53 t = ctk48 t by rw [ectk53, cup_ne e0]).trans (frk48 t ht).1, (show adk53 t = adk45 t by rw [eadk53, aup_ne e0]).trans (frk48 t ht).2⟩
  clear pa0_k48 pa1_k48 pa2_k48 pa3_k48 pa4_k48 pa5_k48 pa6_k48 pc0_k48 pc1_k48 pc2_k48 pc3_k48 pc4_k48 pc5_k48 pc6_k48 frk48 ectk53 egh50 Rk48 eadk53 h47
  refine g_putF hC hq (fs' := [vi (0), vi (0), .ref q1, vi (0), .ref q9, .ref q17, .ref q25, .ref q33, .ref q41, .ref q49, .null, vi (0), .null, .null, .null, .null, .null, .null, .null, .null, vi (0), .null, vi (0), .null, .null, .null, .null, vi (0)]) dX7_init_57 gp_RX7_29 h51 ⟨rfl, rfl⟩ rfl (Nat.le_of_ble_eq_true rfl) ?_
  obtain ⟨gh54, egh54⟩ : ∃ g_, g_ = gset gh50 xa (gO 11 [vi (0), vi (0), .ref q1, vi (0), .ref q9, .ref q17, .ref q25, .ref q33, .ref q41, .ref q49, .null, vi (0), .null, .null, .null, .null, .null, .null, .null, .null, vi (0), .null, vi (0), .null, .null, .null, .null, vi (0)]) := ⟨_, rfl⟩
  rw [← egh54]
  have h55 : gh54 xa = some (gO 11 [vi (0), vi (0), .ref q1, vi (0), .ref q9, .ref q17, .ref q25, .ref q33, .ref q41, .ref q49, .null, vi (0), .null, .null, .null, .null, .null, .null, .null, .null, vi (0), .null, vi (0), .null, .null, .null, .null, vi (0)]) := by rw [egh54]; exact gset_eq
  have Rk56 := Rk53.put pc0_k53 (gO 11 [vi (0), vi (0), .ref q1, vi (0), .ref q9, .ref q17, .ref q25, .ref q33, .ref q41, .ref q49, .null, vi (0), .null, .null, .null, .null, .null, .null, .null, .null, vi (0), .null, vi (0), .null, .null, .null, .null, vi (0)])
  obtain ⟨ctk56, ectk56⟩ : ∃ x, x = cup ctk53 (0, 0, 0) (gO 11 [vi (0), vi (0), .ref q1, vi (0), .ref q9, .ref q17, .ref q25, .ref q33, .ref q41, .ref q49, .null, vi (0), .null, .null, .null, .null, .null, .null, .null, .null, vi (0), .null, vi (0), .null, .null, .null, .null, vi (0)]) := ⟨_, rfl⟩
  rw [pa0_k53, ← ectk56, ← egh54] at Rk56
  have pa0_k56 := pa0_k53
  have pc0_k56 : ctk56 (0, 0, 0) = some (gO 11 [vi (0), vi (0), .ref q1, vi (0), .ref q9, .ref q17, .ref q25, .ref q33, .ref q41, .ref q49, .null, vi (0), .null, .null, .null, .null, .null, .null, .null, .null, vi (0), .null, vi (0), .null, .null, .null, .null, vi (0)]) := by rw [ectk56, cup_eq]
  have pa1_k56 := pa1_k53
  have pc1_k56 : ctk56 (1, 2, 0) = some (gI 0 8 (fun _ => 0)) := by rw [ectk56, cup_ne (by simp)]; exact pc1_k53
  have pa2_k56 := pa2_k53
  have pc2_k56 : ctk56 (1, 4, 0) = some (gI 1 14 (fun _ => 0)) := by rw [ectk56, cup_ne (by simp)]; exact pc2_k53
  have pa3_k56 := pa3_k53
  have pc3_k56 : ctk56 (1, 5, 0) = some (gI 1 14 (fun _ => 0)) := by rw [ectk56, cup_ne (by simp)]; exact pc3_k53
  have pa4_k56 := pa4_k53
  have pc4_k56 : ctk56 (1, 6, 0) = some (gI 1 14 (fun _ => 0)) := by rw [ectk56, cup_ne (by simp)]; exact pc4_k53
  have pa5_k56 := pa5_k53
  have pc5_k56 : ctk56 (1, 7, 0) = some (gI 1 14 (fun _ => 0)) := by rw [ectk56, cup_ne (by simp)]; exact pc5_k53
  have pa6_k56 := pa6_k53
  have pc6_k56 : ctk56 (1, 8, 0) = some (gI 1 84 (fun _ => 0)) := by rw [ectk56, cup_ne (by simp)]; exact pc6_k53
  have pa7_k56 := pa7_k53
  have pc7_k56 : ctk56 (1, 9, 0) = some (gI 1 84 (fun _ => 0)) := by rw [ectk56, cup_ne (by simp)]; exact pc7_k53
  have frk56 : ∀ t : Tg, (2 ≤ t.1) → ctk56 t = ct t ∧ adk53 t = ad t := fun t ht => by
    have e0 : t ≠ (0, 0, 0) := fun e => by rw [e] at ht; simp only at ht; omega
    exact ⟨(show ctk56 t = ctk53 t by rw [ectk56, cup_ne e0]).trans (frk53 t ht).1, (frk53 t ht).2⟩
  clear pa0_k53 pa1_k53 pa2_k53 pa3_k53 pa4_k53 pa5_k53 pa6_k53 pa7_k53 pc0_k53 pc1_k53 pc2_k53 pc3_k53 pc4_k53 pc5_k53 pc6_k53 pc7_k53 frk53 ectk56 egh54 Rk53 h51 h52
  refine g_ald_n hC dX7_init_60 rfl ?_
  refine g_sipush (z := 672) hC dX7_init_61 rfl ?_
  refine g_newC (n := 672) hC dX7_init_64 ga_char rfl (by decide) (by decide) (by decide) (fun q57 hnq57 => ?_)
  obtain ⟨gh58, egh58⟩ : ∃ g_, g_ = gset gh54 q57 (gI 0 672 (fun _ => 0)) := ⟨_, rfl⟩
  rw [← egh58]
  have h59 : gh58 xa = some (gO 11 [vi (0), vi (0), .ref q1, vi (0), .ref q9, .ref q17, .ref q25, .ref q33, .ref q41, .ref q49, .null, vi (0), .null, .null, .null, .null, .null, .null, .null, .null, vi (0), .null, vi (0), .null, .null, .null, .null, vi (0)]) := by rw [egh58, gset_ne (fun z => by rw [z, hnq57] at h55; cases h55)]; exact h55
  have h60 : gh58 q57 = some (gI 0 672 (fun _ => 0)) := by rw [egh58]; exact gset_eq
  have Rk61 := Rk56.new (t := (1, 10, 0)) hnq57 (gI 0 672 (fun _ => 0))
  obtain ⟨adk61, eadk61⟩ : ∃ x, x = aup adk53 (1, 10, 0) q57 := ⟨_, rfl⟩
  obtain ⟨ctk61, ectk61⟩ : ∃ x, x = cup ctk56 (1, 10, 0) (gI 0 672 (fun _ => 0)) := ⟨_, rfl⟩
  rw [← eadk61, ← ectk61, ← egh58] at Rk61
  have pa0_k61 : adk61 (0, 0, 0) = xa := by rw [eadk61, aup_ne (by simp)]; exact pa0_k56
  have pc0_k61 : ctk61 (0, 0, 0) = some (gO 11 [vi (0), vi (0), .ref q1, vi (0), .ref q9, .ref q17, .ref q25, .ref q33, .ref q41, .ref q49, .null, vi (0), .null, .null, .null, .null, .null, .null, .null, .null, vi (0), .null, vi (0), .null, .null, .null, .null, vi (0)]) := by rw [ectk61, cup_ne (by simp)]; exact pc0_k56
  have pa1_k61 : adk61 (1, 2, 0) = q1 := by rw [eadk61, aup_ne (by simp)]; exact pa1_k56
  have pc1_k61 : ctk61 (1, 2, 0) = some (gI 0 8 (fun _ => 0)) := by rw [ectk61, cup_ne (by simp)]; exact pc1_k56
  have pa2_k61 : adk61 (1, 4, 0) = q9 := by rw [eadk61, aup_ne (by simp)]; exact pa2_k56
  have pc2_k61 : ctk61 (1, 4, 0) = some (gI 1 14 (fun _ => 0)) := by rw [ectk61, cup_ne (by simp)]; exact pc2_k56
  have pa3_k61 : adk61 (1, 5, 0) = q17 := by rw [eadk61, aup_ne (by simp)]; exact pa3_k56
  have pc3_k61 : ctk61 (1, 5, 0) = some (gI 1 14 (fun _ => 0)) := by rw [ectk61, cup_ne (by simp)]; exact pc3_k56
  have pa4_k61 : adk61 (1, 6, 0) = q25 := by rw [eadk61, aup_ne (by simp)]; exact pa4_k56
  have pc4_k61 : ctk61 (1, 6, 0) = some (gI 1 14 (fun _ => 0)) := by rw [ectk61, cup_ne (by simp)]; exact pc4_k56
  have pa5_k61 : adk61 (1, 7, 0) = q33 := by rw [eadk61, aup_ne (by simp)]; exact pa5_k56
  have pc5_k61 : ctk61 (1, 7, 0) = some (gI 1 14 (fun _ => 0)) := by rw [ectk61, cup_ne (by simp)]; exact pc5_k56
  have pa6_k61 : adk61 (1, 8, 0) = q41 := by rw [eadk61, aup_ne (by simp)]; exact pa6_k56
  have pc6_k61 : ctk61 (1, 8, 0) = some (gI 1 84 (fun _ => 0)) := by rw [ectk61, cup_ne (by simp)]; exact pc6_k56
  have pa7_k61 : adk61 (1, 9, 0) = q49 := by rw [eadk61, aup_ne (by simp)]; exact pa7_k56
  have pc7_k61 : ctk61 (1, 9, 0) = some (gI 1 84 (fun _ => 0)) := by rw [ectk61, cup_ne (by simp)]; exact pc7_k56
  have pa8_k61 : adk61 (1, 10, 0) = q57 := by rw [eadk61, aup_eq]
  have pc8_k61 : ctk61 (1, 10, 0) = some (gI 0 672 (fun _ => 0)) := by rw [ectk61, cup_eq]
  have frk61 : ∀ t : Tg, (2 ≤ t.1) → ctk61 t = ct t ∧ adk61 t = ad t := fun t ht => by
    have e0 : t ≠ (1, 10, 0) := fun e => by rw [e] at ht; simp only at ht; omega
    exact ⟨(show ctk61 t = ctk56 t by rw [ectk61, cup_ne e0]).trans (frk56 t ht).1, (show adk61 t = adk53 t by rw [eadk61, aup_ne e0]).trans (frk56 t ht).2⟩
  clear pa0_k56 pa1_k56 pa2_k56 pa3_k56 pa4_k56 pa5_k56 pa6_k56 pa7_k56 pc0_k56 pc1_k56 pc2_k56 pc3_k56 pc4_k56 pc5_k56 pc6_k56 pc7_k56 frk56 ectk61 egh58 Rk56 eadk61 h55
  refine g_putF hC hq (fs' := [vi (0), vi (0), .ref q1, vi (0), .ref q9, .ref q17, .ref q25, .ref q33, .ref q41, .ref q49, .ref q57, vi (0), .null, .null, .null, .null, .null, .null, .null, .null, vi (0), .null, vi (0), .null, .null, .null, .null, vi (0)]) dX7_init_66 gp_RX7_32 h59 ⟨rfl, rfl⟩ rfl (Nat.le_of_ble_eq_true rfl) ?_
  obtain ⟨gh62, egh62⟩ : ∃ g_, g_ = gset gh58 xa (gO 11 [vi (0), vi (0), .ref q1, vi (0), .ref q9, .ref q17, .ref q25, .ref q33, .ref q41, .ref q49, .ref q57, vi (0), .null, .null, .null, .null, .null, .null, .null, .null, vi (0), .null, vi (0), .null, .null, .null, .null, vi (0)]) := ⟨_, rfl⟩
  rw [← egh62]
  have h63 : gh62 xa = some (gO 11 [vi (0), vi (0), .ref q1, vi (0), .ref q9, .ref q17, .ref q25, .ref q33, .ref q41, .ref q49, .ref q57, vi (0), .null, .null, .null, .null, .null, .null, .null, .null, vi (0), .null, vi (0), .null, .null, .null, .null, vi (0)]) := by rw [egh62]; exact gset_eq
  have Rk64 := Rk61.put pc0_k61 (gO 11 [vi (0), vi (0), .ref q1, vi (0), .ref q9, .ref q17, .ref q25, .ref q33, .ref q41, .ref q49, .ref q57, vi (0), .null, .null, .null, .null, .null, .null, .null, .null, vi (0), .null, vi (0), .null, .null, .null, .null, vi (0)])
  obtain ⟨ctk64, ectk64⟩ : ∃ x, x = cup ctk61 (0, 0, 0) (gO 11 [vi (0), vi (0), .ref q1, vi (0), .ref q9, .ref q17, .ref q25, .ref q33, .ref q41, .ref q49, .ref q57, vi (0), .null, .null, .null, .null, .null, .null, .null, .null, vi (0), .null, vi (0), .null, .null, .null, .null, vi (0)]) := ⟨_, rfl⟩
  rw [pa0_k61, ← ectk64, ← egh62] at Rk64
  have pa0_k64 := pa0_k61
  have pc0_k64 : ctk64 (0, 0, 0) = some (gO 11 [vi (0), vi (0), .ref q1, vi (0), .ref q9, .ref q17, .ref q25, .ref q33, .ref q41, .ref q49, .ref q57, vi (0), .null, .null, .null, .null, .null, .null, .null, .null, vi (0), .null, vi (0), .null, .null, .null, .null, vi (0)]) := by rw [ectk64, cup_eq]
  have pa1_k64 := pa1_k61
  have pc1_k64 : ctk64 (1, 2, 0) = some (gI 0 8 (fun _ => 0)) := by rw [ectk64, cup_ne (by simp)]; exact pc1_k61
  have pa2_k64 := pa2_k61
  have pc2_k64 : ctk64 (1, 4, 0) = some (gI 1 14 (fun _ => 0)) := by rw [ectk64, cup_ne (by simp)]; exact pc2_k61
  have pa3_k64 := pa3_k61
  have pc3_k64 : ctk64 (1, 5, 0) = some (gI 1 14 (fun _ => 0)) := by rw [ectk64, cup_ne (by simp)]; exact pc3_k61
  have pa4_k64 := pa4_k61
  have pc4_k64 : ctk64 (1, 6, 0) = some (gI 1 14 (fun _ => 0)) := by rw [ectk64, cup_ne (by simp)]; exact pc4_k61
  have pa5_k64 := pa5_k61
  have pc5_k64 : ctk64 (1, 7, 0) = some (gI 1 14 (fun _ => 0)) := by rw [ectk64, cup_ne (by simp)]; exact pc5_k61
  have pa6_k64 := pa6_k61
  have pc6_k64 : ctk64 (1, 8, 0) = some (gI 1 84 (fun _ => 0)) := by rw [ectk64, cup_ne (by simp)]; exact pc6_k61
  have pa7_k64 := pa7_k61
  have pc7_k64 : ctk64 (1, 9, 0) = some (gI 1 84 (fun _ => 0)) := by rw [ectk64, cup_ne (by simp)]; exact pc7_k61
  have pa8_k64 := pa8_k61
  have pc8_k64 : ctk64 (1, 10, 0) = some (gI 0 672 (fun _ => 0)) := by rw [ectk64, cup_ne (by simp)]; exact pc8_k61
  have frk64 : ∀ t : Tg, (2 ≤ t.1) → ctk64 t = ct t ∧ adk61 t = ad t := fun t ht => by
    have e0 : t ≠ (0, 0, 0) := fun e => by rw [e] at ht; simp only at ht; omega
    exact ⟨(show ctk64 t = ctk61 t by rw [ectk64, cup_ne e0]).trans (frk61 t ht).1, (frk61 t ht).2⟩
  clear pa0_k61 pa1_k61 pa2_k61 pa3_k61 pa4_k61 pa5_k61 pa6_k61 pa7_k61 pa8_k61 pc0_k61 pc1_k61 pc2_k61 pc3_k61 pc4_k61 pc5_k61 pc6_k61 pc7_k61 pc8_k61 frk61 ectk64 egh62 Rk61 h59 h60
  refine g_ald_n hC dX7_init_69 rfl ?_
  refine g_iconst hC dX7_init_70 rfl ?_
  refine g_newI (n := 4) hC dX7_init_71 ga_int rfl (by decide) (by decide) (by decide) (fun q65 hnq65 => ?_)
  obtain ⟨gh66, egh66⟩ : ∃ g_, g_ = gset gh62 q65 (gI 1 4 (fun _ => 0)) := ⟨_, rfl⟩
  rw [← egh66]
  have h67 : gh66 xa = some (gO 11 [vi (0), vi (0), .ref q1, vi (0), .ref q9, .ref q17, .ref q25, .ref q33, .ref q41, .ref q49, .ref q57, vi (0), .null, .null, .null, .null, .null, .null, .null, .null, vi (0), .null, vi (0), .null, .null, .null, .null, vi (0)]) := by rw [egh66, gset_ne (fun z => by rw [z, hnq65] at h63; cases h63)]; exact h63
  have h68 : gh66 q65 = some (gI 1 4 (fun _ => 0)) := by rw [egh66]; exact gset_eq
  have Rk69 := Rk64.new (t := (1, 12, 0)) hnq65 (gI 1 4 (fun _ => 0))
  obtain ⟨adk69, eadk69⟩ : ∃ x, x = aup adk61 (1, 12, 0) q65 := ⟨_, rfl⟩
  obtain ⟨ctk69, ectk69⟩ : ∃ x, x = cup ctk64 (1, 12, 0) (gI 1 4 (fun _ => 0)) := ⟨_, rfl⟩
  rw [← eadk69, ← ectk69, ← egh66] at Rk69
  have pa0_k69 : adk69 (0, 0, 0) = xa := by rw [eadk69, aup_ne (by simp)]; exact pa0_k64
  have pc0_k69 : ctk69 (0, 0, 0) = some (gO 11 [vi (0), vi (0), .ref q1, vi (0), .ref q9, .ref q17, .ref q25, .ref q33, .ref q41, .ref q49, .ref q57, vi (0), .null, .null, .null, .null, .null, .null, .null, .null, vi (0), .null, vi (0), .null, .null, .null, .null, vi (0)]) := by rw [ectk69, cup_ne (by simp)]; exact pc0_k64
  have pa1_k69 : adk69 (1, 2, 0) = q1 := by rw [eadk69, aup_ne (by simp)]; exact pa1_k64
  have pc1_k69 : ctk69 (1, 2, 0) = some (gI 0 8 (fun _ => 0)) := by rw [ectk69, cup_ne (by simp)]; exact pc1_k64
  have pa2_k69 : adk69 (1, 4, 0) = q9 := by rw [eadk69, aup_ne (by simp)]; exact pa2_k64
  have pc2_k69 : ctk69 (1, 4, 0) = some (gI 1 14 (fun _ => 0)) := by rw [ectk69, cup_ne (by simp)]; exact pc2_k64
  have pa3_k69 : adk69 (1, 5, 0) = q17 := by rw [eadk69, aup_ne (by simp)]; exact pa3_k64
  have pc3_k69 : ctk69 (1, 5, 0) = some (gI 1 14 (fun _ => 0)) := by rw [ectk69, cup_ne (by simp)]; exact pc3_k64
  have pa4_k69 : adk69 (1, 6, 0) = q25 := by rw [eadk69, aup_ne (by simp)]; exact pa4_k64
  have pc4_k69 : ctk69 (1, 6, 0) = some (gI 1 14 (fun _ => 0)) := by rw [ectk69, cup_ne (by simp)]; exact pc4_k64
  have pa5_k69 : adk69 (1, 7, 0) = q33 := by rw [eadk69, aup_ne (by simp)]; exact pa5_k64
  have pc5_k69 : ctk69 (1, 7, 0) = some (gI 1 14 (fun _ => 0)) := by rw [ectk69, cup_ne (by simp)]; exact pc5_k64
  have pa6_k69 : adk69 (1, 8, 0) = q41 := by rw [eadk69, aup_ne (by simp)]; exact pa6_k64
  have pc6_k69 : ctk69 (1, 8, 0) = some (gI 1 84 (fun _ => 0)) := by rw [ectk69, cup_ne (by simp)]; exact pc6_k64
  have pa7_k69 : adk69 (1, 9, 0) = q49 := by rw [eadk69, aup_ne (by simp)]; exact pa7_k64
  have pc7_k69 : ctk69 (1, 9, 0) = some (gI 1 84 (fun _ => 0)) := by rw [ectk69, cup_ne (by simp)]; exact pc7_k64
  have pa8_k69 : adk69 (1, 10, 0) = q57 := by rw [eadk69, aup_ne (by simp)]; exact pa8_k64
  have pc8_k69 : ctk69 (1, 10, 0) = some (gI 0 672 (fun _ => 0)) := by rw [ectk69, cup_ne (by simp)]; exact pc8_k64
  have pa9_k69 : adk69 (1, 12, 0) = q65 := by rw [eadk69, aup_eq]
  have pc9_k69 : ctk69 (1, 12, 0) = some (gI 1 4 (fun _ => 0)) := by rw [ectk69, cup_eq]
  have frk69 : ∀ t : Tg, (2 ≤ t.1) → ctk69 t = ct t ∧ adk69 t = ad t := fun t ht => by
    have e0 : t ≠ (1, 12, 0) := fun e => by rw [e] at ht; simp only at ht; omega
    exact ⟨(show ctk69 t = ctk64 t by rw [ectk69, cup_ne e0]).trans (frk64 t ht).1, (show adk69 t = adk61 t by rw [eadk69, aup_ne e0]).trans (frk64 t ht).2⟩
  clear pa0_k64 pa1_k64 pa2_k64 pa3_k64 pa4_k64 pa5_k64 pa6_k64 pa7_k64 pa8_k64 pc0_k64 pc1_k64 pc2_k64 pc3_k64 pc4_k64 pc5_k64 pc6_k64 pc7_k64 pc8_k64 frk64 ectk69 egh66 Rk64 eadk69 h63
  refine g_putF hC hq (fs' := [vi (0), vi (0), .ref q1, vi (0), .ref q9, .ref q17, .ref q25, .ref q33, .ref q41, .ref q49, .ref q57, vi (0), .ref q65, .null, .null, .null, .null, .null, .null, .null, vi (0), .null, vi (0), .null, .null, .null, .null, vi (0)]) dX7_init_73 gp_RX7_35 h67 ⟨rfl, rfl⟩ rfl (Nat.le_of_ble_eq_true rfl) ?_
  obtain ⟨gh70, egh70⟩ : ∃ g_, g_ = gset gh66 xa (gO 11 [vi (0), vi (0), .ref q1, vi (0), .ref q9, .ref q17, .ref q25, .ref q33, .ref q41, .ref q49, .ref q57, vi (0), .ref q65, .null, .null, .null, .null, .null, .null, .null, vi (0), .null, vi (0), .null, .null, .null, .null, vi (0)]) := ⟨_, rfl⟩
  rw [← egh70]
  have h71 : gh70 xa = some (gO 11 [vi (0), vi (0), .ref q1, vi (0), .ref q9, .ref q17, .ref q25, .ref q33, .ref q41, .ref q49, .ref q57, vi (0), .ref q65, .null, .null, .null, .null, .null, .null, .null, vi (0), .null, vi (0), .null, .null, .null, .null, vi (0)]) := by rw [egh70]; exact gset_eq
  have Rk72 := Rk69.put pc0_k69 (gO 11 [vi (0), vi (0), .ref q1, vi (0), .ref q9, .ref q17, .ref q25, .ref q33, .ref q41, .ref q49, .ref q57, vi (0), .ref q65, .null, .null, .null, .null, .null, .null, .null, vi (0), .null, vi (0), .null, .null, .null, .null, vi (0)])
  obtain ⟨ctk72, ectk72⟩ : ∃ x, x = cup ctk69 (0, 0, 0) (gO 11 [vi (0), vi (0), .ref q1, vi (0), .ref q9, .ref q17, .ref q25, .ref q33, .ref q41, .ref q49, .ref q57, vi (0), .ref q65, .null, .null, .null, .null, .null, .null, .null, vi (0), .null, vi (0), .null, .null, .null, .null, vi (0)]) := ⟨_, rfl⟩
  rw [pa0_k69, ← ectk72, ← egh70] at Rk72
  have pa0_k72 := pa0_k69
  have pc0_k72 : ctk72 (0, 0, 0) = some (gO 11 [vi (0), vi (0), .ref q1, vi (0), .ref q9, .ref q17, .ref q25, .ref q33, .ref q41, .ref q49, .ref q57, vi (0), .ref q65, .null, .null, .null, .null, .null, .null, .null, vi (0), .null, vi (0), .null, .null, .null, .null, vi (0)]) := by rw [ectk72, cup_eq]
  have pa1_k72 := pa1_k69
  have pc1_k72 : ctk72 (1, 2, 0) = some (gI 0 8 (fun _ => 0)) := by rw [ectk72, cup_ne (by simp)]; exact pc1_k69
  have pa2_k72 := pa2_k69
  have pc2_k72 : ctk72 (1, 4, 0) = some (gI 1 14 (fun _ => 0)) := by rw [ectk72, cup_ne (by simp)]; exact pc2_k69
  have pa3_k72 := pa3_k69
  have pc3_k72 : ctk72 (1, 5, 0) = some (gI 1 14 (fun _ => 0)) := by rw [ectk72, cup_ne (by simp)]; exact pc3_k69
  have pa4_k72 := pa4_k69
  have pc4_k72 : ctk72 (1, 6, 0) = some (gI 1 14 (fun _ => 0)) := by rw [ectk72, cup_ne (by simp)]; exact pc4_k69
  have pa5_k72 := pa5_k69
  have pc5_k72 : ctk72 (1, 7, 0) = some (gI 1 14 (fun _ => 0)) := by rw [ectk72, cup_ne (by simp)]; exact pc5_k69
  have pa6_k72 := pa6_k69
  have pc6_k72 : ctk72 (1, 8, 0) = some (gI 1 84 (fun _ => 0)) := by rw [ectk72, cup_ne (by simp)]; exact pc6_k69
  have pa7_k72 := pa7_k69
  have pc7_k72 : ctk72 (1, 9, 0) = some (gI 1 84 (fun _ => 0)) := by rw [ectk72, cup_ne (by simp)]; exact pc7_k69
  have pa8_k72 := pa8_k69
  have pc8_k72 : ctk72 (1, 10, 0) = some (gI 0 672 (fun _ => 0)) := by rw [ectk72, cup_ne (by simp)]; exact pc8_k69
  have pa9_k72 := pa9_k69
  have pc9_k72 : ctk72 (1, 12, 0) = some (gI 1 4 (fun _ => 0)) := by rw [ectk72, cup_ne (by simp)]; exact pc9_k69
  have frk72 : ∀ t : Tg, (2 ≤ t.1) → ctk72 t = ct t ∧ adk69 t = ad t := fun t ht => by
    have e0 : t ≠ (0, 0, 0) := fun e => by rw [e] at ht; simp only at ht; omega
    exact ⟨(show ctk72 t = ctk69 t by rw [ectk72, cup_ne e0]).trans (frk69 t ht).1, (frk69 t ht).2⟩
  clear pa0_k69 pa1_k69 pa2_k69 pa3_k69 pa4_k69 pa5_k69 pa6_k69 pa7_k69 pa8_k69 pa9_k69 pc0_k69 pc1_k69 pc2_k69 pc3_k69 pc4_k69 pc5_k69 pc6_k69 pc7_k69 pc8_k69 pc9_k69 frk69 ectk72 egh70 Rk69 h67 h68
  refine g_ald_n hC dX7_init_76 rfl ?_
  refine g_iconst hC dX7_init_77 rfl ?_
  refine g_newI (n := 4) hC dX7_init_78 ga_int rfl (by decide) (by decide) (by decide) (fun q73 hnq73 => ?_)
  obtain ⟨gh74, egh74⟩ : ∃ g_, g_ = gset gh70 q73 (gI 1 4 (fun _ => 0)) := ⟨_, rfl⟩
  rw [← egh74]
  have h75 : gh74 xa = some (gO 11 [vi (0), vi (0), .ref q1, vi (0), .ref q9, .ref q17, .ref q25, .ref q33, .ref q41, .ref q49, .ref q57, vi (0), .ref q65, .null, .null, .null, .null, .null, .null, .null, vi (0), .null, vi (0), .null, .null, .null, .null, vi (0)]) := by rw [egh74, gset_ne (fun z => by rw [z, hnq73] at h71; cases h71)]; exact h71
  have h76 : gh74 q73 = some (gI 1 4 (fun _ => 0)) := by rw [egh74]; exact gset_eq
  have Rk77 := Rk72.new (t := (1, 13, 0)) hnq73 (gI 1 4 (fun _ => 0))
  obtain ⟨adk77, eadk77⟩ : ∃ x, x = aup adk69 (1, 13, 0) q73 := ⟨_, rfl⟩
  obtain ⟨ctk77, ectk77⟩ : ∃ x, x = cup ctk72 (1, 13, 0) (gI 1 4 (fun _ => 0)) := ⟨_, rfl⟩
  rw [← eadk77, ← ectk77, ← egh74] at Rk77
  have pa0_k77 : adk77 (0, 0, 0) = xa := by rw [eadk77, aup_ne (by simp)]; exact pa0_k72
  have pc0_k77 : ctk77 (0, 0, 0) = some (gO 11 [vi (0), vi (0), .ref q1, vi (0), .ref q9, .ref q17, .ref q25, .ref q33, .ref q41, .ref q49, .ref q57, vi (0), .ref q65, .null, .null, .null, .null, .null, .null, .null, vi (0), .null, vi (0), .null, .null, .null, .null, vi (0)]) := by rw [ectk77, cup_ne (by simp)]; exact pc0_k72
  have pa1_k77 : adk77 (1, 2, 0) = q1 := by rw [eadk77, aup_ne (by simp)]; exact pa1_k72
  have pc1_k77 : ctk77 (1, 2, 0) = some (gI 0 8 (fun _ => 0)) := by rw [ectk77, cup_ne (by simp)]; exact pc1_k72
  have pa2_k77 : adk77 (1, 4, 0) = q9 := by rw [eadk77, aup_ne (by simp)]; exact pa2_k72
  have pc2_k77 : ctk77 (1, 4, 0) = some (gI 1 14 (fun _ => 0)) := by rw [ectk77, cup_ne (by simp)]; exact pc2_k72
  have pa3_k77 : adk77 (1, 5, 0) = q17 := by rw [eadk77, aup_ne (by simp)]; exact pa3_k72
  have pc3_k77 : ctk77 (1, 5, 0) = some (gI 1 14 (fun _ => 0)) := by rw [ectk77, cup_ne (by simp)]; exact pc3_k72
  have pa4_k77 : adk77 (1, 6, 0) = q25 := by rw [eadk77, aup_ne (by simp)]; exact pa4_k72
  have pc4_k77 : ctk77 (1, 6, 0) = some (gI 1 14 (fun _ => 0)) := by rw [ectk77, cup_ne (by simp)]; exact pc4_k72
  have pa5_k77 : adk77 (1, 7, 0) = q33 := by rw [eadk77, aup_ne (by simp)]; exact pa5_k72
  have pc5_k77 : ctk77 (1, 7, 0) = some (gI 1 14 (fun _ => 0)) := by rw [ectk77, cup_ne (by simp)]; exact pc5_k72
  have pa6_k77 : adk77 (1, 8, 0) = q41 := by rw [eadk77, aup_ne (by simp)]; exact pa6_k72
  have pc6_k77 : ctk77 (1, 8, 0) = some (gI 1 84 (fun _ => 0)) := by rw [ectk77, cup_ne (by simp)]; exact pc6_k72
  have pa7_k77 : adk77 (1, 9, 0) = q49 := by rw [eadk77, aup_ne (by simp)]; exact pa7_k72
  have pc7_k77 : ctk77 (1, 9, 0) = some (gI 1 84 (fun _ => 0)) := by rw [ectk77, cup_ne (by simp)]; exact pc7_k72
  have pa8_k77 : adk77 (1, 10, 0) = q57 := by rw [eadk77, aup_ne (by simp)]; exact pa8_k72
  have pc8_k77 : ctk77 (1, 10, 0) = some (gI 0 672 (fun _ => 0)) := by rw [ectk77, cup_ne (by simp)]; exact pc8_k72
  have pa9_k77 : adk77 (1, 12, 0) = q65 := by rw [eadk77, aup_ne (by simp)]; exact pa9_k72
  have pc9_k77 : ctk77 (1, 12, 0) = some (gI 1 4 (fun _ => 0)) := by rw [ectk77, cup_ne (by simp)]; exact pc9_k72
  have pa10_k77 : adk77 (1, 13, 0) = q73 := by rw [eadk77, aup_eq]
  have pc10_k77 : ctk77 (1, 13, 0) = some (gI 1 4 (fun _ => 0)) := by rw [ectk77, cup_eq]
  have frk77 : ∀ t : Tg, (2 ≤ t.1) → ctk77 t = ct t ∧ adk77 t = ad t := fun t ht => by
    have e0 : t ≠ (1, 13, 0) := fun e => by rw [e] at ht; simp only at ht; omega
    exact ⟨(show ctk77 t = ctk72 t by rw [ectk77, cup_ne e0]).trans (frk72 t ht).1, (show adk77 t = adk69 t by rw [eadk77, aup_ne e0]).trans (frk72 t ht).2⟩
  clear pa0_k72 pa1_k72 pa2_k72 pa3_k72 pa4_k72 pa5_k72 pa6_k72 pa7_k72 pa8_k72 pa9_k72 pc0_k72 pc1_k72 pc2_k72 pc3_k72 pc4_k72 pc5_k72 pc6_k72 pc7_k72 pc8_k72 pc9_k72 frk72 ectk77 egh74 Rk72 eadk77 h71
  refine g_putF hC hq (fs' := [vi (0), vi (0), .ref q1, vi (0), .ref q9, .ref q17, .ref q25, .ref q33, .ref q41, .ref q49, .ref q57, vi (0), .ref q65, .ref q73, .null, .null, .null, .null, .null, .null, vi (0), .null, vi (0), .null, .null, .null, .null, vi (0)]) dX7_init_80 gp_RX7_38 h75 ⟨rfl, rfl⟩ rfl (Nat.le_of_ble_eq_true rfl) ?_
  obtain ⟨gh78, egh78⟩ : ∃ g_, g_ = gset gh74 xa (gO 11 [vi (0), vi (0), .ref q1, vi (0), .ref q9, .ref q17, .ref q25, .ref q33, .ref q41, .ref q49, .ref q57, vi (0), .ref q65, .ref q73, .null, .null, .null, .null, .null, .null, vi (0), .null, vi (0), .null, .null, .null, .null, vi (0)]) := ⟨_, rfl⟩
  rw [← egh78]
  have h79 : gh78 xa = some (gO 11 [vi (0), vi (0), .ref q1, vi (0), .ref q9, .ref q17, .ref q25, .ref q33, .ref q41, .ref q49, .ref q57, vi (0), .ref q65, .ref q73, .null, .null, .null, .null, .null, .null, vi (0), .null, vi (0), .null, .null, .null, .null, vi (0)]) := by rw [egh78]; exact gset_eq
  have Rk80 := Rk77.put pc0_k77 (gO 11 [vi (0), vi (0), .ref q1, vi (0), .ref q9, .ref q17, .ref q25, .ref q33, .ref q41, .ref q49, .ref q57, vi (0), .ref q65, .ref q73, .null, .null, .null, .null, .null, .null, vi (0), .null, vi (0), .null, .null, .null, .null, vi (0)])
  obtain ⟨ctk80, ectk80⟩ : ∃ x, x = cup ctk77 (0, 0, 0) (gO 11 [vi (0), vi (0), .ref q1, vi (0), .ref q9, .ref q17, .ref q25, .ref q33, .ref q41, .ref q49, .ref q57, vi (0), .ref q65, .ref q73, .null, .null, .null, .null, .null, .null, vi (0), .null, vi (0), .null, .null, .null, .null, vi (0)]) := ⟨_, rfl⟩
  rw [pa0_k77, ← ectk80, ← egh78] at Rk80
  have pa0_k80 := pa0_k77
  have pc0_k80 : ctk80 (0, 0, 0) = some (gO 11 [vi (0), vi (0), .ref q1, vi (0), .ref q9, .ref q17, .ref q25, .ref q33, .ref q41, .ref q49, .ref q57, vi (0), .ref q65, .ref q73, .null, .null, .null, .null, .null, .null, vi (0), .null, vi (0), .null, .null, .null, .null, vi (0)]) := by rw [ectk80, cup_eq]
  have pa1_k80 := pa1_k77
  have pc1_k80 : ctk80 (1, 2, 0) = some (gI 0 8 (fun _ => 0)) := by rw [ectk80, cup_ne (by simp)]; exact pc1_k77
  have pa2_k80 := pa2_k77
  have pc2_k80 : ctk80 (1, 4, 0) = some (gI 1 14 (fun _ => 0)) := by rw [ectk80, cup_ne (by simp)]; exact pc2_k77
  have pa3_k80 := pa3_k77
  have pc3_k80 : ctk80 (1, 5, 0) = some (gI 1 14 (fun _ => 0)) := by rw [ectk80, cup_ne (by simp)]; exact pc3_k77
  have pa4_k80 := pa4_k77
  have pc4_k80 : ctk80 (1, 6, 0) = some (gI 1 14 (fun _ => 0)) := by rw [ectk80, cup_ne (by simp)]; exact pc4_k77
  have pa5_k80 := pa5_k77
  have pc5_k80 : ctk80 (1, 7, 0) = some (gI 1 14 (fun _ => 0)) := by rw [ectk80, cup_ne (by simp)]; exact pc5_k77
  have pa6_k80 := pa6_k77
  have pc6_k80 : ctk80 (1, 8, 0) = some (gI 1 84 (fun _ => 0)) := by rw [ectk80, cup_ne (by simp)]; exact pc6_k77
  have pa7_k80 := pa7_k77
  have pc7_k80 : ctk80 (1, 9, 0) = some (gI 1 84 (fun _ => 0)) := by rw [ectk80, cup_ne (by simp)]; exact pc7_k77
  have pa8_k80 := pa8_k77
  have pc8_k80 : ctk80 (1, 10, 0) = some (gI 0 672 (fun _ => 0)) := by rw [ectk80, cup_ne (by simp)]; exact pc8_k77
  have pa9_k80 := pa9_k77
  have pc9_k80 : ctk80 (1, 12, 0) = some (gI 1 4 (fun _ => 0)) := by rw [ectk80, cup_ne (by simp)]; exact pc9_k77
  have pa10_k80 := pa10_k77
  have pc10_k80 : ctk80 (1, 13, 0) = some (gI 1 4 (fun _ => 0)) := by rw [ectk80, cup_ne (by simp)]; exact pc10_k77
  have frk80 : ∀ t : Tg, (2 ≤ t.1) → ctk80 t = ct t ∧ adk77 t = ad t := fun t ht => by
    have e0 : t ≠ (0, 0, 0) := fun e => by rw [e] at ht; simp only at ht; omega
    exact ⟨(show ctk80 t = ctk77 t by rw [ectk80, cup_ne e0]).trans (frk77 t ht).1, (frk77 t ht).2⟩
  clear pa0_k77 pa1_k77 pa2_k77 pa3_k77 pa4_k77 pa5_k77 pa6_k77 pa7_k77 pa8_k77 pa9_k77 pa10_k77 pc0_k77 pc1_k77 pc2_k77 pc3_k77 pc4_k77 pc5_k77 pc6_k77 pc7_k77 pc8_k77 pc9_k77 pc10_k77 frk77 ectk80 egh78 Rk77 h75 h76
  refine g_ald_n hC dX7_init_83 rfl ?_
  refine g_iconst hC dX7_init_84 rfl ?_
  refine g_newI (n := 4) hC dX7_init_85 ga_int rfl (by decide) (by decide) (by decide) (fun q81 hnq81 => ?_)
  obtain ⟨gh82, egh82⟩ : ∃ g_, g_ = gset gh78 q81 (gI 1 4 (fun _ => 0)) := ⟨_, rfl⟩
  rw [← egh82]
  have h83 : gh82 xa = some (gO 11 [vi (0), vi (0), .ref q1, vi (0), .ref q9, .ref q17, .ref q25, .ref q33, .ref q41, .ref q49, .ref q57, vi (0), .ref q65, .ref q73, .null, .null, .null, .null, .null, .null, vi (0), .null, vi (0), .null, .null, .null, .null, vi (0)]) := by rw [egh82, gset_ne (fun z => by rw [z, hnq81] at h79; cases h79)]; exact h79
  have h84 : gh82 q81 = some (gI 1 4 (fun _ => 0)) := by rw [egh82]; exact gset_eq
  have Rk85 := Rk80.new (t := (1, 14, 0)) hnq81 (gI 1 4 (fun _ => 0))
  obtain ⟨adk85, eadk85⟩ : ∃ x, x = aup adk77 (1, 14, 0) q81 := ⟨_, rfl⟩
  obtain ⟨ctk85, ectk85⟩ : ∃ x, x = cup ctk80 (1, 14, 0) (gI 1 4 (fun _ => 0)) := ⟨_, rfl⟩
  rw [← eadk85, ← ectk85, ← egh82] at Rk85
  have pa0_k85 : adk85 (0, 0, 0) = xa := by rw [eadk85, aup_ne (by simp)]; exact pa0_k80
  have pc0_k85 : ctk85 (0, 0, 0) = some (gO 11 [vi (0), vi (0), .ref q1, vi (0), .ref q9, .ref q17, .ref q25, .ref q33, .ref q41, .ref q49, .ref q57, vi (0), .ref q65, .ref q73, .null, .null, .null, .null, .null, .null, vi (0), .null, vi (0), .null, .null, .null, .null, vi (0)]) := by rw [ectk85, cup_ne (by simp)]; exact pc0_k80
  have pa1_k85 : adk85 (1, 2, 0) = q1 := by rw [eadk85, aup_ne (by simp)]; exact pa1_k80
  have pc1_k85 : ctk85 (1, 2, 0) = some (gI 0 8 (fun _ => 0)) := by rw [ectk85, cup_ne (by simp)]; exact pc1_k80
  have pa2_k85 : adk85 (1, 4, 0) = q9 := by rw [eadk85, aup_ne (by simp)]; exact pa2_k80
  have pc2_k85 : ctk85 (1, 4, 0) = some (gI 1 14 (fun _ => 0)) := by rw [ectk85, cup_ne (by simp)]; exact pc2_k80
  have pa3_k85 : adk85 (1, 5, 0) = q17 := by rw [eadk85, aup_ne (by simp)]; exact pa3_k80
  have pc3_k85 : ctk85 (1, 5, 0) = some (gI 1 14 (fun _ => 0)) := by rw [ectk85, cup_ne (by simp)]; exact pc3_k80
  have pa4_k85 : adk85 (1, 6, 0) = q25 := by rw [eadk85, aup_ne (by simp)]; exact pa4_k80
  have pc4_k85 : ctk85 (1, 6, 0) = some (gI 1 14 (fun _ => 0)) := by rw [ectk85, cup_ne (by simp)]; exact pc4_k80
  have pa5_k85 : adk85 (1, 7, 0) = q33 := by rw [eadk85, aup_ne (by simp)]; exact pa5_k80
  have pc5_k85 : ctk85 (1, 7, 0) = some (gI 1 14 (fun _ => 0)) := by rw [ectk85, cup_ne (by simp)]; exact pc5_k80
  have pa6_k85 : adk85 (1, 8, 0) = q41 := by rw [eadk85, aup_ne (by simp)]; exact pa6_k80
  have pc6_k85 : ctk85 (1, 8, 0) = some (gI 1 84 (fun _ => 0)) := by rw [ectk85, cup_ne (by simp)]; exact pc6_k80
  have pa7_k85 : adk85 (1, 9, 0) = q49 := by rw [eadk85, aup_ne (by simp)]; exact pa7_k80
  have pc7_k85 : ctk85 (1, 9, 0) = some (gI 1 84 (fun _ => 0)) := by rw [ectk85, cup_ne (by simp)]; exact pc7_k80
  have pa8_k85 : adk85 (1, 10, 0) = q57 := by rw [eadk85, aup_ne (by simp)]; exact pa8_k80
  have pc8_k85 : ctk85 (1, 10, 0) = some (gI 0 672 (fun _ => 0)) := by rw [ectk85, cup_ne (by simp)]; exact pc8_k80
  have pa9_k85 : adk85 (1, 12, 0) = q65 := by rw [eadk85, aup_ne (by simp)]; exact pa9_k80
  have pc9_k85 : ctk85 (1, 12, 0) = some (gI 1 4 (fun _ => 0)) := by rw [ectk85, cup_ne (by simp)]; exact pc9_k80
  have pa10_k85 : adk85 (1, 13, 0) = q73 := by rw [eadk85, aup_ne (by simp)]; exact pa10_k80
  have pc10_k85 : ctk85 (1, 13, 0) = some (gI 1 4 (fun _ => 0)) := by rw [ectk85, cup_ne (by simp)]; exact pc10_k80
  have pa11_k85 : adk85 (1, 14, 0) = q81 := by rw [eadk85, aup_eq]
  have pc11_k85 : ctk85 (1, 14, 0) = some (gI 1 4 (fun _ => 0)) := by rw [ectk85, cup_eq]
  have frk85 : ∀ t : Tg, (2 ≤ t.1) → ctk85 t = ct t ∧ adk85 t = ad t := fun t ht => by
    have e0 : t ≠ (1, 14, 0) := fun e => by rw [e] at ht; simp only at ht; omega
    exact ⟨(show ctk85 t = ctk80 t by rw [ectk85, cup_ne e0]).trans (frk80 t ht).1, (show adk85 t = adk77 t by rw [eadk85, aup_ne e0]).trans (frk80 t ht).2⟩
  clear pa0_k80 pa1_k80 pa2_k80 pa3_k80 pa4_k80 pa5_k80 pa6_k80 pa7_k80 pa8_k80 pa9_k80 pa10_k80 pc0_k80 pc1_k80 pc2_k80 pc3_k80 pc4_k80 pc5_k80 pc6_k80 pc7_k80 pc8_k80 pc9_k80 pc10_k80 frk80 ectk85 egh82 Rk80 eadk85 h79
  refine g_putF hC hq (fs' := [vi (0), vi (0), .ref q1, vi (0), .ref q9, .ref q17, .ref q25, .ref q33, .ref q41, .ref q49, .ref q57, vi (0), .ref q65, .ref q73, .ref q81, .null, .null, .null, .null, .null, vi (0), .null, vi (0), .null, .null, .null, .null, vi (0)]) dX7_init_87 gp_RX7_41 h83 ⟨rfl, rfl⟩ rfl (Nat.le_of_ble_eq_true rfl) ?_
  obtain ⟨gh86, egh86⟩ : ∃ g_, g_ = gset gh82 xa (gO 11 [vi (0), vi (0), .ref q1, vi (0), .ref q9, .ref q17, .ref q25, .ref q33, .ref q41, .ref q49, .ref q57, vi (0), .ref q65, .ref q73, .ref q81, .null, .null, .null, .null, .null, vi (0), .null, vi (0), .null, .null, .null, .null, vi (0)]) := ⟨_, rfl⟩
  rw [← egh86]
  have h87 : gh86 xa = some (gO 11 [vi (0), vi (0), .ref q1, vi (0), .ref q9, .ref q17, .ref q25, .ref q33, .ref q41, .ref q49, .ref q57, vi (0), .ref q65, .ref q73, .ref q81, .null, .null, .null, .null, .null, vi (0), .null, vi (0), .null, .null, .null, .null, vi (0)]) := by rw [egh86]; exact gset_eq
  have Rk88 := Rk85.put pc0_k85 (gO 11 [vi (0), vi (0), .ref q1, vi (0), .ref q9, .ref q17, .ref q25, .ref q33, .ref q41, .ref q49, .ref q57, vi (0), .ref q65, .ref q73, .ref q81, .null, .null, .null, .null, .null, vi (0), .null, vi (0), .null, .null, .null, .null, vi (0)])
  obtain ⟨ctk88, ectk88⟩ : ∃ x, x = cup ctk85 (0, 0, 0) (gO 11 [vi (0), vi (0), .ref q1, vi (0), .ref q9, .ref q17, .ref q25, .ref q33, .ref q41, .ref q49, .ref q57, vi (0), .ref q65, .ref q73, .ref q81, .null, .null, .null, .null, .null, vi (0), .null, vi (0), .null, .null, .null, .null, vi (0)]) := ⟨_, rfl⟩
  rw [pa0_k85, ← ectk88, ← egh86] at Rk88
  have pa0_k88 := pa0_k85
  have pc0_k88 : ctk88 (0, 0, 0) = some (gO 11 [vi (0), vi (0), .ref q1, vi (0), .ref q9, .ref q17, .ref q25, .ref q33, .ref q41, .ref q49, .ref q57, vi (0), .ref q65, .ref q73, .ref q81, .null, .null, .null, .null, .null, vi (0), .null, vi (0), .null, .null, .null, .null, vi (0)]) := by rw [ectk88, cup_eq]
  have pa1_k88 := pa1_k85
  have pc1_k88 : ctk88 (1, 2, 0) = some (gI 0 8 (fun _ => 0)) := by rw [ectk88, cup_ne (by simp)]; exact pc1_k85
  have pa2_k88 := pa2_k85
  have pc2_k88 : ctk88 (1, 4, 0) = some (gI 1 14 (fun _ => 0)) := by rw [ectk88, cup_ne (by simp)]; exact pc2_k85
  have pa3_k88 := pa3_k85
  have pc3_k88 : ctk88 (1, 5, 0) = some (gI 1 14 (fun _ => 0)) := by rw [ectk88, cup_ne (by simp)]; exact pc3_k85
  have pa4_k88 := pa4_k85
  have pc4_k88 : ctk88 (1, 6, 0) = some (gI 1 14 (fun _ => 0)) := by rw [ectk88, cup_ne (by simp)]; exact pc4_k85
  have pa5_k88 := pa5_k85
  have pc5_k88 : ctk88 (1, 7, 0) = some (gI 1 14 (fun _ => 0)) := by rw [ectk88, cup_ne (by simp)]; exact pc5_k85
  have pa6_k88 := pa6_k85
  have pc6_k88 : ctk88 (1, 8, 0) = some (gI 1 84 (fun _ => 0)) := by rw [ectk88, cup_ne (by simp)]; exact pc6_k85
  have pa7_k88 := pa7_k85
  have pc7_k88 : ctk88 (1, 9, 0) = some (gI 1 84 (fun _ => 0)) := by rw [ectk88, cup_ne (by simp)]; exact pc7_k85
  have pa8_k88 := pa8_k85
  have pc8_k88 : ctk88 (1, 10, 0) = some (gI 0 672 (fun _ => 0)) := by rw [ectk88, cup_ne (by simp)]; exact pc8_k85
  have pa9_k88 := pa9_k85
  have pc9_k88 : ctk88 (1, 12, 0) = some (gI 1 4 (fun _ => 0)) := by rw [ectk88, cup_ne (by simp)]; exact pc9_k85
  have pa10_k88 := pa10_k85
  have pc10_k88 : ctk88 (1, 13, 0) = some (gI 1 4 (fun _ => 0)) := by rw [ectk88, cup_ne (by simp)]; exact pc10_k85
  have pa11_k88 := pa11_k85
  have pc11_k88 : ctk88 (1, 14, 0) = some (gI 1 4 (fun _ => 0)) := by rw [ectk88, cup_ne (by simp)]; exact pc11_k85
  have frk88 : ∀ t : Tg, (2 ≤ t.1) → ctk88 t = ct t ∧ adk85 t = ad t := fun t ht => by
    have e0 : t ≠ (0, 0, 0) := fun e => by rw [e] at ht; simp only at ht; omega
    exact ⟨(show ctk88 t = ctk85 t by rw [ectk88, cup_ne e0]).trans (frk85 t ht).1, (frk85 t ht).2⟩
  clear pa0_k85 pa1_k85 pa2_k85 pa3_k85 pa4_k85 pa5_k85 pa6_k85 pa7_k85 pa8_k85 pa9_k85 pa10_k85 pa11_k85 pc0_k85 pc1_k85 pc2_k85 pc3_k85 pc4_k85 pc5_k85 pc6_k85 pc7_k85 pc8_k85 pc9_k85 pc10_k85 pc11_k85 frk85 ectk88 egh86 Rk85 h83 h84
  refine g_ald_n hC dX7_init_90 rfl ?_
  refine g_bipush (z := 14) hC dX7_init_91 rfl ?_
  refine g_newI (n := 14) hC dX7_init_93 ga_int rfl (by decide) (by decide) (by decide) (fun q89 hnq89 => ?_)
  obtain ⟨gh90, egh90⟩ : ∃ g_, g_ = gset gh86 q89 (gI 1 14 (fun _ => 0)) := ⟨_, rfl⟩
  rw [← egh90]
  have h91 : gh90 xa = some (gO 11 [vi (0), vi (0), .ref q1, vi (0), .ref q9, .ref q17, .ref q25, .ref q33, .ref q41, .ref q49, .ref q57, vi (0), .ref q65, .ref q73, .ref q81, .null, .null, .null, .null, .null, vi (0), .null, vi (0), .null, .null, .null, .null, vi (0)]) := by rw [egh90, gset_ne (fun z => by rw [z, hnq89] at h87; cases h87)]; exact h87
  have h92 : gh90 q89 = some (gI 1 14 (fun _ => 0)) := by rw [egh90]; exact gset_eq
  have Rk93 := Rk88.new (t := (1, 15, 0)) hnq89 (gI 1 14 (fun _ => 0))
  obtain ⟨adk93, eadk93⟩ : ∃ x, x = aup adk85 (1, 15, 0) q89 := ⟨_, rfl⟩
  obtain ⟨ctk93, ectk93⟩ : ∃ x, x = cup ctk88 (1, 15, 0) (gI 1 14 (fun _ => 0)) := ⟨_, rfl⟩
  rw [← eadk93, ← ectk93, ← egh90] at Rk93
  have pa0_k93 : adk93 (0, 0, 0) = xa := by rw [eadk93, aup_ne (by simp)]; exact pa0_k88
  have pc0_k93 : ctk93 (0, 0, 0) = some (gO 11 [vi (0), vi (0), .ref q1, vi (0), .ref q9, .ref q17, .ref q25, .ref q33, .ref q41, .ref q49, .ref q57, vi (0), .ref q65, .ref q73, .ref q81, .null, .null, .null, .null, .null, vi (0), .null, vi (0), .null, .null, .null, .null, vi (0)]) := by rw [ectk93, cup_ne (by simp)]; exact pc0_k88
  have pa1_k93 : adk93 (1, 2, 0) = q1 := by rw [eadk93, aup_ne (by simp)]; exact pa1_k88
  have pc1_k93 : ctk93 (1, 2, 0) = some (gI 0 8 (fun _ => 0)) := by rw [ectk93, cup_ne (by simp)]; exact pc1_k88
  have pa2_k93 : adk93 (1, 4, 0) = q9 := by rw [eadk93, aup_ne (by simp)]; exact pa2_k88
  have pc2_k93 : ctk93 (1, 4, 0) = some (gI 1 14 (fun _ => 0)) := by rw [ectk93, cup_ne (by simp)]; exact pc2_k88
  have pa3_k93 : adk93 (1, 5, 0) = q17 := by rw [eadk93, aup_ne (by simp)]; exact pa3_k88
  have pc3_k93 : ctk93 (1, 5, 0) = some (gI 1 14 (fun _ => 0)) := by rw [ectk93, cup_ne (by simp)]; exact pc3_k88
  have pa4_k93 : adk93 (1, 6, 0) = q25 := by rw [eadk93, aup_ne (by simp)]; exact pa4_k88
  have pc4_k93 : ctk93 (1, 6, 0) = some (gI 1 14 (fun _ => 0)) := by rw [ectk93, cup_ne (by simp)]; exact pc4_k88
  have pa5_k93 : adk93 (1, 7, 0) = q33 := by rw [eadk93, aup_ne (by simp)]; exact pa5_k88
  have pc5_k93 : ctk93 (1, 7, 0) = some (gI 1 14 (fun _ => 0)) := by rw [ectk93, cup_ne (by simp)]; exact pc5_k88
  have pa6_k93 : adk93 (1, 8, 0) = q41 := by rw [eadk93, aup_ne (by simp)]; exact pa6_k88
  have pc6_k93 : ctk93 (1, 8, 0) = some (gI 1 84 (fun _ => 0)) := by rw [ectk93, cup_ne (by simp)]; exact pc6_k88
  have pa7_k93 : adk93 (1, 9, 0) = q49 := by rw [eadk93, aup_ne (by simp)]; exact pa7_k88
  have pc7_k93 : ctk93 (1, 9, 0) = some (gI 1 84 (fun _ => 0)) := by rw [ectk93, cup_ne (by simp)]; exact pc7_k88
  have pa8_k93 : adk93 (1, 10, 0) = q57 := by rw [eadk93, aup_ne (by simp)]; exact pa8_k88
  have pc8_k93 : ctk93 (1, 10, 0) = some (gI 0 672 (fun _ => 0)) := by rw [ectk93, cup_ne (by simp)]; exact pc8_k88
  have pa9_k93 : adk93 (1, 12, 0) = q65 := by rw [eadk93, aup_ne (by simp)]; exact pa9_k88
  have pc9_k93 : ctk93 (1, 12, 0) = some (gI 1 4 (fun _ => 0)) := by rw [ectk93, cup_ne (by simp)]; exact pc9_k88
  have pa10_k93 : adk93 (1, 13, 0) = q73 := by rw [eadk93, aup_ne (by simp)]; exact pa10_k88
  have pc10_k93 : ctk93 (1, 13, 0) = some (gI 1 4 (fun _ => 0)) := by rw [ectk93, cup_ne (by simp)]; exact pc10_k88
  have pa11_k93 : adk93 (1, 14, 0) = q81 := by rw [eadk93, aup_ne (by simp)]; exact pa11_k88
  have pc11_k93 : ctk93 (1, 14, 0) = some (gI 1 4 (fun _ => 0)) := by rw [ectk93, cup_ne (by simp)]; exact pc11_k88
  have pa12_k93 : adk93 (1, 15, 0) = q89 := by rw [eadk93, aup_eq]
  have pc12_k93 : ctk93 (1, 15, 0) = some (gI 1 14 (fun _ => 0)) := by rw [ectk93, cup_eq]
  have frk93 : ∀ t : Tg, (2 ≤ t.1) → ctk93 t = ct t ∧ adk93 t = ad t := fun t ht => by
    have e0 : t ≠ (1, 15, 0) := fun e => by rw [e] at ht; simp only at ht; omega
    exact ⟨(show ctk93 t = ctk88 t by rw [ectk93, cup_ne e0]).trans (frk88 t ht).1, (show adk93 t = adk85 t by rw [eadk93, aup_ne e0]).trans (frk88 t ht).2⟩
  clear pa0_k88 pa1_k88 pa2_k88 pa3_k88 pa4_k88 pa5_k88 pa6_k88 pa7_k88 pa8_k88 pa9_k88 pa10_k88 pa11_k88 pc0_k88 pc1_k88 pc2_k88 pc3_k88 pc4_k88 pc5_k88 pc6_k88 pc7_k88 pc8_k88 pc9_k88 pc10_k88 pc11_k88 frk88 ectk93 egh90 Rk88 eadk93 h87
  refine g_putF hC hq (fs' := [vi (0), vi (0), .ref q1, vi (0), .ref q9, .ref q17, .ref q25, .ref q33, .ref q41, .ref q49, .ref q57, vi (0), .ref q65, .ref q73, .ref q81, .ref q89, .null, .null, .null, .null, vi (0), .null, vi (0), .null, .null, .null, .null, vi (0)]) dX7_init_95 gp_RX7_44 h91 ⟨rfl, rfl⟩ rfl (Nat.le_of_ble_eq_true rfl) ?_
  obtain ⟨gh94, egh94⟩ : ∃ g_, g_ = gset gh90 xa (gO 11 [vi (0), vi (0), .ref q1, vi (0), .ref q9, .ref q17, .ref q25, .ref q33, .ref q41, .ref q49, .ref q57, vi (0), .ref q65, .ref q73, .ref q81, .ref q89, .null, .null, .null, .null, vi (0), .null, vi (0), .null, .null, .null, .null, vi (0)]) := ⟨_, rfl⟩
  rw [← egh94]
  have h95 : gh94 xa = some (gO 11 [vi (0), vi (0), .ref q1, vi (0), .ref q9, .ref q17, .ref q25, .ref q33, .ref q41, .ref q49, .ref q57, vi (0), .ref q65, .ref q73, .ref q81, .ref q89, .null, .null, .null, .null, vi (0), .null, vi (0), .null, .null, .null, .null, vi (0)]) := by rw [egh94]; exact gset_eq
  have Rk96 := Rk93.put pc0_k93 (gO 11 [vi (0), vi (0), .ref q1, vi (0), .ref q9, .ref q17, .ref q25, .ref q33, .ref q41, .ref q49, .ref q57, vi (0), .ref q65, .ref q73, .ref q81, .ref q89, .null, .null, .null, .null, vi (0), .null, vi (0), .null, .null, .null, .null, vi (0)])
  obtain ⟨ctk96, ectk96⟩ : ∃ x, x = cup ctk93 (0, 0, 0) (gO 11 [vi (0), vi (0), .ref q1, vi (0), .ref q9, .ref q17, .ref q25, .ref q33, .ref q41, .ref q49, .ref q57, vi (0), .ref q65, .ref q73, .ref q81, .ref q89, .null, .null, .null, .null, vi (0), .null, vi (0), .null, .null, .null, .null, vi (0)]) := ⟨_, rfl⟩
  rw [pa0_k93, ← ectk96, ← egh94] at Rk96
  have pa0_k96 := pa0_k93
  have pc0_k96 : ctk96 (0, 0, 0) = some (gO 11 [vi (0), vi (0), .ref q1, vi (0), .ref q9, .ref q17, .ref q25, .ref q33, .ref q41, .ref q49, .ref q57, vi (0), .ref q65, .ref q73, .ref q81, .ref q89, .null, .null, .null, .null, vi (0), .null, vi (0), .null, .null, .null, .null, vi (0)]) := by rw [ectk96, cup_eq]
  have pa1_k96 := pa1_k93
  have pc1_k96 : ctk96 (1, 2, 0) = some (gI 0 8 (fun _ => 0)) := by rw [ectk96, cup_ne (by simp)]; exact pc1_k93
  have pa2_k96 := pa2_k93
  have pc2_k96 : ctk96 (1, 4, 0) = some (gI 1 14 (fun _ => 0)) := by rw [ectk96, cup_ne (by simp)]; exact pc2_k93
  have pa3_k96 := pa3_k93
  have pc3_k96 : ctk96 (1, 5, 0) = some (gI 1 14 (fun _ => 0)) := by rw [ectk96, cup_ne (by simp)]; exact pc3_k93
  have pa4_k96 := pa4_k93
  have pc4_k96 : ctk96 (1, 6, 0) = some (gI 1 14 (fun _ => 0)) := by rw [ectk96, cup_ne (by simp)]; exact pc4_k93
  have pa5_k96 := pa5_k93
  have pc5_k96 : ctk96 (1, 7, 0) = some (gI 1 14 (fun _ => 0)) := by rw [ectk96, cup_ne (by simp)]; exact pc5_k93
  have pa6_k96 := pa6_k93
  have pc6_k96 : ctk96 (1, 8, 0) = some (gI 1 84 (fun _ => 0)) := by rw [ectk96, cup_ne (by simp)]; exact pc6_k93
  have pa7_k96 := pa7_k93
  have pc7_k96 : ctk96 (1, 9, 0) = some (gI 1 84 (fun _ => 0)) := by rw [ectk96, cup_ne (by simp)]; exact pc7_k93
  have pa8_k96 := pa8_k93
  have pc8_k96 : ctk96 (1, 10, 0) = some (gI 0 672 (fun _ => 0)) := by rw [ectk96, cup_ne (by simp)]; exact pc8_k93
  have pa9_k96 := pa9_k93
  have pc9_k96 : ctk96 (1, 12, 0) = some (gI 1 4 (fun _ => 0)) := by rw [ectk96, cup_ne (by simp)]; exact pc9_k93
  have pa10_k96 := pa10_k93
  have pc10_k96 : ctk96 (1, 13, 0) = some (gI 1 4 (fun _ => 0)) := by rw [ectk96, cup_ne (by simp)]; exact pc10_k93
  have pa11_k96 := pa11_k93
  have pc11_k96 : ctk96 (1, 14, 0) = some (gI 1 4 (fun _ => 0)) := by rw [ectk96, cup_ne (by simp)]; exact pc11_k93
  have pa12_k96 := pa12_k93
  have pc12_k96 : ctk96 (1, 15, 0) = some (gI 1 14 (fun _ => 0)) := by rw [ectk96, cup_ne (by simp)]; exact pc12_k93
  have frk96 : ∀ t : Tg, (2 ≤ t.1) → ctk96 t = ct t ∧ adk93 t = ad t := fun t ht => by
    have e0 : t ≠ (0, 0, 0) := fun e => by rw [e] at ht; simp only at ht; omega
    exact ⟨(show ctk96 t = ctk93 t by rw [ectk96, cup_ne e0]).trans (frk93 t ht).1, (frk93 t ht).2⟩
  clear pa0_k93 pa1_k93 pa2_k93 pa3_k93 pa4_k93 pa5_k93 pa6_k93 pa7_k93 pa8_k93 pa9_k93 pa10_k93 pa11_k93 pa12_k93 pc0_k93 pc1_k93 pc2_k93 pc3_k93 pc4_k93 pc5_k93 pc6_k93 pc7_k93 pc8_k93 pc9_k93 pc10_k93 pc11_k93 pc12_k93 frk93 ectk96 egh94 Rk93 h91 h92
  refine g_ald_n hC dX7_init_98 rfl ?_
  refine g_bipush (z := 14) hC dX7_init_99 rfl ?_
  refine g_newI (n := 14) hC dX7_init_101 ga_int rfl (by decide) (by decide) (by decide) (fun q97 hnq97 => ?_)
  obtain ⟨gh98, egh98⟩ : ∃ g_, g_ = gset gh94 q97 (gI 1 14 (fun _ => 0)) := ⟨_, rfl⟩
  rw [← egh98]
  have h99 : gh98 xa = some (gO 11 [vi (0), vi (0), .ref q1, vi (0), .ref q9, .ref q17, .ref q25, .ref q33, .ref q41, .ref q49, .ref q57, vi (0), .ref q65, .ref q73, .ref q81, .ref q89, .null, .null, .null, .null, vi (0), .null, vi (0), .null, .null, .null, .null, vi (0)]) := by rw [egh98, gset_ne (fun z => by rw [z, hnq97] at h95; cases h95)]; exact h95
  have h100 : gh98 q97 = some (gI 1 14 (fun _ => 0)) := by rw [egh98]; exact gset_eq
  have Rk101 := Rk96.new (t := (1, 16, 0)) hnq97 (gI 1 14 (fun _ => 0))
  obtain ⟨adk101, eadk101⟩ : ∃ x, x = aup adk93 (1, 16, 0) q97 := ⟨_, rfl⟩
  obtain ⟨ctk101, ectk101⟩ : ∃ x, x = cup ctk96 (1, 16, 0) (gI 1 14 (fun _ => 0)) := ⟨_, rfl⟩
  rw [← eadk101, ← ectk101, ← egh98] at Rk101
  have pa0_k101 : adk101 (0, 0, 0) = xa := by rw [eadk101, aup_ne (by simp)]; exact pa0_k96
  have pc0_k101 : ctk101 (0, 0, 0) = some (gO 11 [vi (0), vi (0), .ref q1, vi (0), .ref q9, .ref q17, .ref q25, .ref q33, .ref q41, .ref q49, .ref q57, vi (0), .ref q65, .ref q73, .ref q81, .ref q89, .null, .null, .null, .null, vi (0), .null, vi (0), .null, .null, .null, .null, vi (0)]) := by rw [ectk101, cup_ne (by simp)]; exact pc0_k96
  have pa1_k101 : adk101 (1, 2, 0) = q1 := by rw [eadk101, aup_ne (by simp)]; exact pa1_k96
  have pc1_k101 : ctk101 (1, 2, 0) = some (gI 0 8 (fun _ => 0)) := by rw [ectk101, cup_ne (by simp)]; exact pc1_k96
  have pa2_k101 : adk101 (1, 4, 0) = q9 := by rw [eadk101, aup_ne (by simp)]; exact pa2_k96
  have pc2_k101 : ctk101 (1, 4, 0) = some (gI 1 14 (fun _ => 0)) := by rw [ectk101, cup_ne (by simp)]; exact pc2_k96
  have pa3_k101 : adk101 (1, 5, 0) = q17 := by rw [eadk101, aup_ne (by simp)]; exact pa3_k96
  have pc3_k101 : ctk101 (1, 5, 0) = some (gI 1 14 (fun _ => 0)) := by rw [ectk101, cup_ne (by simp)]; exact pc3_k96
  have pa4_k101 : adk101 (1, 6, 0) = q25 := by rw [eadk101, aup_ne (by simp)]; exact pa4_k96
  have pc4_k101 : ctk101 (1, 6, 0) = some (gI 1 14 (fun _ => 0)) := by rw [ectk101, cup_ne (by simp)]; exact pc4_k96
  have pa5_k101 : adk101 (1, 7, 0) = q33 := by rw [eadk101, aup_ne (by simp)]; exact pa5_k96
  have pc5_k101 : ctk101 (1, 7, 0) = some (gI 1 14 (fun _ => 0)) := by rw [ectk101, cup_ne (by simp)]; exact pc5_k96
  have pa6_k101 : adk101 (1, 8, 0) = q41 := by rw [eadk101, aup_ne (by simp)]; exact pa6_k96
  have pc6_k101 : ctk101 (1, 8, 0) = some (gI 1 84 (fun _ => 0)) := by rw [ectk101, cup_ne (by simp)]; exact pc6_k96
  have pa7_k101 : adk101 (1, 9, 0) = q49 := by rw [eadk101, aup_ne (by simp)]; exact pa7_k96
  have pc7_k101 : ctk101 (1, 9, 0) = some (gI 1 84 (fun _ => 0)) := by rw [ectk101, cup_ne (by simp)]; exact pc7_k96
  have pa8_k101 : adk101 (1, 10, 0) = q57 := by rw [eadk101, aup_ne (by simp)]; exact pa8_k96
  have pc8_k101 : ctk101 (1, 10, 0) = some (gI 0 672 (fun _ => 0)) := by rw [ectk101, cup_ne (by simp)]; exact pc8_k96
  have pa9_k101 : adk101 (1, 12, 0) = q65 := by rw [eadk101, aup_ne (by simp)]; exact pa9_k96
  have pc9_k101 : ctk101 (1, 12, 0) = some (gI 1 4 (fun _ => 0)) := by rw [ectk101, cup_ne (by simp)]; exact pc9_k96
  have pa10_k101 : adk101 (1, 13, 0) = q73 := by rw [eadk101, aup_ne (by simp)]; exact pa10_k96
  have pc10_k101 : ctk101 (1, 13, 0) = some (gI 1 4 (fun _ => 0)) := by rw [ectk101, cup_ne (by simp)]; exact pc10_k96
  have pa11_k101 : adk101 (1, 14, 0) = q81 := by rw [eadk101, aup_ne (by simp)]; exact pa11_k96
  have pc11_k101 : ctk101 (1, 14, 0) = some (gI 1 4 (fun _ => 0)) := by rw [ectk101, cup_ne (by simp)]; exact pc11_k96
  have pa12_k101 : adk101 (1, 15, 0) = q89 := by rw [eadk101, aup_ne (by simp)]; exact pa12_k96
  have pc12_k101 : ctk101 (1, 15, 0) = some (gI 1 14 (fun _ => 0)) := by rw [ectk101, cup_ne (by simp)]; exact pc12_k96
  have pa13_k101 : adk101 (1, 16, 0) = q97 := by rw [eadk101, aup_eq]
  have pc13_k101 : ctk101 (1, 16, 0) = some (gI 1 14 (fun _ => 0)) := by rw [ectk101, cup_eq]
  have frk101 : ∀ t : Tg, (2 ≤ t.1) → ctk101 t = ct t ∧ adk101 t = ad t := fun t ht => by
    have e0 : t ≠ (1, 16, 0) := fun e => by rw [e] at ht; simp only at ht; omega
    exact ⟨(show ctk101 t = ctk96 t by rw [ectk101, cup_ne e0]).trans (frk96 t ht).1, (show adk101 t = adk93 t by rw [eadk101, aup_ne e0]).trans (frk96 t ht).2⟩
  clear pa0_k96 pa1_k96 pa2_k96 pa3_k96 pa4_k96 pa5_k96 pa6_k96 pa7_k96 pa8_k96 pa9_k96 pa10_k96 pa11_k96 pa12_k96 pc0_k96 pc1_k96 pc2_k96 pc3_k96 pc4_k96 pc5_k96 pc6_k96 pc7_k96 pc8_k96 pc9_k96 pc10_k96 pc11_k96 pc12_k96 frk96 ectk101 egh98 Rk96 eadk101 h95
  refine g_putF hC hq (fs' := [vi (0), vi (0), .ref q1, vi (0), .ref q9, .ref q17, .ref q25, .ref q33, .ref q41, .ref q49, .ref q57, vi (0), .ref q65, .ref q73, .ref q81, .ref q89, .ref q97, .null, .null, .null, vi (0), .null, vi (0), .null, .null, .null, .null, vi (0)]) dX7_init_103 gp_RX7_47 h99 ⟨rfl, rfl⟩ rfl (Nat.le_of_ble_eq_true rfl) ?_
  obtain ⟨gh102, egh102⟩ : ∃ g_, g_ = gset gh98 xa (gO 11 [vi (0), vi (0), .ref q1, vi (0), .ref q9, .ref q17, .ref q25, .ref q33, .ref q41, .ref q49, .ref q57, vi (0), .ref q65, .ref q73, .ref q81, .ref q89, .ref q97, .null, .null, .null, vi (0), .null, vi (0), .null, .null, .null, .null, vi (0)]) := ⟨_, rfl⟩
  rw [← egh102]
  have h103 : gh102 xa = some (gO 11 [vi (0), vi (0), .ref q1, vi (0), .ref q9, .ref q17, .ref q25, .ref q33, .ref q41, .ref q49, .ref q57, vi (0), .ref q65, .ref q73, .ref q81, .ref q89, .ref q97, .null, .null, .null, vi (0), .null, vi (0), .null, .null, .null, .null, vi (0)]) := by rw [egh102]; exact gset_eq
  have Rk104 := Rk101.put pc0_k101 (gO 11 [vi (0), vi (0), .ref q1, vi (0), .ref q9, .ref q17, .ref q25, .ref q33, .ref q41, .ref q49, .ref q57, vi (0), .ref q65, .ref q73, .ref q81, .ref q89, .ref q97, .null, .null, .null, vi (0), .null, vi (0), .null, .null, .null, .null, vi (0)])
  obtain ⟨ctk104, ectk104⟩ : ∃ x, x = cup ctk101 (0, 0, 0) (gO 11 [vi (0), vi (0), .ref q1, vi (0), .ref q9, .ref q17, .ref q25, .ref q33, .ref q41, .ref q49, .ref q57, vi (0), .ref q65, .ref q73, .ref q81, .ref q89, .ref q97, .null, .null, .null, vi (0), .null, vi (0), .null, .null, .null, .null, vi (0)]) := ⟨_, rfl⟩
  rw [pa0_k101, ← ectk104, ← egh102] at Rk104
  have pa0_k104 := pa0_k101
  have pc0_k104 : ctk104 (0, 0, 0) = some (gO 11 [vi (0), vi (0), .ref q1, vi (0), .ref q9, .ref q17, .ref q25, .ref q33, .ref q41, .ref q49, .ref q57, vi (0), .ref q65, .ref q73, .ref q81, .ref q89, .ref q97, .null, .null, .null, vi (0), .null, vi (0), .null, .null, .null, .null, vi (0)]) := by rw [ectk104, cup_eq]
  have pa1_k104 := pa1_k101
  have pc1_k104 : ctk104 (1, 2, 0) = some (gI 0 8 (fun _ => 0)) := by rw [ectk104, cup_ne (by simp)]; exact pc1_k101
  have pa2_k104 := pa2_k101
  have pc2_k104 : ctk104 (1, 4, 0) = some (gI 1 14 (fun _ => 0)) := by rw [ectk104, cup_ne (by simp)]; exact pc2_k101
  have pa3_k104 := pa3_k101
  have pc3_k104 : ctk104 (1, 5, 0) = some (gI 1 14 (fun _ => 0)) := by rw [ectk104, cup_ne (by simp)]; exact pc3_k101
  have pa4_k104 := pa4_k101
  have pc4_k104 : ctk104 (1, 6, 0) = some (gI 1 14 (fun _ => 0)) := by rw [ectk104, cup_ne (by simp)]; exact pc4_k101
  have pa5_k104 := pa5_k101
  have pc5_k104 : ctk104 (1, 7, 0) = some (gI 1 14 (fun _ => 0)) := by rw [ectk104, cup_ne (by simp)]; exact pc5_k101
  have pa6_k104 := pa6_k101
  have pc6_k104 : ctk104 (1, 8, 0) = some (gI 1 84 (fun _ => 0)) := by rw [ectk104, cup_ne (by simp)]; exact pc6_k101
  have pa7_k104 := pa7_k101
  have pc7_k104 : ctk104 (1, 9, 0) = some (gI 1 84 (fun _ => 0)) := by rw [ectk104, cup_ne (by simp)]; exact pc7_k101
  have pa8_k104 := pa8_k101
  have pc8_k104 : ctk104 (1, 10, 0) = some (gI 0 672 (fun _ => 0)) := by rw [ectk104, cup_ne (by simp)]; exact pc8_k101
  have pa9_k104 := pa9_k101
  have pc9_k104 : ctk104 (1, 12, 0) = some (gI 1 4 (fun _ => 0)) := by rw [ectk104, cup_ne (by simp)]; exact pc9_k101
  have pa10_k104 := pa10_k101
  have pc10_k104 : ctk104 (1, 13, 0) = some (gI 1 4 (fun _ => 0)) := by rw [ectk104, cup_ne (by simp)]; exact pc10_k101
  have pa11_k104 := pa11_k101
  have pc11_k104 : ctk104 (1, 14, 0) = some (gI 1 4 (fun _ => 0)) := by rw [ectk104, cup_ne (by simp)]; exact pc11_k101
  have pa12_k104 := pa12_k101
  have pc12_k104 : ctk104 (1, 15, 0) = some (gI 1 14 (fun _ => 0)) := by rw [ectk104, cup_ne (by simp)]; exact pc12_k101
  have pa13_k104 := pa13_k101
  have pc13_k104 : ctk104 (1, 16, 0) = some (gI 1 14 (fun _ => 0)) := by rw [ectk104, cup_ne (by simp)]; exact pc13_k101
  have frk104 : ∀ t : Tg, (2 ≤ t.1) → ctk104 t = ct t ∧ adk101 t = ad t := fun t ht => by
    have e0 : t ≠ (0, 0, 0) := fun e => by rw [e] at ht; simp only at ht; omega
    exact ⟨(show ctk104 t = ctk101 t by rw [ectk104, cup_ne e0]).trans (frk101 t ht).1, (frk101 t ht).2⟩
  clear pa0_k101 pa1_k101 pa2_k101 pa3_k101 pa4_k101 pa5_k101 pa6_k101 pa7_k101 pa8_k101 pa9_k101 pa10_k101 pa11_k101 pa12_k101 pa13_k101 pc0_k101 pc1_k101 pc2_k101 pc3_k101 pc4_k101 pc5_k101 pc6_k101 pc7_k101 pc8_k101 pc9_k101 pc10_k101 pc11_k101 pc12_k101 pc13_k101 frk101 ectk104 egh102 Rk101 h99 h100
  refine g_ald_n hC dX7_init_106 rfl ?_
  refine g_bipush (z := 14) hC dX7_init_107 rfl ?_
  refine g_newI (n := 14) hC dX7_init_109 ga_int rfl (by decide) (by decide) (by decide) (fun q105 hnq105 => ?_)
  obtain ⟨gh106, egh106⟩ : ∃ g_, g_ = gset gh102 q105 (gI 1 14 (fun _ => 0)) := ⟨_, rfl⟩
  rw [← egh106]
  have h107 : gh106 xa = some (gO 11 [vi (0), vi (0), .ref q1, vi (0), .ref q9, .ref q17, .ref q25, .ref q33, .ref q41, .ref q49, .ref q57, vi (0), .ref q65, .ref q73, .ref q81, .ref q89, .ref q97, .null, .null, .null, vi (0), .null, vi (0), .null, .null, .null, .null, vi (0)]) := by rw [egh106, gset_ne (fun z => by rw [z, hnq105] at h103; cases h103)]; exact h103
  have h108 : gh106 q105 = some (gI 1 14 (fun _ => 0)) := by rw [egh106]; exact gset_eq
  have Rk109 := Rk104.new (t := (1, 17, 0)) hnq105 (gI 1 14 (fun _ => 0))
  obtain ⟨adk109, eadk109⟩ : ∃ x, x = aup adk101 (1, 17, 0) q105 := ⟨_, rfl⟩
  obtain ⟨ctk109, ectk109⟩ : ∃ x, x = cup ctk104 (1, 17, 0) (gI 1 14 (fun _ => 0)) := ⟨_, rfl⟩
  rw [← eadk109, ← ectk109, ← egh106] at Rk109
  have pa0_k109 : adk109 (0, 0, 0) = xa := by rw [eadk109, aup_ne (by simp)]; exact pa0_k104
  have pc0_k109 : ctk109 (0, 0, 0) = some (gO 11 [vi (0), vi (0), .ref q1, vi (0), .ref q9, .ref q17, .ref q25, .ref q33, .ref q41, .ref q49, .ref q57, vi (0), .ref q65, .ref q73, .ref q81, .ref q89, .ref q97, .null, .null, .null, vi (0), .null, vi (0), .null, .null, .null, .null, vi (0)]) := by rw [ectk109, cup_ne (by simp)]; exact pc0_k104
  have pa1_k109 : adk109 (1, 2, 0) = q1 := by rw [eadk109, aup_ne (by simp)]; exact pa1_k104
  have pc1_k109 : ctk109 (1, 2, 0) = some (gI 0 8 (fun _ => 0)) := by rw [ectk109, cup_ne (by simp)]; exact pc1_k104
  have pa2_k109 : adk109 (1, 4, 0) = q9 := by rw [eadk109, aup_ne (by simp)]; exact pa2_k104
  have pc2_k109 : ctk109 (1, 4, 0) = some (gI 1 14 (fun _ => 0)) := by rw [ectk109, cup_ne (by simp)]; exact pc2_k104
  have pa3_k109 : adk109 (1, 5, 0) = q17 := by rw [eadk109, aup_ne (by simp)]; exact pa3_k104
  have pc3_k109 : ctk109 (1, 5, 0) = some (gI 1 14 (fun _ => 0)) := by rw [ectk109, cup_ne (by simp)]; exact pc3_k104
  have pa4_k109 : adk109 (1, 6, 0) = q25 := by rw [eadk109, aup_ne (by simp)]; exact pa4_k104
  have pc4_k109 : ctk109 (1, 6, 0) = some (gI 1 14 (fun _ => 0)) := by rw [ectk109, cup_ne (by simp)]; exact pc4_k104
  have pa5_k109 : adk109 (1, 7, 0) = q33 := by rw [eadk109, aup_ne (by simp)]; exact pa5_k104
  have pc5_k109 : ctk109 (1, 7, 0) = some (gI 1 14 (fun _ => 0)) := by rw [ectk109, cup_ne (by simp)]; exact pc5_k104
  have pa6_k109 : adk109 (1, 8, 0) = q41 := by rw [eadk109, aup_ne (by simp)]; exact pa6_k104
  have pc6_k109 : ctk109 (1, 8, 0) = some (gI 1 84 (fun _ => 0)) := by rw [ectk109, cup_ne (by simp)]; exact pc6_k104
  have pa7_k109 : adk109 (1, 9, 0) = q49 := by rw [eadk109, aup_ne (by simp)]; exact pa7_k104
  have pc7_k109 : ctk109 (1, 9, 0) = some (gI 1 84 (fun _ => 0)) := by rw [ectk109, cup_ne (by simp)]; exact pc7_k104
  have pa8_k109 : adk109 (1, 10, 0) = q57 := by rw [eadk109, aup_ne (by simp)]; exact pa8_k104
  have pc8_k109 : ctk109 (1, 10, 0) = some (gI 0 672 (fun _ => 0)) := by rw [ectk109, cup_ne (by simp)]; exact pc8_k104
  have pa9_k109 : adk109 (1, 12, 0) = q65 := by rw [eadk109, aup_ne (by simp)]; exact pa9_k104
  have pc9_k109 : ctk109 (1, 12, 0) = some (gI 1 4 (fun _ => 0)) := by rw [ectk109, cup_ne (by simp)]; exact pc9_k104
  have pa10_k109 : adk109 (1, 13, 0) = q73 := by rw [eadk109, aup_ne (by simp)]; exact pa10_k104
  have pc10_k109 : ctk109 (1, 13, 0) = some (gI 1 4 (fun _ => 0)) := by rw [ectk109, cup_ne (by simp)]; exact pc10_k104
  have pa11_k109 : adk109 (1, 14, 0) = q81 := by rw [eadk109, aup_ne (by simp)]; exact pa11_k104
  have pc11_k109 : ctk109 (1, 14, 0) = some (gI 1 4 (fun _ => 0)) := by rw [ectk109, cup_ne (by simp)]; exact pc11_k104
  have pa12_k109 : adk109 (1, 15, 0) = q89 := by rw [eadk109, aup_ne (by simp)]; exact pa12_k104
  have pc12_k109 : ctk109 (1, 15, 0) = some (gI 1 14 (fun _ => 0)) := by rw [ectk109, cup_ne (by simp)]; exact pc12_k104
  have pa13_k109 : adk109 (1, 16, 0) = q97 := by rw [eadk109, aup_ne (by simp)]; exact pa13_k104
  have pc13_k109 : ctk109 (1, 16, 0) = some (gI 1 14 (fun _ => 0)) := by rw [ectk109, cup_ne (by simp)]; exact pc13_k104
  have pa14_k109 : adk109 (1, 17, 0) = q105 := by rw [eadk109, aup_eq]
  have pc14_k109 : ctk109 (1, 17, 0) = some (gI 1 14 (fun _ => 0)) := by rw [ectk109, cup_eq]
  have frk109 : ∀ t : Tg, (2 ≤ t.1) → ctk109 t = ct t ∧ adk109 t = ad t := fun t ht => by
    have e0 : t ≠ (1, 17, 0) := fun e => by rw [e] at ht; simp only at ht; omega
    exact ⟨(show ctk109 t = ctk104 t by rw [ectk109, cup_ne e0]).trans (frk104 t ht).1, (show adk109 t = adk101 t by rw [eadk109, aup_ne e0]).trans (frk104 t ht).2⟩
  clear pa0_k104 pa1_k104 pa2_k104 pa3_k104 pa4_k104 pa5_k104 pa6_k104 pa7_k104 pa8_k104 pa9_k104 pa10_k104 pa11_k104 pa12_k104 pa13_k104 pc0_k104 pc1_k104 pc2_k104 pc3_k104 pc4_k104 pc5_k104 pc6_k104 pc7_k104 pc8_k104 pc9_k104 pc10_k104 pc11_k104 pc12_k104 pc13_k104 frk104 ectk109 egh106 Rk104 eadk109 h103
  refine g_putF hC hq (fs' := [vi (0), vi (0), .ref q1, vi (0), .ref q9, .ref q17, .ref q25, .ref q33, .ref q41, .ref q49, .ref q57, vi (0), .ref q65, .ref q73, .ref q81, .ref q89, .ref q97, .ref q105, .null, .null, vi (0), .null, vi (0), .null, .null, .null, .null, vi (0)]) dX7_init_111 gp_RX7_50 h107 ⟨rfl, rfl⟩ rfl (Nat.le_of_ble_eq_true rfl) ?_
  obtain ⟨gh110, egh110⟩ : ∃ g_, g_ = gset gh106 xa (gO 11 [vi (0), vi (0), .ref q1, vi (0), .ref q9, .ref q17, .ref q25, .ref q33, .ref q41, .ref q49, .ref q57, vi (0), .ref q65, .ref q73, .ref q81, .ref q89, .ref q97, .ref q105, .null, .null, vi (0), .null, vi (0), .null, .null, .null, .null, vi (0)]) := ⟨_, rfl⟩
  rw [← egh110]
  have h111 : gh110 xa = some (gO 11 [vi (0), vi (0), .ref q1, vi (0), .ref q9, .ref q17, .ref q25, .ref q33, .ref q41, .ref q49, .ref q57, vi (0), .ref q65, .ref q73, .ref q81, .ref q89, .ref q97, .ref q105, .null, .null, vi (0), .null, vi (0), .null, .null, .null, .null, vi (0)]) := by rw [egh110]; exact gset_eq
  have Rk112 := Rk109.put pc0_k109 (gO 11 [vi (0), vi (0), .ref q1, vi (0), .ref q9, .ref q17, .ref q25, .ref q33, .ref q41, .ref q49, .ref q57, vi (0), .ref q65, .ref q73, .ref q81, .ref q89, .ref q97, .ref q105, .null, .null, vi (0), .null, vi (0), .null, .null, .null, .null, vi (0)])
  obtain ⟨ctk112, ectk112⟩ : ∃ x, x = cup ctk109 (0, 0, 0) (gO 11 [vi (0), vi (0), .ref q1, vi (0), .ref q9, .ref q17, .ref q25, .ref q33, .ref q41, .ref q49, .ref q57, vi (0), .ref q65, .ref q73, .ref q81, .ref q89, .ref q97, .ref q105, .null, .null, vi (0), .null, vi (0), .null, .null, .null, .null, vi (0)]) := ⟨_, rfl⟩
  rw [pa0_k109, ← ectk112, ← egh110] at Rk112
  have pa0_k112 := pa0_k109
  have pc0_k112 : ctk112 (0, 0, 0) = some (gO 11 [vi (0), vi (0), .ref q1, vi (0), .ref q9, .ref q17, .ref q25, .ref q33, .ref q41, .ref q49, .ref q57, vi (0), .ref q65, .ref q73, .ref q81, .ref q89, .ref q97, .ref q105, .null, .null, vi (0), .null, vi (0), .null, .null, .null, .null, vi (0)]) := by rw [ectk112, cup_eq]
  have pa1_k112 := pa1_k109
  have pc1_k112 : ctk112 (1, 2, 0) = some (gI 0 8 (fun _ => 0)) := by rw [ectk112, cup_ne (by simp)]; exact pc1_k109
  have pa2_k112 := pa2_k109
  have pc2_k112 : ctk112 (1, 4, 0) = some (gI 1 14 (fun _ => 0)) := by rw [ectk112, cup_ne (by simp)]; exact pc2_k109
  have pa3_k112 := pa3_k109
  have pc3_k112 : ctk112 (1, 5, 0) = some (gI 1 14 (fun _ => 0)) := by rw [ectk112, cup_ne (by simp)]; exact pc3_k109
  have pa4_k112 := pa4_k109
  have pc4_k112 : ctk112 (1, 6, 0) = some (gI 1 14 (fun _ => 0)) := by rw [ectk112, cup_ne (by simp)]; exact pc4_k109
  have pa5_k112 := pa5_k109
  have pc5_k112 : ctk112 (1, 7, 0) = some (gI 1 14 (fun _ => 0)) := by rw [ectk112, cup_ne (by simp)]; exact pc5_k109
  have pa6_k112 := pa6_k109
  have pc6_k112 : ctk112 (1, 8, 0) = some (gI 1 84 (fun _ => 0)) := by rw [ectk112, cup_ne (by simp)]; exact pc6_k109
  have pa7_k112 := pa7_k109
  have pc7_k112 : ctk112 (1, 9, 0) = some (gI 1 84 (fun _ => 0)) := by rw [ectk112, cup_ne (by simp)]; exact pc7_k109
  have pa8_k112 := pa8_k109
  have pc8_k112 : ctk112 (1, 10, 0) = some (gI 0 672 (fun _ => 0)) := by rw [ectk112, cup_ne (by simp)]; exact pc8_k109
  have pa9_k112 := pa9_k109
  have pc9_k112 : ctk112 (1, 12, 0) = some (gI 1 4 (fun _ => 0)) := by rw [ectk112, cup_ne (by simp)]; exact pc9_k109
  have pa10_k112 := pa10_k109
  have pc10_k112 : ctk112 (1, 13, 0) = some (gI 1 4 (fun _ => 0)) := by rw [ectk112, cup_ne (by simp)]; exact pc10_k109
  have pa11_k112 := pa11_k109
  have pc11_k112 : ctk112 (1, 14, 0) = some (gI 1 4 (fun _ => 0)) := by rw [ectk112, cup_ne (by simp)]; exact pc11_k109
  have pa12_k112 := pa12_k109
  have pc12_k112 : ctk112 (1, 15, 0) = some (gI 1 14 (fun _ => 0)) := by rw [ectk112, cup_ne (by simp)]; exact pc12_k109
  have pa13_k112 := pa13_k109
  have pc13_k112 : ctk112 (1, 16, 0) = some (gI 1 14 (fun _ => 0)) := by rw [ectk112, cup_ne (by simp)]; exact pc13_k109
  have pa14_k112 := pa14_k109
  have pc14_k112 : ctk112 (1, 17, 0) = some (gI 1 14 (fun _ => 0)) := by rw [ectk112, cup_ne (by simp)]; exact pc14_k109
  have frk112 : ∀ t : Tg, (2 ≤ t.1) → ctk112 t = ct t ∧ adk109 t = ad t := fun t ht => by
    have e0 : t ≠ (0, 0, 0) := fun e => by rw [e] at ht; simp only at ht; omega
    exact ⟨(show ctk112 t = ctk109 t by rw [ectk112, cup_ne e0]).trans (frk109 t ht).1, (frk109 t ht).2⟩
  clear pa0_k109 pa1_k109 pa2_k109 pa3_k109 pa4_k109 pa5_k109 pa6_k109 pa7_k109 pa8_k109 pa9_k109 pa10_k109 pa11_k109 pa12_k109 pa13_k109 pa14_k109 pc0_k109 pc1_k109 pc2_k109 pc3_k109 pc4_k109 pc5_k109 pc6_k109 pc7_k109 pc8_k109 pc9_k109 pc10_k109 pc11_k109 pc12_k109 pc13_k109 pc14_k109 frk109 ectk112 egh110 Rk109 h107 h108
  refine g_ald_n hC dX7_init_114 rfl ?_
  refine g_sipush (z := 960) hC dX7_init_115 rfl ?_
  refine g_newC (n := 960) hC dX7_init_118 ga_char rfl (by decide) (by decide) (by decide) (fun q113 hnq113 => ?_)
  obtain ⟨gh114, egh114⟩ : ∃ g_, g_ = gset gh110 q113 (gI 0 960 (fun _ => 0)) := ⟨_, rfl⟩
  rw [← egh114]
  have h115 : gh114 xa = some (gO 11 [vi (0), vi (0), .ref q1, vi (0), .ref q9, .ref q17, .ref q25, .ref q33, .ref q41, .ref q49, .ref q57, vi (0), .ref q65, .ref q73, .ref q81, .ref q89, .ref q97, .ref q105, .null, .null, vi (0), .null, vi (0), .null, .null, .null, .null, vi (0)]) := by rw [egh114, gset_ne (fun z => by rw [z, hnq113] at h111; cases h111)]; exact h111
  have h116 : gh114 q113 = some (gI 0 960 (fun _ => 0)) := by rw [egh114]; exact gset_eq
  have Rk117 := Rk112.new (t := (1, 18, 0)) hnq113 (gI 0 960 (fun _ => 0))
  obtain ⟨adk117, eadk117⟩ : ∃ x, x = aup adk109 (1, 18, 0) q113 := ⟨_, rfl⟩
  obtain ⟨ctk117, ectk117⟩ : ∃ x, x = cup ctk112 (1, 18, 0) (gI 0 960 (fun _ => 0)) := ⟨_, rfl⟩
  rw [← eadk117, ← ectk117, ← egh114] at Rk117
  have pa0_k117 : adk117 (0, 0, 0) = xa := by rw [eadk117, aup_ne (by simp)]; exact pa0_k112
  have pc0_k117 : ctk117 (0, 0, 0) = some (gO 11 [vi (0), vi (0), .ref q1, vi (0), .ref q9, .ref q17, .ref q25, .ref q33, .ref q41, .ref q49, .ref q57, vi (0), .ref q65, .ref q73, .ref q81, .ref q89, .ref q97, .ref q105, .null, .null, vi (0), .null, vi (0), .null, .null, .null, .null, vi (0)]) := by rw [ectk117, cup_ne (by simp)]; exact pc0_k112
  have pa1_k117 : adk117 (1, 2, 0) = q1 := by rw [eadk117, aup_ne (by simp)]; exact pa1_k112
  have pc1_k117 : ctk117 (1, 2, 0) = some (gI 0 8 (fun _ => 0)) := by rw [ectk117, cup_ne (by simp)]; exact pc1_k112
  have pa2_k117 : adk117 (1, 4, 0) = q9 := by rw [eadk117, aup_ne (by simp)]; exact pa2_k112
  have pc2_k117 : ctk117 (1, 4, 0) = some (gI 1 14 (fun _ => 0)) := by rw [ectk117, cup_ne (by simp)]; exact pc2_k112
  have pa3_k117 : adk117 (1, 5, 0) = q17 := by rw [eadk117, aup_ne (by simp)]; exact pa3_k112
  have pc3_k117 : ctk117 (1, 5, 0) = some (gI 1 14 (fun _ => 0)) := by rw [ectk117, cup_ne (by simp)]; exact pc3_k112
  have pa4_k117 : adk117 (1, 6, 0) = q25 := by rw [eadk117, aup_ne (by simp)]; exact pa4_k112
  have pc4_k117 : ctk117 (1, 6, 0) = some (gI 1 14 (fun _ => 0)) := by rw [ectk117, cup_ne (by simp)]; exact pc4_k112
  have pa5_k117 : adk117 (1, 7, 0) = q33 := by rw [eadk117, aup_ne (by simp)]; exact pa5_k112
  have pc5_k117 : ctk117 (1, 7, 0) = some (gI 1 14 (fun _ => 0)) := by rw [ectk117, cup_ne (by simp)]; exact pc5_k112
  have pa6_k117 : adk117 (1, 8, 0) = q41 := by rw [eadk117, aup_ne (by simp)]; exact pa6_k112
  have pc6_k117 : ctk117 (1, 8, 0) = some (gI 1 84 (fun _ => 0)) := by rw [ectk117, cup_ne (by simp)]; exact pc6_k112
  have pa7_k117 : adk117 (1, 9, 0) = q49 := by rw [eadk117, aup_ne (by simp)]; exact pa7_k112
  have pc7_k117 : ctk117 (1, 9, 0) = some (gI 1 84 (fun _ => 0)) := by rw [ectk117, cup_ne (by simp)]; exact pc7_k112
  have pa8_k117 : adk117 (1, 10, 0) = q57 := by rw [eadk117, aup_ne (by simp)]; exact pa8_k112
  have pc8_k117 : ctk117 (1, 10, 0) = some (gI 0 672 (fun _ => 0)) := by rw [ectk117, cup_ne (by simp)]; exact pc8_k112
  have pa9_k117 : adk117 (1, 12, 0) = q65 := by rw [eadk117, aup_ne (by simp)]; exact pa9_k112
  have pc9_k117 : ctk117 (1, 12, 0) = some (gI 1 4 (fun _ => 0)) := by rw [ectk117, cup_ne (by simp)]; exact pc9_k112
  have pa10_k117 : adk117 (1, 13, 0) = q73 := by rw [eadk117, aup_ne (by simp)]; exact pa10_k112
  have pc10_k117 : ctk117 (1, 13, 0) = some (gI 1 4 (fun _ => 0)) := by rw [ectk117, cup_ne (by simp)]; exact pc10_k112
  have pa11_k117 : adk117 (1, 14, 0) = q81 := by rw [eadk117, aup_ne (by simp)]; exact pa11_k112
  have pc11_k117 : ctk117 (1, 14, 0) = some (gI 1 4 (fun _ => 0)) := by rw [ectk117, cup_ne (by simp)]; exact pc11_k112
  have pa12_k117 : adk117 (1, 15, 0) = q89 := by rw [eadk117, aup_ne (by simp)]; exact pa12_k112
  have pc12_k117 : ctk117 (1, 15, 0) = some (gI 1 14 (fun _ => 0)) := by rw [ectk117, cup_ne (by simp)]; exact pc12_k112
  have pa13_k117 : adk117 (1, 16, 0) = q97 := by rw [eadk117, aup_ne (by simp)]; exact pa13_k112
  have pc13_k117 : ctk117 (1, 16, 0) = some (gI 1 14 (fun _ => 0)) := by rw [ectk117, cup_ne (by simp)]; exact pc13_k112
  have pa14_k117 : adk117 (1, 17, 0) = q105 := by rw [eadk117, aup_ne (by simp)]; exact pa14_k112
  have pc14_k117 : ctk117 (1, 17, 0) = some (gI 1 14 (fun _ => 0)) := by rw [ectk117, cup_ne (by simp)]; exact pc14_k112
  have pa15_k117 : adk117 (1, 18, 0) = q113 := by rw [eadk117, aup_eq]
  have pc15_k117 : ctk117 (1, 18, 0) = some (gI 0 960 (fun _ => 0)) := by rw [ectk117, cup_eq]
  have frk117 : ∀ t : Tg, (2 ≤ t.1) → ctk117 t = ct t ∧ adk117 t = ad t := fun t ht => by
    have e0 : t ≠ (1, 18, 0) := fun e => by rw [e] at ht; simp only at ht; omega
    exact ⟨(show ctk117 t = ctk112 t by rw [ectk117, cup_ne e0]).trans (frk112 t ht).1, (show adk117 t = adk109 t by rw [eadk117, aup_ne e0]).trans (frk112 t ht).2⟩
  clear pa0_k112 pa1_k112 pa2_k112 pa3_k112 pa4_k112 pa5_k112 pa6_k112 pa7_k112 pa8_k112 pa9_k112 pa10_k112 pa11_k112 pa12_k112 pa13_k112 pa14_k112 pc0_k112 pc1_k112 pc2_k112 pc3_k112 pc4_k112 pc5_k112 pc6_k112 pc7_k112 pc8_k112 pc9_k112 pc10_k112 pc11_k112 pc12_k112 pc13_k112 pc14_k112 frk112 ectk117 egh114 Rk112 eadk117 h111
  refine g_putF hC hq (fs' := [vi (0), vi (0), .ref q1, vi (0), .ref q9, .ref q17, .ref q25, .ref q33, .ref q41, .ref q49, .ref q57, vi (0), .ref q65, .ref q73, .ref q81, .ref q89, .ref q97, .ref q105, .ref q113, .null, vi (0), .null, vi (0), .null, .null, .null, .null, vi (0)]) dX7_init_120 gp_RX7_53 h115 ⟨rfl, rfl⟩ rfl (Nat.le_of_ble_eq_true rfl) ?_
  obtain ⟨gh118, egh118⟩ : ∃ g_, g_ = gset gh114 xa (gO 11 [vi (0), vi (0), .ref q1, vi (0), .ref q9, .ref q17, .ref q25, .ref q33, .ref q41, .ref q49, .ref q57, vi (0), .ref q65, .ref q73, .ref q81, .ref q89, .ref q97, .ref q105, .ref q113, .null, vi (0), .null, vi (0), .null, .null, .null, .null, vi (0)]) := ⟨_, rfl⟩
  rw [← egh118]
  have h119 : gh118 xa = some (gO 11 [vi (0), vi (0), .ref q1, vi (0), .ref q9, .ref q17, .ref q25, .ref q33, .ref q41, .ref q49, .ref q57, vi (0), .ref q65, .ref q73, .ref q81, .ref q89, .ref q97, .ref q105, .ref q113, .null, vi (0), .null, vi (0), .null, .null, .null, .null, vi (0)]) := by rw [egh118]; exact gset_eq
  have Rk120 := Rk117.put pc0_k117 (gO 11 [vi (0), vi (0), .ref q1, vi (0), .ref q9, .ref q17, .ref q25, .ref q33, .ref q41, .ref q49, .ref q57, vi (0), .ref q65, .ref q73, .ref q81, .ref q89, .ref q97, .ref q105, .ref q113, .null, vi (0), .null, vi (0), .null, .null, .null, .null, vi (0)])
  obtain ⟨ctk120, ectk120⟩ : ∃ x, x = cup ctk117 (0, 0, 0) (gO 11 [vi (0), vi (0), .ref q1, vi (0), .ref q9, .ref q17, .ref q25, .ref q33, .ref q41, .ref q49, .ref q57, vi (0), .ref q65, .ref q73, .ref q81, .ref q89, .ref q97, .ref q105, .ref q113, .null, vi (0), .null, vi (0), .null, .null, .null, .null, vi (0)]) := ⟨_, rfl⟩
  rw [pa0_k117, ← ectk120, ← egh118] at Rk120
  have pa0_k120 := pa0_k117
  have pc0_k120 : ctk120 (0, 0, 0) = some (gO 11 [vi (0), vi (0), .ref q1, vi (0), .ref q9, .ref q17, .ref q25, .ref q33, .ref q41, .ref q49, .ref q57, vi (0), .ref q65, .ref q73, .ref q81, .ref q89, .ref q97, .ref q105, .ref q113, .null, vi (0), .null, vi (0), .null, .null, .null, .null, vi (0)]) := by rw [ectk120, cup_eq]
  have pa1_k120 := pa1_k117
  have pc1_k120 : ctk120 (1, 2, 0) = some (gI 0 8 (fun _ => 0)) := by rw [ectk120, cup_ne (by simp)]; exact pc1_k117
  have pa2_k120 := pa2_k117
  have pc2_k120 : ctk120 (1, 4, 0) = some (gI 1 14 (fun _ => 0)) := by rw [ectk120, cup_ne (by simp)]; exact pc2_k117
  have pa3_k120 := pa3_k117
  have pc3_k120 : ctk120 (1, 5, 0) = some (gI 1 14 (fun _ => 0)) := by rw [ectk120, cup_ne (by simp)]; exact pc3_k117
  have pa4_k120 := pa4_k117
  have pc4_k120 : ctk120 (1, 6, 0) = some (gI 1 14 (fun _ => 0)) := by rw [ectk120, cup_ne (by simp)]; exact pc4_k117
  have pa5_k120 := pa5_k117
  have pc5_k120 : ctk120 (1, 7, 0) = some (gI 1 14 (fun _ => 0)) := by rw [ectk120, cup_ne (by simp)]; exact pc5_k117
  have pa6_k120 := pa6_k117
  have pc6_k120 : ctk120 (1, 8, 0) = some (gI 1 84 (fun _ => 0)) := by rw [ectk120, cup_ne (by simp)]; exact pc6_k117
  have pa7_k120 := pa7_k117
  have pc7_k120 : ctk120 (1, 9, 0) = some (gI 1 84 (fun _ => 0)) := by rw [ectk120, cup_ne (by simp)]; exact pc7_k117
  have pa8_k120 := pa8_k117
  have pc8_k120 : ctk120 (1, 10, 0) = some (gI 0 672 (fun _ => 0)) := by rw [ectk120, cup_ne (by simp)]; exact pc8_k117
  have pa9_k120 := pa9_k117
  have pc9_k120 : ctk120 (1, 12, 0) = some (gI 1 4 (fun _ => 0)) := by rw [ectk120, cup_ne (by simp)]; exact pc9_k117
  have pa10_k120 := pa10_k117
  have pc10_k120 : ctk120 (1, 13, 0) = some (gI 1 4 (fun _ => 0)) := by rw [ectk120, cup_ne (by simp)]; exact pc10_k117
  have pa11_k120 := pa11_k117
  have pc11_k120 : ctk120 (1, 14, 0) = some (gI 1 4 (fun _ => 0)) := by rw [ectk120, cup_ne (by simp)]; exact pc11_k117
  have pa12_k120 := pa12_k117
  have pc12_k120 : ctk120 (1, 15, 0) = some (gI 1 14 (fun _ => 0)) := by rw [ectk120, cup_ne (by simp)]; exact pc12_k117
  have pa13_k120 := pa13_k117
  have pc13_k120 : ctk120 (1, 16, 0) = some (gI 1 14 (fun _ => 0)) := by rw [ectk120, cup_ne (by simp)]; exact pc13_k117
  have pa14_k120 := pa14_k117
  have pc14_k120 : ctk120 (1, 17, 0) = some (gI 1 14 (fun _ => 0)) := by rw [ectk120, cup_ne (by simp)]; exact pc14_k117
  have pa15_k120 := pa15_k117
  have pc15_k120 : ctk120 (1, 18, 0) = some (gI 0 960 (fun _ => 0)) := by rw [ectk120, cup_ne (by simp)]; exact pc15_k117
  have frk120 : ∀ t : Tg, (2 ≤ t.1) → ctk120 t = ct t ∧ adk117 t = ad t := fun t ht => by
    have e0 : t ≠ (0, 0, 0) := fun e => by rw [e] at ht; simp only at ht; omega
    exact ⟨(show ctk120 t = ctk117 t by rw [ectk120, cup_ne e0]).trans (frk117 t ht).1, (frk117 t ht).2⟩
  clear pa0_k117 pa1_k117 pa2_k117 pa3_k117 pa4_k117 pa5_k117 pa6_k117 pa7_k117 pa8_k117 pa9_k117 pa10_k117 pa11_k117 pa12_k117 pa13_k117 pa14_k117 pa15_k117 pc0_k117 pc1_k117 pc2_k117 pc3_k117 pc4_k117 pc5_k117 pc6_k117 pc7_k117 pc8_k117 pc9_k117 pc10_k117 pc11_k117 pc12_k117 pc13_k117 pc14_k117 pc15_k117 frk117 ectk120 egh118 Rk117 h115 h116
  refine g_ald_n hC dX7_init_123 rfl ?_
  refine g_bipush (z := 56) hC dX7_init_124 rfl ?_
  refine g_newI (n := 56) hC dX7_init_126 ga_int rfl (by decide) (by decide) (by decide) (fun q121 hnq121 => ?_)
  obtain ⟨gh122, egh122⟩ : ∃ g_, g_ = gset gh118 q121 (gI 1 56 (fun _ => 0)) := ⟨_, rfl⟩
  rw [← egh122]
  have h123 : gh122 xa = some (gO 11 [vi (0), vi (0), .ref q1, vi (0), .ref q9, .ref q17, .ref q25, .ref q33, .ref q41, .ref q49, .ref q57, vi (0), .ref q65, .ref q73, .ref q81, .ref q89, .ref q97, .ref q105, .ref q113, .null, vi (0), .null, vi (0), .null, .null, .null, .null, vi (0)]) := by rw [egh122, gset_ne (fun z => by rw [z, hnq121] at h119; cases h119)]; exact h119
  have h124 : gh122 q121 = some (gI 1 56 (fun _ => 0)) := by rw [egh122]; exact gset_eq
  have Rk125 := Rk120.new (t := (1, 19, 0)) hnq121 (gI 1 56 (fun _ => 0))
  obtain ⟨adk125, eadk125⟩ : ∃ x, x = aup adk117 (1, 19, 0) q121 := ⟨_, rfl⟩
  obtain ⟨ctk125, ectk125⟩ : ∃ x, x = cup ctk120 (1, 19, 0) (gI 1 56 (fun _ => 0)) := ⟨_, rfl⟩
  rw [← eadk125, ← ectk125, ← egh122] at Rk125
  have pa0_k125 : adk125 (0, 0, 0) = xa := by rw [eadk125, aup_ne (by simp)]; exact pa0_k120
  have pc0_k125 : ctk125 (0, 0, 0) = some (gO 11 [vi (0), vi (0), .ref q1, vi (0), .ref q9, .ref q17, .ref q25, .ref q33, .ref q41, .ref q49, .ref q57, vi (0), .ref q65, .ref q73, .ref q81, .ref q89, .ref q97, .ref q105, .ref q113, .null, vi (0), .null, vi (0), .null, .null, .null, .null, vi (0)]) := by rw [ectk125, cup_ne (by simp)]; exact pc0_k120
  have pa1_k125 : adk125 (1, 2, 0) = q1 := by rw [eadk125, aup_ne (by simp)]; exact pa1_k120
  have pc1_k125 : ctk125 (1, 2, 0) = some (gI 0 8 (fun _ => 0)) := by rw [ectk125, cup_ne (by simp)]; exact pc1_k120
  have pa2_k125 : adk125 (1, 4, 0) = q9 := by rw [eadk125, aup_ne (by simp)]; exact pa2_k120
  have pc2_k125 : ctk125 (1, 4, 0) = some (gI 1 14 (fun _ => 0)) := by rw [ectk125, cup_ne (by simp)]; exact pc2_k120
  have pa3_k125 : adk125 (1, 5, 0) = q17 := by rw [eadk125, aup_ne (by simp)]; exact pa3_k120
  have pc3_k125 : ctk125 (1, 5, 0) = some (gI 1 14 (fun _ => 0)) := by rw [ectk125, cup_ne (by simp)]; exact pc3_k120
  have pa4_k125 : adk125 (1, 6, 0) = q25 := by rw [eadk125, aup_ne (by simp)]; exact pa4_k120
  have pc4_k125 : ctk125 (1, 6, 0) = some (gI 1 14 (fun _ => 0)) := by rw [ectk125, cup_ne (by simp)]; exact pc4_k120
  have pa5_k125 : adk125 (1, 7, 0) = q33 := by rw [eadk125, aup_ne (by simp)]; exact pa5_k120
  have pc5_k125 : ctk125 (1, 7, 0) = some (gI 1 14 (fun _ => 0)) := by rw [ectk125, cup_ne (by simp)]; exact pc5_k120
  have pa6_k125 : adk125 (1, 8, 0) = q41 := by rw [eadk125, aup_ne (by simp)]; exact pa6_k120
  have pc6_k125 : ctk125 (1, 8, 0) = some (gI 1 84 (fun _ => 0)) := by rw [ectk125, cup_ne (by simp)]; exact pc6_k120
  have pa7_k125 : adk125 (1, 9, 0) = q49 := by rw [eadk125, aup_ne (by simp)]; exact pa7_k120
  have pc7_k125 : ctk125 (1, 9, 0) = some (gI 1 84 (fun _ => 0)) := by rw [ectk125, cup_ne (by simp)]; exact pc7_k120
  have pa8_k125 : adk125 (1, 10, 0) = q57 := by rw [eadk125, aup_ne (by simp)]; exact pa8_k120
  have pc8_k125 : ctk125 (1, 10, 0) = some (gI 0 672 (fun _ => 0)) := by rw [ectk125, cup_ne (by simp)]; exact pc8_k120
  have pa9_k125 : adk125 (1, 12, 0) = q65 := by rw [eadk125, aup_ne (by simp)]; exact pa9_k120
  have pc9_k125 : ctk125 (1, 12, 0) = some (gI 1 4 (fun _ => 0)) := by rw [ectk125, cup_ne (by simp)]; exact pc9_k120
  have pa10_k125 : adk125 (1, 13, 0) = q73 := by rw [eadk125, aup_ne (by simp)]; exact pa10_k120
  have pc10_k125 : ctk125 (1, 13, 0) = some (gI 1 4 (fun _ => 0)) := by rw [ectk125, cup_ne (by simp)]; exact pc10_k120
  have pa11_k125 : adk125 (1, 14, 0) = q81 := by rw [eadk125, aup_ne (by simp)]; exact pa11_k120
  have pc11_k125 : ctk125 (1, 14, 0) = some (gI 1 4 (fun _ => 0)) := by rw [ectk125, cup_ne (by simp)]; exact pc11_k120
  have pa12_k125 : adk125 (1, 15, 0) = q89 := by rw [eadk125, aup_ne (by simp)]; exact pa12_k120
  have pc12_k125 : ctk125 (1, 15, 0) = some (gI 1 14 (fun _ => 0)) := by rw [ectk125, cup_ne (by simp)]; exact pc12_k120
  have pa13_k125 : adk125 (1, 16, 0) = q97 := by rw [eadk125, aup_ne (by simp)]; exact pa13_k120
  have pc13_k125 : ctk125 (1, 16, 0) = some (gI 1 14 (fun _ => 0)) := by rw [ectk125, cup_ne (by simp)]; exact pc13_k120
  have pa14_k125 : adk125 (1, 17, 0) = q105 := by rw [eadk125, aup_ne (by simp)]; exact pa14_k120
  have pc14_k125 : ctk125 (1, 17, 0) = some (gI 1 14 (fun _ => 0)) := by rw [ectk125, cup_ne (by simp)]; exact pc14_k120
  have pa15_k125 : adk125 (1, 18, 0) = q113 := by rw [eadk125, aup_ne (by simp)]; exact pa15_k120
  have pc15_k125 : ctk125 (1, 18, 0) = some (gI 0 960 (fun _ => 0)) := by rw [ectk125, cup_ne (by simp)]; exact pc15_k120
  have pa16_k125 : adk125 (1, 19, 0) = q121 := by rw [eadk125, aup_eq]
  have pc16_k125 : ctk125 (1, 19, 0) = some (gI 1 56 (fun _ => 0)) := by rw [ectk125, cup_eq]
  have frk125 : ∀ t : Tg, (2 ≤ t.1) → ctk125 t = ct t ∧ adk125 t = ad t := fun t ht => by
    have e0 : t ≠ (1, 19, 0) := fun e => by rw [e] at ht; simp only at ht; omega
    exact ⟨(show ctk125 t = ctk120 t by rw [ectk125, cup_ne e0]).trans (frk120 t ht).1, (show adk125 t = adk117 t by rw [eadk125, aup_ne e0]).trans (frk120 t ht).2⟩
  clear pa0_k120 pa1_k120 pa2_k120 pa3_k120 pa4_k120 pa5_k120 pa6_k120 pa7_k120 pa8_k120 pa9_k120 pa10_k120 pa11_k120 pa12_k120 pa13_k120 pa14_k120 pa15_k120 pc0_k120 pc1_k120 pc2_k120 pc3_k120 pc4_k120 pc5_k120 pc6_k120 pc7_k120 pc8_k120 pc9_k120 pc10_k120 pc11_k120 pc12_k120 pc13_k120 pc14_k120 pc15_k120 frk120 ectk125 egh122 Rk120 eadk125 h119
  refine g_putF hC hq (fs' := [vi (0), vi (0), .ref q1, vi (0), .ref q9, .ref q17, .ref q25, .ref q33, .ref q41, .ref q49, .ref q57, vi (0), .ref q65, .ref q73, .ref q81, .ref q89, .ref q97, .ref q105, .ref q113, .ref q121, vi (0), .null, vi (0), .null, .null, .null, .null, vi (0)]) dX7_init_128 gp_RX7_56 h123 ⟨rfl, rfl⟩ rfl (Nat.le_of_ble_eq_true rfl) ?_
  obtain ⟨gh126, egh126⟩ : ∃ g_, g_ = gset gh122 xa (gO 11 [vi (0), vi (0), .ref q1, vi (0), .ref q9, .ref q17, .ref q25, .ref q33, .ref q41, .ref q49, .ref q57, vi (0), .ref q65, .ref q73, .ref q81, .ref q89, .ref q97, .ref q105, .ref q113, .ref q121, vi (0), .null, vi (0), .null, .null, .null, .null, vi (0)]) := ⟨_, rfl⟩
  rw [← egh126]
  have h127 : gh126 xa = some (gO 11 [vi (0), vi (0), .ref q1, vi (0), .ref q9, .ref q17, .ref q25, .ref q33, .ref q41, .ref q49, .ref q57, vi (0), .ref q65, .ref q73, .ref q81, .ref q89, .ref q97, .ref q105, .ref q113, .ref q121, vi (0), .null, vi (0), .null, .null, .null, .null, vi (0)]) := by rw [egh126]; exact gset_eq
  have Rk128 := Rk125.put pc0_k125 (gO 11 [vi (0), vi (0), .ref q1, vi (0), .ref q9, .ref q17, .ref q25, .ref q33, .ref q41, .ref q49, .ref q57, vi (0), .ref q65, .ref q73, .ref q81, .ref q89, .ref q97, .ref q105, .ref q113, .ref q121, vi (0), .null, vi (0), .null, .null, .null, .null, vi (0)])
  obtain ⟨ctk128, ectk128⟩ : ∃ x, x = cup ctk125 (0, 0, 0) (gO 11 [vi (0), vi (0), .ref q1, vi (0), .ref q9, .ref q17, .ref q25, .ref q33, .ref q41, .ref q49, .ref q57, vi (0), .ref q65, .ref q73, .ref q81, .ref q89, .ref q97, .ref q105, .ref q113, .ref q121, vi (0), .null, vi (0), .null, .null, .null, .null, vi (0)]) := ⟨_, rfl⟩
  rw [pa0_k125, ← ectk128, ← egh126] at Rk128
  have pa0_k128 := pa0_k125
  have pc0_k128 : ctk128 (0, 0, 0) = some (gO 11 [vi (0), vi (0), .ref q1, vi (0), .ref q9, .ref q17, .ref q25, .ref q33, .ref q41, .ref q49, .ref q57, vi (0), .ref q65, .ref q73, .ref q81, .ref q89, .ref q97, .ref q105, .ref q113, .ref q121, vi (0), .null, vi (0), .null, .null, .null, .null, vi (0)]) := by rw [ectk128, cup_eq]
  have pa1_k128 := pa1_k125
  have pc1_k128 : ctk128 (1, 2, 0) = some (gI 0 8 (fun _ => 0)) := by rw [ectk128, cup_ne (by simp)]; exact pc1_k125
  have pa2_k128 := pa2_k125
  have pc2_k128 : ctk128 (1, 4, 0) = some (gI 1 14 (fun _ => 0)) := by rw [ectk128, cup_ne (by simp)]; exact pc2_k125
  have pa3_k128 := pa3_k125
  have pc3_k128 : ctk128 (1, 5, 0) = some (gI 1 14 (fun _ => 0)) := by rw [ectk128, cup_ne (by simp)]; exact pc3_k125
  have pa4_k128 := pa4_k125
  have pc4_k128 : ctk128 (1, 6, 0) = some (gI 1 14 (fun _ => 0)) := by rw [ectk128, cup_ne (by simp)]; exact pc4_k125
  have pa5_k128 := pa5_k125
  have pc5_k128 : ctk128 (1, 7, 0) = some (gI 1 14 (fun _ => 0)) := by rw [ectk128, cup_ne (by simp)]; exact pc5_k125
  have pa6_k128 := pa6_k125
  have pc6_k128 : ctk128 (1, 8, 0) = some (gI 1 84 (fun _ => 0)) := by rw [ectk128, cup_ne (by simp)]; exact pc6_k125
  have pa7_k128 := pa7_k125
  have pc7_k128 : ctk128 (1, 9, 0) = some (gI 1 84 (fun _ => 0)) := by rw [ectk128, cup_ne (by simp)]; exact pc7_k125
  have pa8_k128 := pa8_k125
  have pc8_k128 : ctk128 (1, 10, 0) = some (gI 0 672 (fun _ => 0)) := by rw [ectk128, cup_ne (by simp)]; exact pc8_k125
  have pa9_k128 := pa9_k125
  have pc9_k128 : ctk128 (1, 12, 0) = some (gI 1 4 (fun _ => 0)) := by rw [ectk128, cup_ne (by simp)]; exact pc9_k125
  have pa10_k128 := pa10_k125
  have pc10_k128 : ctk128 (1, 13, 0) = some (gI 1 4 (fun _ => 0)) := by rw [ectk128, cup_ne (by simp)]; exact pc10_k125
  have pa11_k128 := pa11_k125
  have pc11_k128 : ctk128 (1, 14, 0) = some (gI 1 4 (fun _ => 0)) := by rw [ectk128, cup_ne (by simp)]; exact pc11_k125
  have pa12_k128 := pa12_k125
  have pc12_k128 : ctk128 (1, 15, 0) = some (gI 1 14 (fun _ => 0)) := by rw [ectk128, cup_ne (by simp)]; exact pc12_k125
  have pa13_k128 := pa13_k125
  have pc13_k128 : ctk128 (1, 16, 0) = some (gI 1 14 (fun _ => 0)) := by rw [ectk128, cup_ne (by simp)]; exact pc13_k125
  have pa14_k128 := pa14_k125
  have pc14_k128 : ctk128 (1, 17, 0) = some (gI 1 14 (fun _ => 0)) := by rw [ectk128, cup_ne (by simp)]; exact pc14_k125
  have pa15_k128 := pa15_k125
  have pc15_k128 : ctk128 (1, 18, 0) = some (gI 0 960 (fun _ => 0)) := by rw [ectk128, cup_ne (by simp)]; exact pc15_k125
  have pa16_k128 := pa16_k125
  have pc16_k128 : ctk128 (1, 19, 0) = some (gI 1 56 (fun _ => 0)) := by rw [ectk128, cup_ne (by simp)]; exact pc16_k125
  have frk128 : ∀ t : Tg, (2 ≤ t.1) → ctk128 t = ct t ∧ adk125 t = ad t := fun t ht => by
    have e0 : t ≠ (0, 0, 0) := fun e => by rw [e] at ht; simp only at ht; omega
    exact ⟨(show ctk128 t = ctk125 t by rw [ectk128, cup_ne e0]).trans (frk125 t ht).1, (frk125 t ht).2⟩
  clear pa0_k125 pa1_k125 pa2_k125 pa3_k125 pa4_k125 pa5_k125 pa6_k125 pa7_k125 pa8_k125 pa9_k125 pa10_k125 pa11_k125 pa12_k125 pa13_k125 pa14_k125 pa15_k125 pa16_k125 pc0_k125 pc1_k125 pc2_k125 pc3_k125 pc4_k125 pc5_k125 pc6_k125 pc7_k125 pc8_k125 pc9_k125 pc10_k125 pc11_k125 pc12_k125 pc13_k125 pc14_k125 pc15_k125 pc16_k125 frk125 ectk128 egh126 Rk125 h123 h124
  refine g_ald_n hC dX7_init_131 rfl ?_
  refine g_iconst hC dX7_init_132 rfl ?_
  refine g_newI (n := 4) hC dX7_init_133 ga_int rfl (by decide) (by decide) (by decide) (fun q129 hnq129 => ?_)
  obtain ⟨gh130, egh130⟩ : ∃ g_, g_ = gset gh126 q129 (gI 1 4 (fun _ => 0)) := ⟨_, rfl⟩
  rw [← egh130]
  have h131 : gh130 xa = some (gO 11 [vi (0), vi (0), .ref q1, vi (0), .ref q9, .ref q17, .ref q25, .ref q33, .ref q41, .ref q49, .ref q57, vi (0), .ref q65, .ref q73, .ref q81, .ref q89, .ref q97, .ref q105, .ref q113, .ref q121, vi (0), .null, vi (0), .null, .null, .null, .null, vi (0)]) := by rw [egh130, gset_ne (fun z => by rw [z, hnq129] at h127; cases h127)]; exact h127
  have h132 : gh130 q129 = some (gI 1 4 (fun _ => 0)) := by rw [egh130]; exact gset_eq
  have Rk133 := Rk128.new (t := (1, 21, 0)) hnq129 (gI 1 4 (fun _ => 0))
  obtain ⟨adk133, eadk133⟩ : ∃ x, x = aup adk125 (1, 21, 0) q129 := ⟨_, rfl⟩
  obtain ⟨ctk133, ectk133⟩ : ∃ x, x = cup ctk128 (1, 21, 0) (gI 1 4 (fun _ => 0)) := ⟨_, rfl⟩
  rw [← eadk133, ← ectk133, ← egh130] at Rk133
  have pa0_k133 : adk133 (0, 0, 0) = xa := by rw [eadk133, aup_ne (by simp)]; exact pa0_k128
  have pc0_k133 : ctk133 (0, 0, 0) = some (gO 11 [vi (0), vi (0), .ref q1, vi (0), .ref q9, .ref q17, .ref q25, .ref q33, .ref q41, .ref q49, .ref q57, vi (0), .ref q65, .ref q73, .ref q81, .ref q89, .ref q97, .ref q105, .ref q113, .ref q121, vi (0), .null, vi (0), .null, .null, .null, .null, vi (0)]) := by rw [ectk133, cup_ne (by simp)]; exact pc0_k128
  have pa1_k133 : adk133 (1, 2, 0) = q1 := by rw [eadk133, aup_ne (by simp)]; exact pa1_k128
  have pc1_k133 : ctk133 (1, 2, 0) = some (gI 0 8 (fun _ => 0)) := by rw [ectk133, cup_ne (by simp)]; exact pc1_k128
  have pa2_k133 : adk133 (1, 4, 0) = q9 := by rw [eadk133, aup_ne (by simp)]; exact pa2_k128
  have pc2_k133 : ctk133 (1, 4, 0) = some (gI 1 14 (fun _ => 0)) := by rw [ectk133, cup_ne (by simp)]; exact pc2_k128
  have pa3_k133 : adk133 (1, 5, 0) = q17 := by rw [eadk133, aup_ne (by simp)]; exact pa3_k128
  have pc3_k133 : ctk133 (1, 5, 0) = some (gI 1 14 (fun _ => 0)) := by rw [ectk133, cup_ne (by simp)]; exact pc3_k128
  have pa4_k133 : adk133 (1, 6, 0) = q25 := by rw [eadk133, aup_ne (by simp)]; exact pa4_k128
  have pc4_k133 : ctk133 (1, 6, 0) = some (gI 1 14 (fun _ => 0)) := by rw [ectk133, cup_ne (by simp)]; exact pc4_k128
  have pa5_k133 : adk133 (1, 7, 0) = q33 := by rw [eadk133, aup_ne (by simp)]; exact pa5_k128
  have pc5_k133 : ctk133 (1, 7, 0) = some (gI 1 14 (fun _ => 0)) := by rw [ectk133, cup_ne (by simp)]; exact pc5_k128
  have pa6_k133 : adk133 (1, 8, 0) = q41 := by rw [eadk133, aup_ne (by simp)]; exact pa6_k128
  have pc6_k133 : ctk133 (1, 8, 0) = some (gI 1 84 (fun _ => 0)) := by rw [ectk133, cup_ne (by simp)]; exact pc6_k128
  have pa7_k133 : adk133 (1, 9, 0) = q49 := by rw [eadk133, aup_ne (by simp)]; exact pa7_k128
  have pc7_k133 : ctk133 (1, 9, 0) = some (gI 1 84 (fun _ => 0)) := by rw [ectk133, cup_ne (by simp)]; exact pc7_k128
  have pa8_k133 : adk133 (1, 10, 0) = q57 := by rw [eadk133, aup_ne (by simp)]; exact pa8_k128
  have pc8_k133 : ctk133 (1, 10, 0) = some (gI 0 672 (fun _ => 0)) := by rw [ectk133, cup_ne (by simp)]; exact pc8_k128
  have pa9_k133 : adk133 (1, 12, 0) = q65 := by rw [eadk133, aup_ne (by simp)]; exact pa9_k128
  have pc9_k133 : ctk133 (1, 12, 0) = some (gI 1 4 (fun _ => 0)) := by rw [ectk133, cup_ne (by simp)]; exact pc9_k128
  have pa10_k133 : adk133 (1, 13, 0) = q73 := by rw [eadk133, aup_ne (by simp)]; exact pa10_k128
  have pc10_k133 : ctk133 (1, 13, 0) = some (gI 1 4 (fun _ => 0)) := by rw [ectk133, cup_ne (by simp)]; exact pc10_k128
  have pa11_k133 : adk133 (1, 14, 0) = q81 := by rw [eadk133, aup_ne (by simp)]; exact pa11_k128
  have pc11_k133 : ctk133 (1, 14, 0) = some (gI 1 4 (fun _ => 0)) := by rw [ectk133, cup_ne (by simp)]; exact pc11_k128
  have pa12_k133 : adk133 (1, 15, 0) = q89 := by rw [eadk133, aup_ne (by simp)]; exact pa12_k128
  have pc12_k133 : ctk133 (1, 15, 0) = some (gI 1 14 (fun _ => 0)) := by rw [ectk133, cup_ne (by simp)]; exact pc12_k128
  have pa13_k133 : adk133 (1, 16, 0) = q97 := by rw [eadk133, aup_ne (by simp)]; exact pa13_k128
  have pc13_k133 : ctk133 (1, 16, 0) = some (gI 1 14 (fun _ => 0)) := by rw [ectk133, cup_ne (by simp)]; exact pc13_k128
  have pa14_k133 : adk133 (1, 17, 0) = q105 := by rw [eadk133, aup_ne (by simp)]; exact pa14_k128
  have pc14_k133 : ctk133 (1, 17, 0) = some (gI 1 14 (fun _ => 0)) := by rw [ectk133, cup_ne (by simp)]; exact pc14_k128
  have pa15_k133 : adk133 (1, 18, 0) = q113 := by rw [eadk133, aup_ne (by simp)]; exact pa15_k128
  have pc15_k133 : ctk133 (1, 18, 0) = some (gI 0 960 (fun _ => 0)) := by rw [ectk133, cup_ne (by simp)]; exact pc15_k128
  have pa16_k133 : adk133 (1, 19, 0) = q121 := by rw [eadk133, aup_ne (by simp)]; exact pa16_k128
  have pc16_k133 : ctk133 (1, 19, 0) = some (gI 1 56 (fun _ => 0)) := by rw [ectk133, cup_ne (by simp)]; exact pc16_k128
  have pa17_k133 : adk133 (1, 21, 0) = q129 := by rw [eadk133, aup_eq]
  have pc17_k133 : ctk133 (1, 21, 0) = some (gI 1 4 (fun _ => 0)) := by rw [ectk133, cup_eq]
  have frk133 : ∀ t : Tg, (2 ≤ t.1) → ctk133 t = ct t ∧ adk133 t = ad t := fun t ht => by
    have e0 : t ≠ (1, 21, 0) := fun e => by rw [e] at ht; simp only at ht; omega
    exact ⟨(show ctk133 t = ctk128 t by rw [ectk133, cup_ne e0]).trans (frk128 t ht).1, (show adk133 t = adk125 t by rw [eadk133, aup_ne e0]).trans (frk128 t ht).2⟩
  clear pa0_k128 pa1_k128 pa2_k128 pa3_k128 pa4_k128 pa5_k128 pa6_k128 pa7_k128 pa8_k128 pa9_k128 pa10_k128 pa11_k128 pa12_k128 pa13_k128 pa14_k128 pa15_k128 pa16_k128 pc0_k128 pc1_k128 pc2_k128 pc3_k128 pc4_k128 pc5_k128 pc6_k128 pc7_k128 pc8_k128 pc9_k128 pc10_k128 pc11_k128 pc12_k128 pc13_k128 pc14_k128 pc15_k128 pc16_k128 frk128 ectk133 egh130 Rk128 eadk133 h127
  refine g_putF hC hq (fs' := [vi (0), vi (0), .ref q1, vi (0), .ref q9, .ref q17, .ref q25, .ref q33, .ref q41, .ref q49, .ref q57, vi (0), .ref q65, .ref q73, .ref q81, .ref q89, .ref q97, .ref q105, .ref q113, .ref q121, vi (0), .ref q129, vi (0), .null, .null, .null, .null, vi (0)]) dX7_init_135 gp_RX7_59 h131 ⟨rfl, rfl⟩ rfl (Nat.le_of_ble_eq_true rfl) ?_
  obtain ⟨gh134, egh134⟩ : ∃ g_, g_ = gset gh130 xa (gO 11 [vi (0), vi (0), .ref q1, vi (0), .ref q9, .ref q17, .ref q25, .ref q33, .ref q41, .ref q49, .ref q57, vi (0), .ref q65, .ref q73, .ref q81, .ref q89, .ref q97, .ref q105, .ref q113, .ref q121, vi (0), .ref q129, vi (0), .null, .null, .null, .null, vi (0)]) := ⟨_, rfl⟩
  rw [← egh134]
  have h135 : gh134 xa = some (gO 11 [vi (0), vi (0), .ref q1, vi (0), .ref q9, .ref q17, .ref q25, .ref q33, .ref q41, .ref q49, .ref q57, vi (0), .ref q65, .ref q73, .ref q81, .ref q89, .ref q97, .ref q105, .ref q113, .ref q121, vi (0), .ref q129, vi (0), .null, .null, .null, .null, vi (0)]) := by rw [egh134]; exact gset_eq
  have Rk136 := Rk133.put pc0_k133 (gO 11 [vi (0), vi (0), .ref q1, vi (0), .ref q9, .ref q17, .ref q25, .ref q33, .ref q41, .ref q49, .ref q57, vi (0), .ref q65, .ref q73, .ref q81, .ref q89, .ref q97, .ref q105, .ref q113, .ref q121, vi (0), .ref q129, vi (0), .null, .null, .null, .null, vi (0)])
  obtain ⟨ctk136, ectk136⟩ : ∃ x, x = cup ctk133 (0, 0, 0) (gO 11 [vi (0), vi (0), .ref q1, vi (0), .ref q9, .ref q17, .ref q25, .ref q33, .ref q41, .ref q49, .ref q57, vi (0), .ref q65, .ref q73, .ref q81, .ref q89, .ref q97, .ref q105, .ref q113, .ref q121, vi (0), .ref q129, vi (0), .null, .null, .null, .null, vi (0)]) := ⟨_, rfl⟩
  rw [pa0_k133, ← ectk136, ← egh134] at Rk136
  have pa0_k136 := pa0_k133
  have pc0_k136 : ctk136 (0, 0, 0) = some (gO 11 [vi (0), vi (0), .ref q1, vi (0), .ref q9, .ref q17, .ref q25, .ref q33, .ref q41, .ref q49, .ref q57, vi (0), .ref q65, .ref q73, .ref q81, .ref q89, .ref q97, .ref q105, .ref q113, .ref q121, vi (0), .ref q129, vi (0), .null, .null, .null, .null, vi (0)]) := by rw [ectk136, cup_eq]
  have pa1_k136 := pa1_k133
  have pc1_k136 : ctk136 (1, 2, 0) = some (gI 0 8 (fun _ => 0)) := by rw [ectk136, cup_ne (by simp)]; exact pc1_k133
  have pa2_k136 := pa2_k133
  have pc2_k136 : ctk136 (1, 4, 0) = some (gI 1 14 (fun _ => 0)) := by rw [ectk136, cup_ne (by simp)]; exact pc2_k133
  have pa3_k136 := pa3_k133
  have pc3_k136 : ctk136 (1, 5, 0) = some (gI 1 14 (fun _ => 0)) := by rw [ectk136, cup_ne (by simp)]; exact pc3_k133
  have pa4_k136 := pa4_k133
  have pc4_k136 : ctk136 (1, 6, 0) = some (gI 1 14 (fun _ => 0)) := by rw [ectk136, cup_ne (by simp)]; exact pc4_k133
  have pa5_k136 := pa5_k133
  have pc5_k136 : ctk136 (1, 7, 0) = some (gI 1 14 (fun _ => 0)) := by rw [ectk136, cup_ne (by simp)]; exact pc5_k133
  have pa6_k136 := pa6_k133
  have pc6_k136 : ctk136 (1, 8, 0) = some (gI 1 84 (fun _ => 0)) := by rw [ectk136, cup_ne (by simp)]; exact pc6_k133
  have pa7_k136 := pa7_k133
  have pc7_k136 : ctk136 (1, 9, 0) = some (gI 1 84 (fun _ => 0)) := by rw [ectk136, cup_ne (by simp)]; exact pc7_k133
  have pa8_k136 := pa8_k133
  have pc8_k136 : ctk136 (1, 10, 0) = some (gI 0 672 (fun _ => 0)) := by rw [ectk136, cup_ne (by simp)]; exact pc8_k133
  have pa9_k136 := pa9_k133
  have pc9_k136 : ctk136 (1, 12, 0) = some (gI 1 4 (fun _ => 0)) := by rw [ectk136, cup_ne (by simp)]; exact pc9_k133
  have pa10_k136 := pa10_k133
  have pc10_k136 : ctk136 (1, 13, 0) = some (gI 1 4 (fun _ => 0)) := by rw [ectk136, cup_ne (by simp)]; exact pc10_k133
  have pa11_k136 := pa11_k133
  have pc11_k136 : ctk136 (1, 14, 0) = some (gI 1 4 (fun _ => 0)) := by rw [ectk136, cup_ne (by simp)]; exact pc11_k133
  have pa12_k136 := pa12_k133
  have pc12_k136 : ctk136 (1, 15, 0) = some (gI 1 14 (fun _ => 0)) := by rw [ectk136, cup_ne (by simp)]; exact pc12_k133
  have pa13_k136 := pa13_k133
  have pc13_k136 : ctk136 (1, 16, 0) = some (gI 1 14 (fun _ => 0)) := by rw [ectk136, cup_ne (by simp)]; exact pc13_k133
  have pa14_k136 := pa14_k133
  have pc14_k136 : ctk136 (1, 17, 0) = some (gI 1 14 (fun _ => 0)) := by rw [ectk136, cup_ne (by simp)]; exact pc14_k133
  have pa15_k136 := pa15_k133
  have pc15_k136 : ctk136 (1, 18, 0) = some (gI 0 960 (fun _ => 0)) := by rw [ectk136, cup_ne (by simp)]; exact pc15_k133
  have pa16_k136 := pa16_k133
  have pc16_k136 : ctk136 (1, 19, 0) = some (gI 1 56 (fun _ => 0)) := by rw [ectk136, cup_ne (by simp)]; exact pc16_k133
  have pa17_k136 := pa17_k133
  have pc17_k136 : ctk136 (1, 21, 0) = some (gI 1 4 (fun _ => 0)) := by rw [ectk136, cup_ne (by simp)]; exact pc17_k133
  have frk136 : ∀ t : Tg, (2 ≤ t.1) → ctk136 t = ct t ∧ adk133 t = ad t := fun t ht => by
    have e0 : t ≠ (0, 0, 0) := fun e => by rw [e] at ht; simp only at ht; omega
    exact ⟨(show ctk136 t = ctk133 t by rw [ectk136, cup_ne e0]).trans (frk133 t ht).1, (frk133 t ht).2⟩
  clear pa0_k133 pa1_k133 pa2_k133 pa3_k133 pa4_k133 pa5_k133 pa6_k133 pa7_k133 pa8_k133 pa9_k133 pa10_k133 pa11_k133 pa12_k133 pa13_k133 pa14_k133 pa15_k133 pa16_k133 pa17_k133 pc0_k133 pc1_k133 pc2_k133 pc3_k133 pc4_k133 pc5_k133 pc6_k133 pc7_k133 pc8_k133 pc9_k133 pc10_k133 pc11_k133 pc12_k133 pc13_k133 pc14_k133 pc15_k133 pc16_k133 pc17_k133 frk133 ectk136 egh134 Rk133 h131 h132
  refine g_ald_n hC dX7_init_138 rfl ?_
  refine g_iconst hC dX7_init_139 rfl ?_
  refine g_newI (n := 5) hC dX7_init_140 ga_int rfl (by decide) (by decide) (by decide) (fun q137 hnq137 => ?_)
  obtain ⟨gh138, egh138⟩ : ∃ g_, g_ = gset gh134 q137 (gI 1 5 (fun _ => 0)) := ⟨_, rfl⟩
  rw [← egh138]
  have h139 : gh138 xa = some (gO 11 [vi (0), vi (0), .ref q1, vi (0), .ref q9, .ref q17, .ref q25, .ref q33, .ref q41, .ref q49, .ref q57, vi (0), .ref q65, .ref q73, .ref q81, .ref q89, .ref q97, .ref q105, .ref q113, .ref q121, vi (0), .ref q129, vi (0), .null, .null, .null, .null, vi (0)]) := by rw [egh138, gset_ne (fun z => by rw [z, hnq137] at h135; cases h135)]; exact h135
  have h140 : gh138 q137 = some (gI 1 5 (fun _ => 0)) := by rw [egh138]; exact gset_eq
  have Rk141 := Rk136.new (t := (1, 23, 0)) hnq137 (gI 1 5 (fun _ => 0))
  obtain ⟨adk141, eadk141⟩ : ∃ x, x = aup adk133 (1, 23, 0) q137 := ⟨_, rfl⟩
  obtain ⟨ctk141, ectk141⟩ : ∃ x, x = cup ctk136 (1, 23, 0) (gI 1 5 (fun _ => 0)) := ⟨_, rfl⟩
  rw [← eadk141, ← ectk141, ← egh138] at Rk141
  have pa0_k141 : adk141 (0, 0, 0) = xa := by rw [eadk141, aup_ne (by simp)]; exact pa0_k136
  have pc0_k141 : ctk141 (0, 0, 0) = some (gO 11 [vi (0), vi (0), .ref q1, vi (0), .ref q9, .ref q17, .ref q25, .ref q33, .ref q41, .ref q49, .ref q57, vi (0), .ref q65, .ref q73, .ref q81, .ref q89, .ref q97, .ref q105, .ref q113, .ref q121, vi (0), .ref q129, vi (0), .null, .null, .null, .null, vi (0)]) := by rw [ectk141, cup_ne (by simp)]; exact pc0_k136
  have pa1_k141 : adk141 (1, 2, 0) = q1 := by rw [eadk141, aup_ne (by simp)]; exact pa1_k136
  have pc1_k141 : ctk141 (1, 2, 0) = some (gI 0 8 (fun _ => 0)) := by rw [ectk141, cup_ne (by simp)]; exact pc1_k136
  have pa2_k141 : adk141 (1, 4, 0) = q9 := by rw [eadk141, aup_ne (by simp)]; exact pa2_k136
  have pc2_k141 : ctk141 (1, 4, 0) = some (gI 1 14 (fun _ => 0)) := by rw [ectk141, cup_ne (by simp)]; exact pc2_k136
  have pa3_k141 : adk141 (1, 5, 0) = q17 := by rw [eadk141, aup_ne (by simp)]; exact pa3_k136
  have pc3_k141 : ctk141 (1, 5, 0) = some (gI 1 14 (fun _ => 0)) := by rw [ectk141, cup_ne (by simp)]; exact pc3_k136
  have pa4_k141 : adk141 (1, 6, 0) = q25 := by rw [eadk141, aup_ne (by simp)]; exact pa4_k136
  have pc4_k141 : ctk141 (1, 6, 0) = some (gI 1 14 (fun _ => 0)) := by rw [ectk141, cup_ne (by simp)]; exact pc4_k136
  have pa5_k141 : adk141 (1, 7, 0) = q33 := by rw [eadk141, aup_ne (by simp)]; exact pa5_k136
  have pc5_k141 : ctk141 (1, 7, 0) = some (gI 1 14 (fun _ => 0)) := by rw [ectk141, cup_ne (by simp)]; exact pc5_k136
  have pa6_k141 : adk141 (1, 8, 0) = q41 := by rw [eadk141, aup_ne (by simp)]; exact pa6_k136
  have pc6_k141 : ctk141 (1, 8, 0) = some (gI 1 84 (fun _ => 0)) := by rw [ectk141, cup_ne (by simp)]; exact pc6_k136
  have pa7_k141 : adk141 (1, 9, 0) = q49 := by rw [eadk141, aup_ne (by simp)]; exact pa7_k136
  have pc7_k141 : ctk141 (1, 9, 0) = some (gI 1 84 (fun _ => 0)) := by rw [ectk141, cup_ne (by simp)]; exact pc7_k136
  have pa8_k141 : adk141 (1, 10, 0) = q57 := by rw [eadk141, aup_ne (by simp)]; exact pa8_k136
  have pc8_k141 : ctk141 (1, 10, 0) = some (gI 0 672 (fun _ => 0)) := by rw [ectk141, cup_ne (by simp)]; exact pc8_k136
  have pa9_k141 : adk141 (1, 12, 0) = q65 := by rw [eadk141, aup_ne (by simp)]; exact pa9_k136
  have pc9_k141 : ctk141 (1, 12, 0) = some (gI 1 4 (fun _ => 0)) := by rw [ectk141, cup_ne (by simp)]; exact pc9_k136
  have pa10_k141 : adk141 (1, 13, 0) = q73 := by rw [eadk141, aup_ne (by simp)]; exact pa10_k136
  have pc10_k141 : ctk141 (1, 13, 0) = some (gI 1 4 (fun _ => 0)) := by rw [ectk141, cup_ne (by simp)]; exact pc10_k136
  have pa11_k141 : adk141 (1, 14, 0) = q81 := by rw [eadk141, aup_ne (by simp)]; exact pa11_k136
  have pc11_k141 : ctk141 (1, 14, 0) = some (gI 1 4 (fun _ => 0)) := by rw [ectk141, cup_ne (by simp)]; exact pc11_k136
  have pa12_k141 : adk141 (1, 15, 0) = q89 := by rw [eadk141, aup_ne (by simp)]; exact pa12_k136
  have pc12_k141 : ctk141 (1, 15, 0) = some (gI 1 14 (fun _ => 0)) := by rw [ectk141, cup_ne (by simp)]; exact pc12_k136
  have pa13_k141 : adk141 (1, 16, 0) = q97 := by rw [eadk141, aup_ne (by simp)]; exact pa13_k136
  have pc13_k141 : ctk141 (1, 16, 0) = some (gI 1 14 (fun _ => 0)) := by rw [ectk141, cup_ne (by simp)]; exact pc13_k136
  have pa14_k141 : adk141 (1, 17, 0) = q105 := by rw [eadk141, aup_ne (by simp)]; exact pa14_k136
  have pc14_k141 : ctk141 (1, 17, 0) = some (gI 1 14 (fun _ => 0)) := by rw [ectk141, cup_ne (by simp)]; exact pc14_k136
  have pa15_k141 : adk141 (1, 18, 0) = q113 := by rw [eadk141, aup_ne (by simp)]; exact pa15_k136
  have pc15_k141 : ctk141 (1, 18, 0) = some (gI 0 960 (fun _ => 0)) := by rw [ectk141, cup_ne (by simp)]; exact pc15_k136
  have pa16_k141 : adk141 (1, 19, 0) = q121 := by rw [eadk141, aup_ne (by simp)]; exact pa16_k136
  have pc16_k141 : ctk141 (1, 19, 0) = some (gI 1 56 (fun _ => 0)) := by rw [ectk141, cup_ne (by simp)]; exact pc16_k136
  have pa17_k141 : adk141 (1, 21, 0) = q129 := by rw [eadk141, aup_ne (by simp)]; exact pa17_k136
  have pc17_k141 : ctk141 (1, 21, 0) = some (gI 1 4 (fun _ => 0)) := by rw [ectk141, cup_ne (by simp)]; exact pc17_k136
  have pa18_k141 : adk141 (1, 23, 0) = q137 := by rw [eadk141, aup_eq]
  have pc18_k141 : ctk141 (1, 23, 0) = some (gI 1 5 (fun _ => 0)) := by rw [ectk141, cup_eq]
  have frk141 : ∀ t : Tg, (2 ≤ t.1) → ctk141 t = ct t ∧ adk141 t = ad t := fun t ht => by
    have e0 : t ≠ (1, 23, 0) := fun e => by rw [e] at ht; simp only at ht; omega
    exact ⟨(show ctk141 t = ctk136 t by rw [ectk141, cup_ne e0]).trans (frk136 t ht).1, (show adk141 t = adk133 t by rw [eadk141, aup_ne e0]).trans (frk136 t ht).2⟩
  clear pa0_k136 pa1_k136 pa2_k136 pa3_k136 pa4_k136 pa5_k136 pa6_k136 pa7_k136 pa8_k136 pa9_k136 pa10_k136 pa11_k136 pa12_k136 pa13_k136 pa14_k136 pa15_k136 pa16_k136 pa17_k136 pc0_k136 pc1_k136 pc2_k136 pc3_k136 pc4_k136 pc5_k136 pc6_k136 pc7_k136 pc8_k136 pc9_k136 pc10_k136 pc11_k136 pc12_k136 pc13_k136 pc14_k136 pc15_k136 pc16_k136 pc17_k136 frk136 ectk141 egh138 Rk136 eadk141 h135
  refine g_putF hC hq (fs' := [vi (0), vi (0), .ref q1, vi (0), .ref q9, .ref q17, .ref q25, .ref q33, .ref q41, .ref q49, .ref q57, vi (0), .ref q65, .ref q73, .ref q81, .ref q89, .ref q97, .ref q105, .ref q113, .ref q121, vi (0), .ref q129, vi (0), .ref q137, .null, .null, .null, vi (0)]) dX7_init_142 gp_RX7_62 h139 ⟨rfl, rfl⟩ rfl (Nat.le_of_ble_eq_true rfl) ?_
  obtain ⟨gh142, egh142⟩ : ∃ g_, g_ = gset gh138 xa (gO 11 [vi (0), vi (0), .ref q1, vi (0), .ref q9, .ref q17, .ref q25, .ref q33, .ref q41, .ref q49, .ref q57, vi (0), .ref q65, .ref q73, .ref q81, .ref q89, .ref q97, .ref q105, .ref q113, .ref q121, vi (0), .ref q129, vi (0), .ref q137, .null, .null, .null, vi (0)]) := ⟨_, rfl⟩
  rw [← egh142]
  have h143 : gh142 xa = some (gO 11 [vi (0), vi (0), .ref q1, vi (0), .ref q9, .ref q17, .ref q25, .ref q33, .ref q41, .ref q49, .ref q57, vi (0), .ref q65, .ref q73, .ref q81, .ref q89, .ref q97, .ref q105, .ref q113, .ref q121, vi (0), .ref q129, vi (0), .ref q137, .null, .null, .null, vi (0)]) := by rw [egh142]; exact gset_eq
  have Rk144 := Rk141.put pc0_k141 (gO 11 [vi (0), vi (0), .ref q1, vi (0), .ref q9, .ref q17, .ref q25, .ref q33, .ref q41, .ref q49, .ref q57, vi (0), .ref q65, .ref q73, .ref q81, .ref q89, .ref q97, .ref q105, .ref q113, .ref q121, vi (0), .ref q129, vi (0), .ref q137, .null, .null, .null, vi (0)])
  obtain ⟨ctk144, ectk144⟩ : ∃ x, x = cup ctk141 (0, 0, 0) (gO 11 [vi (0), vi (0), .ref q1, vi (0), .ref q9, .ref q17, .ref q25, .ref q33, .ref q41, .ref q49, .ref q57, vi (0), .ref q65, .ref q73, .ref q81, .ref q89, .ref q97, .ref q105, .ref q113, .ref q121, vi (0), .ref q129, vi (0), .ref q137, .null, .null, .null, vi (0)]) := ⟨_, rfl⟩
  rw [pa0_k141, ← ectk144, ← egh142] at Rk144
  have pa0_k144 := pa0_k141
  have pc0_k144 : ctk144 (0, 0, 0) = some (gO 11 [vi (0), vi (0), .ref q1, vi (0), .ref q9, .ref q17, .ref q25, .ref q33, .ref q41, .ref q49, .ref q57, vi (0), .ref q65, .ref q73, .ref q81, .ref q89, .ref q97, .ref q105, .ref q113, .ref q121, vi (0), .ref q129, vi (0), .ref q137, .null, .null, .null, vi (0)]) := by rw [ectk144, cup_eq]
  have pa1_k144 := pa1_k141
  have pc1_k144 : ctk144 (1, 2, 0) = some (gI 0 8 (fun _ => 0)) := by rw [ectk144, cup_ne (by simp)]; exact pc1_k141
  have pa2_k144 := pa2_k141
  have pc2_k144 : ctk144 (1, 4, 0) = some (gI 1 14 (fun _ => 0)) := by rw [ectk144, cup_ne (by simp)]; exact pc2_k141
  have pa3_k144 := pa3_k141
  have pc3_k144 : ctk144 (1, 5, 0) = some (gI 1 14 (fun _ => 0)) := by rw [ectk144, cup_ne (by simp)]; exact pc3_k141
  have pa4_k144 := pa4_k141
  have pc4_k144 : ctk144 (1, 6, 0) = some (gI 1 14 (fun _ => 0)) := by rw [ectk144, cup_ne (by simp)]; exact pc4_k141
  have pa5_k144 := pa5_k141
  have pc5_k144 : ctk144 (1, 7, 0) = some (gI 1 14 (fun _ => 0)) := by rw [ectk144, cup_ne (by simp)]; exact pc5_k141
  have pa6_k144 := pa6_k141
  have pc6_k144 : ctk144 (1, 8, 0) = some (gI 1 84 (fun _ => 0)) := by rw [ectk144, cup_ne (by simp)]; exact pc6_k141
  have pa7_k144 := pa7_k141
  have pc7_k144 : ctk144 (1, 9, 0) = some (gI 1 84 (fun _ => 0)) := by rw [ectk144, cup_ne (by simp)]; exact pc7_k141
  have pa8_k144 := pa8_k141
  have pc8_k144 : ctk144 (1, 10, 0) = some (gI 0 672 (fun _ => 0)) := by rw [ectk144, cup_ne (by simp)]; exact pc8_k141
  have pa9_k144 := pa9_k141
  have pc9_k144 : ctk144 (1, 12, 0) = some (gI 1 4 (fun _ => 0)) := by rw [ectk144, cup_ne (by simp)]; exact pc9_k141
  have pa10_k144 := pa10_k141
  have pc10_k144 : ctk144 (1, 13, 0) = some (gI 1 4 (fun _ => 0)) := by rw [ectk144, cup_ne (by simp)]; exact pc10_k141
  have pa11_k144 := pa11_k141
  have pc11_k144 : ctk144 (1, 14, 0) = some (gI 1 4 (fun _ => 0)) := by rw [ectk144, cup_ne (by simp)]; exact pc11_k141
  have pa12_k144 := pa12_k141
  have pc12_k144 : ctk144 (1, 15, 0) = some (gI 1 14 (fun _ => 0)) := by rw [ectk144, cup_ne (by simp)]; exact pc12_k141
  have pa13_k144 := pa13_k141
  have pc13_k144 : ctk144 (1, 16, 0) = some (gI 1 14 (fun _ => 0)) := by rw [ectk144, cup_ne (by simp)]; exact pc13_k141
  have pa14_k144 := pa14_k141
  have pc14_k144 : ctk144 (1, 17, 0) = some (gI 1 14 (fun _ => 0)) := by rw [ectk144, cup_ne (by simp)]; exact pc14_k141
  have pa15_k144 := pa15_k141
  have pc15_k144 : ctk144 (1, 18, 0) = some (gI 0 960 (fun _ => 0)) := by rw [ectk144, cup_ne (by simp)]; exact pc15_k141
  have pa16_k144 := pa16_k141
  have pc16_k144 : ctk144 (1, 19, 0) = some (gI 1 56 (fun _ => 0)) := by rw [ectk144, cup_ne (by simp)]; exact pc16_k141
  have pa17_k144 := pa17_k141
  have pc17_k144 : ctk144 (1, 21, 0) = some (gI 1 4 (fun _ => 0)) := by rw [ectk144, cup_ne (by simp)]; exact pc17_k141
  have pa18_k144 := pa18_k141
  have pc18_k144 : ctk144 (1, 23, 0) = some (gI 1 5 (fun _ => 0)) := by rw [ectk144, cup_ne (by simp)]; exact pc18_k141
  have frk144 : ∀ t : Tg, (2 ≤ t.1) → ctk144 t = ct t ∧ adk141 t = ad t := fun t ht => by
    have e0 : t ≠ (0, 0, 0) := fun e => by rw [e] at ht; simp only at ht; omega
    exact ⟨(show ctk144 t = ctk141 t by rw [ectk144, cup_ne e0]).trans (frk141 t ht).1, (frk141 t ht).2⟩
  clear pa0_k141 pa1_k141 pa2_k141 pa3_k141 pa4_k141 pa5_k141 pa6_k141 pa7_k141 pa8_k141 pa9_k141 pa10_k141 pa11_k141 pa12_k141 pa13_k141 pa14_k141 pa15_k141 pa16_k141 pa17_k141 pa18_k141 pc0_k141 pc1_k141 pc2_k141 pc3_k141 pc4_k141 pc5_k141 pc6_k141 pc7_k141 pc8_k141 pc9_k141 pc10_k141 pc11_k141 pc12_k141 pc13_k141 pc14_k141 pc15_k141 pc16_k141 pc17_k141 pc18_k141 frk141 ectk144 egh142 Rk141 h139 h140
  refine g_ald_n hC dX7_init_145 rfl ?_
  refine g_iconst hC dX7_init_146 rfl ?_
  refine g_newI (n := 5) hC dX7_init_147 ga_int rfl (by decide) (by decide) (by decide) (fun q145 hnq145 => ?_)
  obtain ⟨gh146, egh146⟩ : ∃ g_, g_ = gset gh142 q145 (gI 1 5 (fun _ => 0)) := ⟨_, rfl⟩
  rw [← egh146]
  have h147 : gh146 xa = some (gO 11 [vi (0), vi (0), .ref q1, vi (0), .ref q9, .ref q17, .ref q25, .ref q33, .ref q41, .ref q49, .ref q57, vi (0), .ref q65, .ref q73, .ref q81, .ref q89, .ref q97, .ref q105, .ref q113, .ref q121, vi (0), .ref q129, vi (0), .ref q137, .null, .null, .null, vi (0)]) := by rw [egh146, gset_ne (fun z => by rw [z, hnq145] at h143; cases h143)]; exact h143
  have h148 : gh146 q145 = some (gI 1 5 (fun _ => 0)) := by rw [egh146]; exact gset_eq
  have Rk149 := Rk144.new (t := (1, 24, 0)) hnq145 (gI 1 5 (fun _ => 0))
  obtain ⟨adk149, eadk149⟩ : ∃ x, x = aup adk141 (1, 24, 0) q145 := ⟨_, rfl⟩
  obtain ⟨ctk149, ectk149⟩ : ∃ x, x = cup ctk144 (1, 24, 0) (gI 1 5 (fun _ => 0)) := ⟨_, rfl⟩
  rw [← eadk149, ← ectk149, ← egh146] at Rk149
  have pa0_k149 : adk149 (0, 0, 0) = xa := by rw [eadk149, aup_ne (by simp)]; exact pa0_k144
  have pc0_k149 : ctk149 (0, 0, 0) = some (gO 11 [vi (0), vi (0), .ref q1, vi (0), .ref q9, .ref q17, .ref q25, .ref q33, .ref q41, .ref q49, .ref q57, vi (0), .ref q65, .ref q73, .ref q81, .ref q89, .ref q97, .ref q105, .ref q113, .ref q121, vi (0), .ref q129, vi (0), .ref q137, .null, .null, .null, vi (0)]) := by rw [ectk149, cup_ne (by simp)]; exact pc0_k144
  have pa1_k149 : adk149 (1, 2, 0) = q1 := by rw [eadk149, aup_ne (by simp)]; exact pa1_k144
  have pc1_k149 : ctk149 (1, 2, 0) = some (gI 0 8 (fun _ => 0)) := by rw [ectk149, cup_ne (by simp)]; exact pc1_k144
  have pa2_k149 : adk149 (1, 4, 0) = q9 := by rw [eadk149, aup_ne (by simp)]; exact pa2_k144
  have pc2_k149 : ctk149 (1, 4, 0) = some (gI 1 14 (fun _ => 0)) := by rw [ectk149, cup_ne (by simp)]; exact pc2_k144
  have pa3_k149 : adk149 (1, 5, 0) = q17 := by rw [eadk149, aup_ne (by simp)]; exact pa3_k144
  have pc3_k149 : ctk149 (1, 5, 0) = some (gI 1 14 (fun _ => 0)) := by rw [ectk149, cup_ne (by simp)]; exact pc3_k144
  have pa4_k149 : adk149 (1, 6, 0) = q25 := by rw [eadk149, aup_ne (by simp)]; exact pa4_k144
  have pc4_k149 : ctk149 (1, 6, 0) = some (gI 1 14 (fun _ => 0)) := by rw [ectk149, cup_ne (by simp)]; exact pc4_k144
  have pa5_k149 : adk149 (1, 7, 0) = q33 := by rw [eadk149, aup_ne (by simp)]; exact pa5_k144
  have pc5_k149 : ctk149 (1, 7, 0) = some (gI 1 14 (fun _ => 0)) := by rw [ectk149, cup_ne (by simp)]; exact pc5_k144
  have pa6_k149 : adk149 (1, 8, 0) = q41 := by rw [eadk149, aup_ne (by simp)]; exact pa6_k144
  have pc6_k149 : ctk149 (1, 8, 0) = some (gI 1 84 (fun _ => 0)) := by rw [ectk149, cup_ne (by simp)]; exact pc6_k144
  have pa7_k149 : adk149 (1, 9, 0) = q49 := by rw [eadk149, aup_ne (by simp)]; exact pa7_k144
  have pc7_k149 : ctk149 (1, 9, 0) = some (gI 1 84 (fun _ => 0)) := by rw [ectk149, cup_ne (by simp)]; exact pc7_k144
  have pa8_k149 : adk149 (1, 10, 0) = q57 := by rw [eadk149, aup_ne (by simp)]; exact pa8_k144
  have pc8_k149 : ctk149 (1, 10, 0) = some (gI 0 672 (fun _ => 0)) := by rw [ectk149, cup_ne (by simp)]; exact pc8_k144
  have pa9_k149 : adk149 (1, 12, 0) = q65 := by rw [eadk149, aup_ne (by simp)]; exact pa9_k144
  have pc9_k149 : ctk149 (1, 12, 0) = some (gI 1 4 (fun _ => 0)) := by rw [ectk149, cup_ne (by simp)]; exact pc9_k144
  have pa10_k149 : adk149 (1, 13, 0) = q73 := by rw [eadk149, aup_ne (by simp)]; exact pa10_k144
  have pc10_k149 : ctk149 (1, 13, 0) = some (gI 1 4 (fun _ => 0)) := by rw [ectk149, cup_ne (by simp)]; exact pc10_k144
  have pa11_k149 : adk149 (1, 14, 0) = q81 := by rw [eadk149, aup_ne (by simp)]; exact pa11_k144
  have pc11_k149 : ctk149 (1, 14, 0) = some (gI 1 4 (fun _ => 0)) := by rw [ectk149, cup_ne (by simp)]; exact pc11_k144
  have pa12_k149 : adk149 (1, 15, 0) = q89 := by rw [eadk149, aup_ne (by simp)]; exact pa12_k144
  have pc12_k149 : ctk149 (1, 15, 0) = some (gI 1 14 (fun _ => 0)) := by rw [ectk149, cup_ne (by simp)]; exact pc12_k144
  have pa13_k149 : adk149 (1, 16, 0) = q97 := by rw [eadk149, aup_ne (by simp)]; exact pa13_k144
  have pc13_k149 : ctk149 (1, 16, 0) = some (gI 1 14 (fun _ => 0)) := by rw [ectk149, cup_ne (by simp)]; exact pc13_k144
  have pa14_k149 : adk149 (1, 17, 0) = q105 := by rw [eadk149, aup_ne (by simp)]; exact pa14_k144
  have pc14_k149 : ctk149 (1, 17, 0) = some (gI 1 14 (fun _ => 0)) := by rw [ectk149, cup_ne (by simp)]; exact pc14_k144
  have pa15_k149 : adk149 (1, 18, 0) = q113 := by rw [eadk149, aup_ne (by simp)]; exact pa15_k144
  have pc15_k149 : ctk149 (1, 18, 0) = some (gI 0 960 (fun _ => 0)) := by rw [ectk149, cup_ne (by simp)]; exact pc15_k144
  have pa16_k149 : adk149 (1, 19, 0) = q121 := by rw [eadk149, aup_ne (by simp)]; exact pa16_k144
  have pc16_k149 : ctk149 (1, 19, 0) = some (gI 1 56 (fun _ => 0)) := by rw [ectk149, cup_ne (by simp)]; exact pc16_k144
  have pa17_k149 : adk149 (1, 21, 0) = q129 := by rw [eadk149, aup_ne (by simp)]; exact pa17_k144
  have pc17_k149 : ctk149 (1, 21, 0) = some (gI 1 4 (fun _ => 0)) := by rw [ectk149, cup_ne (by simp)]; exact pc17_k144
  have pa18_k149 : adk149 (1, 23, 0) = q137 := by rw [eadk149, aup_ne (by simp)]; exact pa18_k144
  have pc18_k149 : ctk149 (1, 23, 0) = some (gI 1 5 (fun _ => 0)) := by rw [ectk149, cup_ne (by simp)]; exact pc18_k144
  have pa19_k149 : adk149 (1, 24, 0) = q145 := by rw [eadk149, aup_eq]
  have pc19_k149 : ctk149 (1, 24, 0) = some (gI 1 5 (fun _ => 0)) := by rw [ectk149, cup_eq]
  have frk149 : ∀ t : Tg, (2 ≤ t.1) → ctk149 t = ct t ∧ adk149 t = ad t := fun t ht => by
    have e0 : t ≠ (1, 24, 0) := fun e => by rw [e] at ht; simp only at ht; omega
    exact ⟨(show ctk149 t = ctk144 t by rw [ectk149, cup_ne e0]).trans (frk144 t ht).1, (show adk149 t = adk141 t by rw [eadk149, aup_ne e0]).trans (frk144 t ht).2⟩
  clear pa0_k144 pa1_k144 pa2_k144 pa3_k144 pa4_k144 pa5_k144 pa6_k144 pa7_k144 pa8_k144 pa9_k144 pa10_k144 pa11_k144 pa12_k144 pa13_k144 pa14_k144 pa15_k144 pa16_k144 pa17_k144 pa18_k144 pc0_k144 pc1_k144 pc2_k144 pc3_k144 pc4_k144 pc5_k144 pc6_k144 pc7_k144 pc8_k144 pc9_k144 pc10_k144 pc11_k144 pc12_k144 pc13_k144 pc14_k144 pc15_k144 pc16_k144 pc17_k144 pc18_k144 frk144 ectk149 egh146 Rk144 eadk149 h143
  refine g_putF hC hq (fs' := [vi (0), vi (0), .ref q1, vi (0), .ref q9, .ref q17, .ref q25, .ref q33, .ref q41, .ref q49, .ref q57, vi (0), .ref q65, .ref q73, .ref q81, .ref q89, .ref q97, .ref q105, .ref q113, .ref q121, vi (0), .ref q129, vi (0), .ref q137, .ref q145, .null, .null, vi (0)]) dX7_init_149 gp_RX7_65 h147 ⟨rfl, rfl⟩ rfl (Nat.le_of_ble_eq_true rfl) ?_
  obtain ⟨gh150, egh150⟩ : ∃ g_, g_ = gset gh146 xa (gO 11 [vi (0), vi (0), .ref q1, vi (0), .ref q9, .ref q17, .ref q25, .ref q33, .ref q41, .ref q49, .ref q57, vi (0), .ref q65, .ref q73, .ref q81, .ref q89, .ref q97, .ref q105, .ref q113, .ref q121, vi (0), .ref q129, vi (0), .ref q137, .ref q145, .null, .null, vi (0)]) := ⟨_, rfl⟩
  rw [← egh150]
  have h151 : gh150 xa = some (gO 11 [vi (0), vi (0), .ref q1, vi (0), .ref q9, .ref q17, .ref q25, .ref q33, .ref q41, .ref q49, .ref q57, vi (0), .ref q65, .ref q73, .ref q81, .ref q89, .ref q97, .ref q105, .ref q113, .ref q121, vi (0), .ref q129, vi (0), .ref q137, .ref q145, .null, .null, vi (0)]) := by rw [egh150]; exact gset_eq
  have Rk152 := Rk149.put pc0_k149 (gO 11 [vi (0), vi (0), .ref q1, vi (0), .ref q9, .ref q17, .ref q25, .ref q33, .ref q41, .ref q49, .ref q57, vi (0), .ref q65, .ref q73, .ref q81, .ref q89, .ref q97, .ref q105, .ref q113, .ref q121, vi (0), .ref q129, vi (0), .ref q137, .ref q145, .null, .null, vi (0)])
  obtain ⟨ctk152, ectk152⟩ : ∃ x, x = cup ctk149 (0, 0, 0) (gO 11 [vi (0), vi (0), .ref q1, vi (0), .ref q9, .ref q17, .ref q25, .ref q33, .ref q41, .ref q49, .ref q57, vi (0), .ref q65, .ref q73, .ref q81, .ref q89, .ref q97, .ref q105, .ref q113, .ref q121, vi (0), .ref q129, vi (0), .ref q137, .ref q145, .null, .null, vi (0)]) := ⟨_, rfl⟩
  rw [pa0_k149, ← ectk152, ← egh150] at Rk152
  have pa0_k152 := pa0_k149
  have pc0_k152 : ctk152 (0, 0, 0) = some (gO 11 [vi (0), vi (0), .ref q1, vi (0), .ref q9, .ref q17, .ref q25, .ref q33, .ref q41, .ref q49, .ref q57, vi (0), .ref q65, .ref q73, .ref q81, .ref q89, .ref q97, .ref q105, .ref q113, .ref q121, vi (0), .ref q129, vi (0), .ref q137, .ref q145, .null, .null, vi (0)]) := by rw [ectk152, cup_eq]
  have pa1_k152 := pa1_k149
  have pc1_k152 : ctk152 (1, 2, 0) = some (gI 0 8 (fun _ => 0)) := by rw [ectk152, cup_ne (by simp)]; exact pc1_k149
  have pa2_k152 := pa2_k149
  have pc2_k152 : ctk152 (1, 4, 0) = some (gI 1 14 (fun _ => 0)) := by rw [ectk152, cup_ne (by simp)]; exact pc2_k149
  have pa3_k152 := pa3_k149
  have pc3_k152 : ctk152 (1, 5, 0) = some (gI 1 14 (fun _ => 0)) := by rw [ectk152, cup_ne (by simp)]; exact pc3_k149
  have pa4_k152 := pa4_k149
  have pc4_k152 : ctk152 (1, 6, 0) = some (gI 1 14 (fun _ => 0)) := by rw [ectk152, cup_ne (by simp)]; exact pc4_k149
  have pa5_k152 := pa5_k149
  have pc5_k152 : ctk152 (1, 7, 0) = some (gI 1 14 (fun _ => 0)) := by rw [ectk152, cup_ne (by simp)]; exact pc5_k149
  have pa6_k152 := pa6_k149
  have pc6_k152 : ctk152 (1, 8, 0) = some (gI 1 84 (fun _ => 0)) := by rw [ectk152, cup_ne (by simp)]; exact pc6_k149
  have pa7_k152 := pa7_k149
  have pc7_k152 : ctk152 (1, 9, 0) = some (gI 1 84 (fun _ => 0)) := by rw [ectk152, cup_ne (by simp)]; exact pc7_k149
  have pa8_k152 := pa8_k149
  have pc8_k152 : ctk152 (1, 10, 0) = some (gI 0 672 (fun _ => 0)) := by rw [ectk152, cup_ne (by simp)]; exact pc8_k149
  have pa9_k152 := pa9_k149
  have pc9_k152 : ctk152 (1, 12, 0) = some (gI 1 4 (fun _ => 0)) := by rw [ectk152, cup_ne (by simp)]; exact pc9_k149
  have pa10_k152 := pa10_k149
  have pc10_k152 : ctk152 (1, 13, 0) = some (gI 1 4 (fun _ => 0)) := by rw [ectk152, cup_ne (by simp)]; exact pc10_k149
  have pa11_k152 := pa11_k149
  have pc11_k152 : ctk152 (1, 14, 0) = some (gI 1 4 (fun _ => 0)) := by rw [ectk152, cup_ne (by simp)]; exact pc11_k149
  have pa12_k152 := pa12_k149
  have pc12_k152 : ctk152 (1, 15, 0) = some (gI 1 14 (fun _ => 0)) := by rw [ectk152, cup_ne (by simp)]; exact pc12_k149
  have pa13_k152 := pa13_k149
  have pc13_k152 : ctk152 (1, 16, 0) = some (gI 1 14 (fun _ => 0)) := by rw [ectk152, cup_ne (by simp)]; exact pc13_k149
  have pa14_k152 := pa14_k149
  have pc14_k152 : ctk152 (1, 17, 0) = some (gI 1 14 (fun _ => 0)) := by rw [ectk152, cup_ne (by simp)]; exact pc14_k149
  have pa15_k152 := pa15_k149
  have pc15_k152 : ctk152 (1, 18, 0) = some (gI 0 960 (fun _ => 0)) := by rw [ectk152, cup_ne (by simp)]; exact pc15_k149
  have pa16_k152 := pa16_k149
  have pc16_k152 : ctk152 (1, 19, 0) = some (gI 1 56 (fun _ => 0)) := by rw [ectk152, cup_ne (by simp)]; exact pc16_k149
  have pa17_k152 := pa17_k149
  have pc17_k152 : ctk152 (1, 21, 0) = some (gI 1 4 (fun _ => 0)) := by rw [ectk152, cup_ne (by simp)]; exact pc17_k149
  have pa18_k152 := pa18_k149
  have pc18_k152 : ctk152 (1, 23, 0) = some (gI 1 5 (fun _ => 0)) := by rw [ectk152, cup_ne (by simp)]; exact pc18_k149
  have pa19_k152 := pa19_k149
  have pc19_k152 : ctk152 (1, 24, 0) = some (gI 1 5 (fun _ => 0)) := by rw [ectk152, cup_ne (by simp)]; exact pc19_k149
  have frk152 : ∀ t : Tg, (2 ≤ t.1) → ctk152 t = ct t ∧ adk149 t = ad t := fun t ht => by
    have e0 : t ≠ (0, 0, 0) := fun e => by rw [e] at ht; simp only at ht; omega
    exact ⟨(show ctk152 t = ctk149 t by rw [ectk152, cup_ne e0]).trans (frk149 t ht).1, (frk149 t ht).2⟩
  clear pa0_k149 pa1_k149 pa2_k149 pa3_k149 pa4_k149 pa5_k149 pa6_k149 pa7_k149 pa8_k149 pa9_k149 pa10_k149 pa11_k149 pa12_k149 pa13_k149 pa14_k149 pa15_k149 pa16_k149 pa17_k149 pa18_k149 pa19_k149 pc0_k149 pc1_k149 pc2_k149 pc3_k149 pc4_k149 pc5_k149 pc6_k149 pc7_k149 pc8_k149 pc9_k149 pc10_k149 pc11_k149 pc12_k149 pc13_k149 pc14_k149 pc15_k149 pc16_k149 pc17_k149 pc18_k149 pc19_k149 frk149 ectk152 egh150 Rk149 h147 h148
  refine g_ald_n hC dX7_init_152 rfl ?_
  refine g_bipush (z := 70) hC dX7_init_153 rfl ?_
  refine g_newI (n := 70) hC dX7_init_155 ga_int rfl (by decide) (by decide) (by decide) (fun q153 hnq153 => ?_)
  obtain ⟨gh154, egh154⟩ : ∃ g_, g_ = gset gh150 q153 (gI 1 70 (fun _ => 0)) := ⟨_, rfl⟩
  rw [← egh154]
  have h155 : gh154 xa = some (gO 11 [vi (0), vi (0), .ref q1, vi (0), .ref q9, .ref q17, .ref q25, .ref q33, .ref q41, .ref q49, .ref q57, vi (0), .ref q65, .ref q73, .ref q81, .ref q89, .ref q97, .ref q105, .ref q113, .ref q121, vi (0), .ref q129, vi (0), .ref q137, .ref q145, .null, .null, vi (0)]) := by rw [egh154, gset_ne (fun z => by rw [z, hnq153] at h151; cases h151)]; exact h151
  have h156 : gh154 q153 = some (gI 1 70 (fun _ => 0)) := by rw [egh154]; exact gset_eq
  have Rk157 := Rk152.new (t := (1, 25, 0)) hnq153 (gI 1 70 (fun _ => 0))
  obtain ⟨adk157, eadk157⟩ : ∃ x, x = aup adk149 (1, 25, 0) q153 := ⟨_, rfl⟩
  obtain ⟨ctk157, ectk157⟩ : ∃ x, x = cup ctk152 (1, 25, 0) (gI 1 70 (fun _ => 0)) := ⟨_, rfl⟩
  rw [← eadk157, ← ectk157, ← egh154] at Rk157
  have pa0_k157 : adk157 (0, 0, 0) = xa := by rw [eadk157, aup_ne (by simp)]; exact pa0_k152
  have pc0_k157 : ctk157 (0, 0, 0) = some (gO 11 [vi (0), vi (0), .ref q1, vi (0), .ref q9, .ref q17, .ref q25, .ref q33, .ref q41, .ref q49, .ref q57, vi (0), .ref q65, .ref q73, .ref q81, .ref q89, .ref q97, .ref q105, .ref q113, .ref q121, vi (0), .ref q129, vi (0), .ref q137, .ref q145, .null, .null, vi (0)]) := by rw [ectk157, cup_ne (by simp)]; exact pc0_k152
  have pa1_k157 : adk157 (1, 2, 0) = q1 := by rw [eadk157, aup_ne (by simp)]; exact pa1_k152
  have pc1_k157 : ctk157 (1, 2, 0) = some (gI 0 8 (fun _ => 0)) := by rw [ectk157, cup_ne (by simp)]; exact pc1_k152
  have pa2_k157 : adk157 (1, 4, 0) = q9 := by rw [eadk157, aup_ne (by simp)]; exact pa2_k152
  have pc2_k157 : ctk157 (1, 4, 0) = some (gI 1 14 (fun _ => 0)) := by rw [ectk157, cup_ne (by simp)]; exact pc2_k152
  have pa3_k157 : adk157 (1, 5, 0) = q17 := by rw [eadk157, aup_ne (by simp)]; exact pa3_k152
  have pc3_k157 : ctk157 (1, 5, 0) = some (gI 1 14 (fun _ => 0)) := by rw [ectk157, cup_ne (by simp)]; exact pc3_k152
  have pa4_k157 : adk157 (1, 6, 0) = q25 := by rw [eadk157, aup_ne (by simp)]; exact pa4_k152
  have pc4_k157 : ctk157 (1, 6, 0) = some (gI 1 14 (fun _ => 0)) := by rw [ectk157, cup_ne (by simp)]; exact pc4_k152
  have pa5_k157 : adk157 (1, 7, 0) = q33 := by rw [eadk157, aup_ne (by simp)]; exact pa5_k152
  have pc5_k157 : ctk157 (1, 7, 0) = some (gI 1 14 (fun _ => 0)) := by rw [ectk157, cup_ne (by simp)]; exact pc5_k152
  have pa6_k157 : adk157 (1, 8, 0) = q41 := by rw [eadk157, aup_ne (by simp)]; exact pa6_k152
  have pc6_k157 : ctk157 (1, 8, 0) = some (gI 1 84 (fun _ => 0)) := by rw [ectk157, cup_ne (by simp)]; exact pc6_k152
  have pa7_k157 : adk157 (1, 9, 0) = q49 := by rw [eadk157, aup_ne (by simp)]; exact pa7_k152
  have pc7_k157 : ctk157 (1, 9, 0) = some (gI 1 84 (fun _ => 0)) := by rw [ectk157, cup_ne (by simp)]; exact pc7_k152
  have pa8_k157 : adk157 (1, 10, 0) = q57 := by rw [eadk157, aup_ne (by simp)]; exact pa8_k152
  have pc8_k157 : ctk157 (1, 10, 0) = some (gI 0 672 (fun _ => 0)) := by rw [ectk157, cup_ne (by simp)]; exact pc8_k152
  have pa9_k157 : adk157 (1, 12, 0) = q65 := by rw [eadk157, aup_ne (by simp)]; exact pa9_k152
  have pc9_k157 : ctk157 (1, 12, 0) = some (gI 1 4 (fun _ => 0)) := by rw [ectk157, cup_ne (by simp)]; exact pc9_k152
  have pa10_k157 : adk157 (1, 13, 0) = q73 := by rw [eadk157, aup_ne (by simp)]; exact pa10_k152
  have pc10_k157 : ctk157 (1, 13, 0) = some (gI 1 4 (fun _ => 0)) := by rw [ectk157, cup_ne (by simp)]; exact pc10_k152
  have pa11_k157 : adk157 (1, 14, 0) = q81 := by rw [eadk157, aup_ne (by simp)]; exact pa11_k152
  have pc11_k157 : ctk157 (1, 14, 0) = some (gI 1 4 (fun _ => 0)) := by rw [ectk157, cup_ne (by simp)]; exact pc11_k152
  have pa12_k157 : adk157 (1, 15, 0) = q89 := by rw [eadk157, aup_ne (by simp)]; exact pa12_k152
  have pc12_k157 : ctk157 (1, 15, 0) = some (gI 1 14 (fun _ => 0)) := by rw [ectk157, cup_ne (by simp)]; exact pc12_k152
  have pa13_k157 : adk157 (1, 16, 0) = q97 := by rw [eadk157, aup_ne (by simp)]; exact pa13_k152
  have pc13_k157 : ctk157 (1, 16, 0) = some (gI 1 14 (fun _ => 0)) := by rw [ectk157, cup_ne (by simp)]; exact pc13_k152
  have pa14_k157 : adk157 (1, 17, 0) = q105 := by rw [eadk157, aup_ne (by simp)]; exact pa14_k152
  have pc14_k157 : ctk157 (1, 17, 0) = some (gI 1 14 (fun _ => 0)) := by rw [ectk157, cup_ne (by simp)]; exact pc14_k152
  have pa15_k157 : adk157 (1, 18, 0) = q113 := by rw [eadk157, aup_ne (by simp)]; exact pa15_k152
  have pc15_k157 : ctk157 (1, 18, 0) = some (gI 0 960 (fun _ => 0)) := by rw [ectk157, cup_ne (by simp)]; exact pc15_k152
  have pa16_k157 : adk157 (1, 19, 0) = q121 := by rw [eadk157, aup_ne (by simp)]; exact pa16_k152
  have pc16_k157 : ctk157 (1, 19, 0) = some (gI 1 56 (fun _ => 0)) := by rw [ectk157, cup_ne (by simp)]; exact pc16_k152
  have pa17_k157 : adk157 (1, 21, 0) = q129 := by rw [eadk157, aup_ne (by simp)]; exact pa17_k152
  have pc17_k157 : ctk157 (1, 21, 0) = some (gI 1 4 (fun _ => 0)) := by rw [ectk157, cup_ne (by simp)]; exact pc17_k152
  have pa18_k157 : adk157 (1, 23, 0) = q137 := by rw [eadk157, aup_ne (by simp)]; exact pa18_k152
  have pc18_k157 : ctk157 (1, 23, 0) = some (gI 1 5 (fun _ => 0)) := by rw [ectk157, cup_ne (by simp)]; exact pc18_k152
  have pa19_k157 : adk157 (1, 24, 0) = q145 := by rw [eadk157, aup_ne (by simp)]; exact pa19_k152
  have pc19_k157 : ctk157 (1, 24, 0) = some (gI 1 5 (fun _ => 0)) := by rw [ectk157, cup_ne (by simp)]; exact pc19_k152
  have pa20_k157 : adk157 (1, 25, 0) = q153 := by rw [eadk157, aup_eq]
  have pc20_k157 : ctk157 (1, 25, 0) = some (gI 1 70 (fun _ => 0)) := by rw [ectk157, cup_eq]
  have frk157 : ∀ t : Tg, (2 ≤ t.1) → ctk157 t = ct t ∧ adk157 t = ad t := fun t ht => by
    have e0 : t ≠ (1, 25, 0) := fun e => by rw [e] at ht; simp only at ht; omega
    exact ⟨(show ctk157 t = ctk152 t by rw [ectk157, cup_ne e0]).trans (frk152 t ht).1, (show adk157 t = adk149 t by rw [eadk157, aup_ne e0]).trans (frk152 t ht).2⟩
  clear pa0_k152 pa1_k152 pa2_k152 pa3_k152 pa4_k152 pa5_k152 pa6_k152 pa7_k152 pa8_k152 pa9_k152 pa10_k152 pa11_k152 pa12_k152 pa13_k152 pa14_k152 pa15_k152 pa16_k152 pa17_k152 pa18_k152 pa19_k152 pc0_k152 pc1_k152 pc2_k152 pc3_k152 pc4_k152 pc5_k152 pc6_k152 pc7_k152 pc8_k152 pc9_k152 pc10_k152 pc11_k152 pc12_k152 pc13_k152 pc14_k152 pc15_k152 pc16_k152 pc17_k152 pc18_k152 pc19_k152 frk152 ectk157 egh154 Rk152 eadk157 h151
  refine g_putF hC hq (fs' := [vi (0), vi (0), .ref q1, vi (0), .ref q9, .ref q17, .ref q25, .ref q33, .ref q41, .ref q49, .ref q57, vi (0), .ref q65, .ref q73, .ref q81, .ref q89, .ref q97, .ref q105, .ref q113, .ref q121, vi (0), .ref q129, vi (0), .ref q137, .ref q145, .ref q153, .null, vi (0)]) dX7_init_157 gp_RX7_68 h155 ⟨rfl, rfl⟩ rfl (Nat.le_of_ble_eq_true rfl) ?_
  obtain ⟨gh158, egh158⟩ : ∃ g_, g_ = gset gh154 xa (gO 11 [vi (0), vi (0), .ref q1, vi (0), .ref q9, .ref q17, .ref q25, .ref q33, .ref q41, .ref q49, .ref q57, vi (0), .ref q65, .ref q73, .ref q81, .ref q89, .ref q97, .ref q105, .ref q113, .ref q121, vi (0), .ref q129, vi (0), .ref q137, .ref q145, .ref q153, .null, vi (0)]) := ⟨_, rfl⟩
  rw [← egh158]
  have h159 : gh158 xa = some (gO 11 [vi (0), vi (0), .ref q1, vi (0), .ref q9, .ref q17, .ref q25, .ref q33, .ref q41, .ref q49, .ref q57, vi (0), .ref q65, .ref q73, .ref q81, .ref q89, .ref q97, .ref q105, .ref q113, .ref q121, vi (0), .ref q129, vi (0), .ref q137, .ref q145, .ref q153, .null, vi (0)]) := by rw [egh158]; exact gset_eq
  have Rk160 := Rk157.put pc0_k157 (gO 11 [vi (0), vi (0), .ref q1, vi (0), .ref q9, .ref q17, .ref q25, .ref q33, .ref q41, .ref q49, .ref q57, vi (0), .ref q65, .ref q73, .ref q81, .ref q89, .ref q97, .ref q105, .ref q113, .ref q121, vi (0), .ref q129, vi (0), .ref q137, .ref q145, .ref q153, .null, vi (0)])
  obtain ⟨ctk160, ectk160⟩ : ∃ x, x = cup ctk157 (0, 0, 0) (gO 11 [vi (0), vi (0), .ref q1, vi (0), .ref q9, .ref q17, .ref q25, .ref q33, .ref q41, .ref q49, .ref q57, vi (0), .ref q65, .ref q73, .ref q81, .ref q89, .ref q97, .ref q105, .ref q113, .ref q121, vi (0), .ref q129, vi (0), .ref q137, .ref q145, .ref q153, .null, vi (0)]) := ⟨_, rfl⟩
  rw [pa0_k157, ← ectk160, ← egh158] at Rk160
  have pa0_k160 := pa0_k157
  have pc0_k160 : ctk160 (0, 0, 0) = some (gO 11 [vi (0), vi (0), .ref q1, vi (0), .ref q9, .ref q17, .ref q25, .ref q33, .ref q41, .ref q49, .ref q57, vi (0), .ref q65, .ref q73, .ref q81, .ref q89, .ref q97, .ref q105, .ref q113, .ref q121, vi (0), .ref q129, vi (0), .ref q137, .ref q145, .ref q153, .null, vi (0)]) := by rw [ectk160, cup_eq]
  have pa1_k160 := pa1_k157
  have pc1_k160 : ctk160 (1, 2, 0) = some (gI 0 8 (fun _ => 0)) := by rw [ectk160, cup_ne (by simp)]; exact pc1_k157
  have pa2_k160 := pa2_k157
  have pc2_k160 : ctk160 (1, 4, 0) = some (gI 1 14 (fun _ => 0)) := by rw [ectk160, cup_ne (by simp)]; exact pc2_k157
  have pa3_k160 := pa3_k157
  have pc3_k160 : ctk160 (1, 5, 0) = some (gI 1 14 (fun _ => 0)) := by rw [ectk160, cup_ne (by simp)]; exact pc3_k157
  have pa4_k160 := pa4_k157
  have pc4_k160 : ctk160 (1, 6, 0) = some (gI 1 14 (fun _ => 0)) := by rw [ectk160, cup_ne (by simp)]; exact pc4_k157
  have pa5_k160 := pa5_k157
  have pc5_k160 : ctk160 (1, 7, 0) = some (gI 1 14 (fun _ => 0)) := by rw [ectk160, cup_ne (by simp)]; exact pc5_k157
  have pa6_k160 := pa6_k157
  have pc6_k160 : ctk160 (1, 8, 0) = some (gI 1 84 (fun _ => 0)) := by rw [ectk160, cup_ne (by simp)]; exact pc6_k157
  have pa7_k160 := pa7_k157
  have pc7_k160 : ctk160 (1, 9, 0) = some (gI 1 84 (fun _ => 0)) := by rw [ectk160, cup_ne (by simp)]; exact pc7_k157
  have pa8_k160 := pa8_k157
  have pc8_k160 : ctk160 (1, 10, 0) = some (gI 0 672 (fun _ => 0)) := by rw [ectk160, cup_ne (by simp)]; exact pc8_k157
  have pa9_k160 := pa9_k157
  have pc9_k160 : ctk160 (1, 12, 0) = some (gI 1 4 (fun _ => 0)) := by rw [ectk160, cup_ne (by simp)]; exact pc9_k157
  have pa10_k160 := pa10_k157
  have pc10_k160 : ctk160 (1, 13, 0) = some (gI 1 4 (fun _ => 0)) := by rw [ectk160, cup_ne (by simp)]; exact pc10_k157
  have pa11_k160 := pa11_k157
  have pc11_k160 : ctk160 (1, 14, 0) = some (gI 1 4 (fun _ => 0)) := by rw [ectk160, cup_ne (by simp)]; exact pc11_k157
  have pa12_k160 := pa12_k157
  have pc12_k160 : ctk160 (1, 15, 0) = some (gI 1 14 (fun _ => 0)) := by rw [ectk160, cup_ne (by simp)]; exact pc12_k157
  have pa13_k160 := pa13_k157
  have pc13_k160 : ctk160 (1, 16, 0) = some (gI 1 14 (fun _ => 0)) := by rw [ectk160, cup_ne (by simp)]; exact pc13_k157
  have pa14_k160 := pa14_k157
  have pc14_k160 : ctk160 (1, 17, 0) = some (gI 1 14 (fun _ => 0)) := by rw [ectk160, cup_ne (by simp)]; exact pc14_k157
  have pa15_k160 := pa15_k157
  have pc15_k160 : ctk160 (1, 18, 0) = some (gI 0 960 (fun _ => 0)) := by rw [ectk160, cup_ne (by simp)]; exact pc15_k157
  have pa16_k160 := pa16_k157
  have pc16_k160 : ctk160 (1, 19, 0) = some (gI 1 56 (fun _ => 0)) := by rw [ectk160, cup_ne (by simp)]; exact pc16_k157
  have pa17_k160 := pa17_k157
  have pc17_k160 : ctk160 (1, 21, 0) = some (gI 1 4 (fun _ => 0)) := by rw [ectk160, cup_ne (by simp)]; exact pc17_k157
  have pa18_k160 := pa18_k157
  have pc18_k160 : ctk160 (1, 23, 0) = some (gI 1 5 (fun _ => 0)) := by rw [ectk160, cup_ne (by simp)]; exact pc18_k157
  have pa19_k160 := pa19_k157
  have pc19_k160 : ctk160 (1, 24, 0) = some (gI 1 5 (fun _ => 0)) := by rw [ectk160, cup_ne (by simp)]; exact pc19_k157
  have pa20_k160 := pa20_k157
  have pc20_k160 : ctk160 (1, 25, 0) = some (gI 1 70 (fun _ => 0)) := by rw [ectk160, cup_ne (by simp)]; exact pc20_k157
  have frk160 : ∀ t : Tg, (2 ≤ t.1) → ctk160 t = ct t ∧ adk157 t = ad t := fun t ht => by
    have e0 : t ≠ (0, 0, 0) := fun e => by rw [e] at ht; simp only at ht; omega
    exact ⟨(show ctk160 t = ctk157 t by rw [ectk160, cup_ne e0]).trans (frk157 t ht).1, (frk157 t ht).2⟩
  clear pa0_k157 pa1_k157 pa2_k157 pa3_k157 pa4_k157 pa5_k157 pa6_k157 pa7_k157 pa8_k157 pa9_k157 pa10_k157 pa11_k157 pa12_k157 pa13_k157 pa14_k157 pa15_k157 pa16_k157 pa17_k157 pa18_k157 pa19_k157 pa20_k157 pc0_k157 pc1_k157 pc2_k157 pc3_k157 pc4_k157 pc5_k157 pc6_k157 pc7_k157 pc8_k157 pc9_k157 pc10_k157 pc11_k157 pc12_k157 pc13_k157 pc14_k157 pc15_k157 pc16_k157 pc17_k157 pc18_k157 pc19_k157 pc20_k157 frk157 ectk160 egh158 Rk157 h155 h156
  refine g_ald_n hC dX7_init_160 rfl ?_
  refine g_sipush (z := 280) hC dX7_init_161 rfl ?_
  refine g_newI (n := 280) hC dX7_init_164 ga_int rfl (by decide) (by decide) (by decide) (fun q161 hnq161 => ?_)
  obtain ⟨gh162, egh162⟩ : ∃ g_, g_ = gset gh158 q161 (gI 1 280 (fun _ => 0)) := ⟨_, rfl⟩
  rw [← egh162]
  have h163 : gh162 xa = some (gO 11 [vi (0), vi (0), .ref q1, vi (0), .ref q9, .ref q17, .ref q25, .ref q33, .ref q41, .ref q49, .ref q57, vi (0), .ref q65, .ref q73, .ref q81, .ref q89, .ref q97, .ref q105, .ref q113, .ref q121, vi (0), .ref q129, vi (0), .ref q137, .ref q145, .ref q153, .null, vi (0)]) := by rw [egh162, gset_ne (fun z => by rw [z, hnq161] at h159; cases h159)]; exact h159
  have h164 : gh162 q161 = some (gI 1 280 (fun _ => 0)) := by rw [egh162]; exact gset_eq
  have Rk165 := Rk160.new (t := (1, 26, 0)) hnq161 (gI 1 280 (fun _ => 0))
  obtain ⟨adk165, eadk165⟩ : ∃ x, x = aup adk157 (1, 26, 0) q161 := ⟨_, rfl⟩
  obtain ⟨ctk165, ectk165⟩ : ∃ x, x = cup ctk160 (1, 26, 0) (gI 1 280 (fun _ => 0)) := ⟨_, rfl⟩
  rw [← eadk165, ← ectk165, ← egh162] at Rk165
  have pa0_k165 : adk165 (0, 0, 0) = xa := by rw [eadk165, aup_ne (by simp)]; exact pa0_k160
  have pc0_k165 : ctk165 (0, 0, 0) = some (gO 11 [vi (0), vi (0), .ref q1, vi (0), .ref q9, .ref q17, .ref q25, .ref q33, .ref q41, .ref q49, .ref q57, vi (0), .ref q65, .ref q73, .ref q81, .ref q89, .ref q97, .ref q105, .ref q113, .ref q121, vi (0), .ref q129, vi (0), .ref q137, .ref q145, .ref q153, .null, vi (0)]) := by rw [ectk165, cup_ne (by simp)]; exact pc0_k160
  have pa1_k165 : adk165 (1, 2, 0) = q1 := by rw [eadk165, aup_ne (by simp)]; exact pa1_k160
  have pc1_k165 : ctk165 (1, 2, 0) = some (gI 0 8 (fun _ => 0)) := by rw [ectk165, cup_ne (by simp)]; exact pc1_k160
  have pa2_k165 : adk165 (1, 4, 0) = q9 := by rw [eadk165, aup_ne (by simp)]; exact pa2_k160
  have pc2_k165 : ctk165 (1, 4, 0) = some (gI 1 14 (fun _ => 0)) := by rw [ectk165, cup_ne (by simp)]; exact pc2_k160
  have pa3_k165 : adk165 (1, 5, 0) = q17 := by rw [eadk165, aup_ne (by simp)]; exact pa3_k160
  have pc3_k165 : ctk165 (1, 5, 0) = some (gI 1 14 (fun _ => 0)) := by rw [ectk165, cup_ne (by simp)]; exact pc3_k160
  have pa4_k165 : adk165 (1, 6, 0) = q25 := by rw [eadk165, aup_ne (by simp)]; exact pa4_k160
  have pc4_k165 : ctk165 (1, 6, 0) = some (gI 1 14 (fun _ => 0)) := by rw [ectk165, cup_ne (by simp)]; exact pc4_k160
  have pa5_k165 : adk165 (1, 7, 0) = q33 := by rw [eadk165, aup_ne (by simp)]; exact pa5_k160
  have pc5_k165 : ctk165 (1, 7, 0) = some (gI 1 14 (fun _ => 0)) := by rw [ectk165, cup_ne (by simp)]; exact pc5_k160
  have pa6_k165 : adk165 (1, 8, 0) = q41 := by rw [eadk165, aup_ne (by simp)]; exact pa6_k160
  have pc6_k165 : ctk165 (1, 8, 0) = some (gI 1 84 (fun _ => 0)) := by rw [ectk165, cup_ne (by simp)]; exact pc6_k160
  have pa7_k165 : adk165 (1, 9, 0) = q49 := by rw [eadk165, aup_ne (by simp)]; exact pa7_k160
  have pc7_k165 : ctk165 (1, 9, 0) = some (gI 1 84 (fun _ => 0)) := by rw [ectk165, cup_ne (by simp)]; exact pc7_k160
  have pa8_k165 : adk165 (1, 10, 0) = q57 := by rw [eadk165, aup_ne (by simp)]; exact pa8_k160
  have pc8_k165 : ctk165 (1, 10, 0) = some (gI 0 672 (fun _ => 0)) := by rw [ectk165, cup_ne (by simp)]; exact pc8_k160
  have pa9_k165 : adk165 (1, 12, 0) = q65 := by rw [eadk165, aup_ne (by simp)]; exact pa9_k160
  have pc9_k165 : ctk165 (1, 12, 0) = some (gI 1 4 (fun _ => 0)) := by rw [ectk165, cup_ne (by simp)]; exact pc9_k160
  have pa10_k165 : adk165 (1, 13, 0) = q73 := by rw [eadk165, aup_ne (by simp)]; exact pa10_k160
  have pc10_k165 : ctk165 (1, 13, 0) = some (gI 1 4 (fun _ => 0)) := by rw [ectk165, cup_ne (by simp)]; exact pc10_k160
  have pa11_k165 : adk165 (1, 14, 0) = q81 := by rw [eadk165, aup_ne (by simp)]; exact pa11_k160
  have pc11_k165 : ctk165 (1, 14, 0) = some (gI 1 4 (fun _ => 0)) := by rw [ectk165, cup_ne (by simp)]; exact pc11_k160
  have pa12_k165 : adk165 (1, 15, 0) = q89 := by rw [eadk165, aup_ne (by simp)]; exact pa12_k160
  have pc12_k165 : ctk165 (1, 15, 0) = some (gI 1 14 (fun _ => 0)) := by rw [ectk165, cup_ne (by simp)]; exact pc12_k160
  have pa13_k165 : adk165 (1, 16, 0) = q97 := by rw [eadk165, aup_ne (by simp)]; exact pa13_k160
  have pc13_k165 : ctk165 (1, 16, 0) = some (gI 1 14 (fun _ => 0)) := by rw [ectk165, cup_ne (by simp)]; exact pc13_k160
  have pa14_k165 : adk165 (1, 17, 0) = q105 := by rw [eadk165, aup_ne (by simp)]; exact pa14_k160
  have pc14_k165 : ctk165 (1, 17, 0) = some (gI 1 14 (fun _ => 0)) := by rw [ectk165, cup_ne (by simp)]; exact pc14_k160
  have pa15_k165 : adk165 (1, 18, 0) = q113 := by rw [eadk165, aup_ne (by simp)]; exact pa15_k160
  have pc15_k165 : ctk165 (1, 18, 0) = some (gI 0 960 (fun _ => 0)) := by rw [ectk165, cup_ne (by simp)]; exact pc15_k160
  have pa16_k165 : adk165 (1, 19, 0) = q121 := by rw [eadk165, aup_ne (by simp)]; exact pa16_k160
  have pc16_k165 : ctk165 (1, 19, 0) = some (gI 1 56 (fun _ => 0)) := by rw [ectk165, cup_ne (by simp)]; exact pc16_k160
  have pa17_k165 : adk165 (1, 21, 0) = q129 := by rw [eadk165, aup_ne (by simp)]; exact pa17_k160
  have pc17_k165 : ctk165 (1, 21, 0) = some (gI 1 4 (fun _ => 0)) := by rw [ectk165, cup_ne (by simp)]; exact pc17_k160
  have pa18_k165 : adk165 (1, 23, 0) = q137 := by rw [eadk165, aup_ne (by simp)]; exact pa18_k160
  have pc18_k165 : ctk165 (1, 23, 0) = some (gI 1 5 (fun _ => 0)) := by rw [ectk165, cup_ne (by simp)]; exact pc18_k160
  have pa19_k165 : adk165 (1, 24, 0) = q145 := by rw [eadk165, aup_ne (by simp)]; exact pa19_k160
  have pc19_k165 : ctk165 (1, 24, 0) = some (gI 1 5 (fun _ => 0)) := by rw [ectk165, cup_ne (by simp)]; exact pc19_k160
  have pa20_k165 : adk165 (1, 25, 0) = q153 := by rw [eadk165, aup_ne (by simp)]; exact pa20_k160
  have pc20_k165 : ctk165 (1, 25, 0) = some (gI 1 70 (fun _ => 0)) := by rw [ectk165, cup_ne (by simp)]; exact pc20_k160
  have pa21_k165 : adk165 (1, 26, 0) = q161 := by rw [eadk165, aup_eq]
  have pc21_k165 : ctk165 (1, 26, 0) = some (gI 1 280 (fun _ => 0)) := by rw [ectk165, cup_eq]
  have frk165 : ∀ t : Tg, (2 ≤ t.1) → ctk165 t = ct t ∧ adk165 t = ad t := fun t ht => by
    have e0 : t ≠ (1, 26, 0) := fun e => by rw [e] at ht; simp only at ht; omega
    exact ⟨(show ctk165 t = ctk160 t by rw [ectk165, cup_ne e0]).trans (frk160 t ht).1, (show adk165 t = adk157 t by rw [eadk165, aup_ne e0]).trans (frk160 t ht).2⟩
  clear pa0_k160 pa1_k160 pa2_k160 pa3_k160 pa4_k160 pa5_k160 pa6_k160 pa7_k160 pa8_k160 pa9_k160 pa10_k160 pa11_k160 pa12_k160 pa13_k160 pa14_k160 pa15_k160 pa16_k160 pa17_k160 pa18_k160 pa19_k160 pa20_k160 pc0_k160 pc1_k160 pc2_k160 pc3_k160 pc4_k160 pc5_k160 pc6_k160 pc7_k160 pc8_k160 pc9_k160 pc10_k160 pc11_k160 pc12_k160 pc13_k160 pc14_k160 pc15_k160 pc16_k160 pc17_k160 pc18_k160 pc19_k160 pc20_k160 frk160 ectk165 egh162 Rk160 eadk165 h159
  refine g_putF hC hq (fs' := [vi (0), vi (0), .ref q1, vi (0), .ref q9, .ref q17, .ref q25, .ref q33, .ref q41, .ref q49, .ref q57, vi (0), .ref q65, .ref q73, .ref q81, .ref q89, .ref q97, .ref q105, .ref q113, .ref q121, vi (0), .ref q129, vi (0), .ref q137, .ref q145, .ref q153, .ref q161, vi (0)]) dX7_init_166 gp_RX7_71 h163 ⟨rfl, rfl⟩ rfl (Nat.le_of_ble_eq_true rfl) ?_
  obtain ⟨gh166, egh166⟩ : ∃ g_, g_ = gset gh162 xa (gO 11 [vi (0), vi (0), .ref q1, vi (0), .ref q9, .ref q17, .ref q25, .ref q33, .ref q41, .ref q49, .ref q57, vi (0), .ref q65, .ref q73, .ref q81, .ref q89, .ref q97, .ref q105, .ref q113, .ref q121, vi (0), .ref q129, vi (0), .ref q137, .ref q145, .ref q153, .ref q161, vi (0)]) := ⟨_, rfl⟩
  rw [← egh166]
  have h167 : gh166 xa = some (gO 11 [vi (0), vi (0), .ref q1, vi (0), .ref q9, .ref q17, .ref q25, .ref q33, .ref q41, .ref q49, .ref q57, vi (0), .ref q65, .ref q73, .ref q81, .ref q89, .ref q97, .ref q105, .ref q113, .ref q121, vi (0), .ref q129, vi (0), .ref q137, .ref q145, .ref q153, .ref q161, vi (0)]) := by rw [egh166]; exact gset_eq
  have Rk168 := Rk165.put pc0_k165 (gO 11 [vi (0), vi (0), .ref q1, vi (0), .ref q9, .ref q17, .ref q25, .ref q33, .ref q41, .ref q49, .ref q57, vi (0), .ref q65, .ref q73, .ref q81, .ref q89, .ref q97, .ref q105, .ref q113, .ref q121, vi (0), .ref q129, vi (0), .ref q137, .ref q145, .ref q153, .ref q161, vi (0)])
  obtain ⟨ctk168, ectk168⟩ : ∃ x, x = cup ctk165 (0, 0, 0) (gO 11 [vi (0), vi (0), .ref q1, vi (0), .ref q9, .ref q17, .ref q25, .ref q33, .ref q41, .ref q49, .ref q57, vi (0), .ref q65, .ref q73, .ref q81, .ref q89, .ref q97, .ref q105, .ref q113, .ref q121, vi (0), .ref q129, vi (0), .ref q137, .ref q145, .ref q153, .ref q161, vi (0)]) := ⟨_, rfl⟩
  rw [pa0_k165, ← ectk168, ← egh166] at Rk168
  have pa0_k168 := pa0_k165
  have pc0_k168 : ctk168 (0, 0, 0) = some (gO 11 [vi (0), vi (0), .ref q1, vi (0), .ref q9, .ref q17, .ref q25, .ref q33, .ref q41, .ref q49, .ref q57, vi (0), .ref q65, .ref q73, .ref q81, .ref q89, .ref q97, .ref q105, .ref q113, .ref q121, vi (0), .ref q129, vi (0), .ref q137, .ref q145, .ref q153, .ref q161, vi (0)]) := by rw [ectk168, cup_eq]
  have pa1_k168 := pa1_k165
  have pc1_k168 : ctk168 (1, 2, 0) = some (gI 0 8 (fun _ => 0)) := by rw [ectk168, cup_ne (by simp)]; exact pc1_k165
  have pa2_k168 := pa2_k165
  have pc2_k168 : ctk168 (1, 4, 0) = some (gI 1 14 (fun _ => 0)) := by rw [ectk168, cup_ne (by simp)]; exact pc2_k165
  have pa3_k168 := pa3_k165
  have pc3_k168 : ctk168 (1, 5, 0) = some (gI 1 14 (fun _ => 0)) := by rw [ectk168, cup_ne (by simp)]; exact pc3_k165
  have pa4_k168 := pa4_k165
  have pc4_k168 : ctk168 (1, 6, 0) = some (gI 1 14 (fun _ => 0)) := by rw [ectk168, cup_ne (by simp)]; exact pc4_k165
  have pa5_k168 := pa5_k165
  have pc5_k168 : ctk168 (1, 7, 0) = some (gI 1 14 (fun _ => 0)) := by rw [ectk168, cup_ne (by simp)]; exact pc5_k165
  have pa6_k168 := pa6_k165
  have pc6_k168 : ctk168 (1, 8, 0) = some (gI 1 84 (fun _ => 0)) := by rw [ectk168, cup_ne (by simp)]; exact pc6_k165
  have pa7_k168 := pa7_k165
  have pc7_k168 : ctk168 (1, 9, 0) = some (gI 1 84 (fun _ => 0)) := by rw [ectk168, cup_ne (by simp)]; exact pc7_k165
  have pa8_k168 := pa8_k165
  have pc8_k168 : ctk168 (1, 10, 0) = some (gI 0 672 (fun _ => 0)) := by rw [ectk168, cup_ne (by simp)]; exact pc8_k165
  have pa9_k168 := pa9_k165
  have pc9_k168 : ctk168 (1, 12, 0) = some (gI 1 4 (fun _ => 0)) := by rw [ectk168, cup_ne (by simp)]; exact pc9_k165
  have pa10_k168 := pa10_k165
  have pc10_k168 : ctk168 (1, 13, 0) = some (gI 1 4 (fun _ => 0)) := by rw [ectk168, cup_ne (by simp)]; exact pc10_k165
  have pa11_k168 := pa11_k165
  have pc11_k168 : ctk168 (1, 14, 0) = some (gI 1 4 (fun _ => 0)) := by rw [ectk168, cup_ne (by simp)]; exact pc11_k165
  have pa12_k168 := pa12_k165
  have pc12_k168 : ctk168 (1, 15, 0) = some (gI 1 14 (fun _ => 0)) := by rw [ectk168, cup_ne (by simp)]; exact pc12_k165
  have pa13_k168 := pa13_k165
  have pc13_k168 : ctk168 (1, 16, 0) = some (gI 1 14 (fun _ => 0)) := by rw [ectk168, cup_ne (by simp)]; exact pc13_k165
  have pa14_k168 := pa14_k165
  have pc14_k168 : ctk168 (1, 17, 0) = some (gI 1 14 (fun _ => 0)) := by rw [ectk168, cup_ne (by simp)]; exact pc14_k165
  have pa15_k168 := pa15_k165
  have pc15_k168 : ctk168 (1, 18, 0) = some (gI 0 960 (fun _ => 0)) := by rw [ectk168, cup_ne (by simp)]; exact pc15_k165
  have pa16_k168 := pa16_k165
  have pc16_k168 : ctk168 (1, 19, 0) = some (gI 1 56 (fun _ => 0)) := by rw [ectk168, cup_ne (by simp)]; exact pc16_k165
  have pa17_k168 := pa17_k165
  have pc17_k168 : ctk168 (1, 21, 0) = some (gI 1 4 (fun _ => 0)) := by rw [ectk168, cup_ne (by simp)]; exact pc17_k165
  have pa18_k168 := pa18_k165
  have pc18_k168 : ctk168 (1, 23, 0) = some (gI 1 5 (fun _ => 0)) := by rw [ectk168, cup_ne (by simp)]; exact pc18_k165
  have pa19_k168 := pa19_k165
  have pc19_k168 : ctk168 (1, 24, 0) = some (gI 1 5 (fun _ => 0)) := by rw [ectk168, cup_ne (by simp)]; exact pc19_k165
  have pa20_k168 := pa20_k165
  have pc20_k168 : ctk168 (1, 25, 0) = some (gI 1 70 (fun _ => 0)) := by rw [ectk168, cup_ne (by simp)]; exact pc20_k165
  have pa21_k168 := pa21_k165
  have pc21_k168 : ctk168 (1, 26, 0) = some (gI 1 280 (fun _ => 0)) := by rw [ectk168, cup_ne (by simp)]; exact pc21_k165
  have frk168 : ∀ t : Tg, (2 ≤ t.1) → ctk168 t = ct t ∧ adk165 t = ad t := fun t ht => by
    have e0 : t ≠ (0, 0, 0) := fun e => by rw [e] at ht; simp only at ht; omega
    exact ⟨(show ctk168 t = ctk165 t by rw [ectk168, cup_ne e0]).trans (frk165 t ht).1, (frk165 t ht).2⟩
  clear pa0_k165 pa1_k165 pa2_k165 pa3_k165 pa4_k165 pa5_k165 pa6_k165 pa7_k165 pa8_k165 pa9_k165 pa10_k165 pa11_k165 pa12_k165 pa13_k165 pa14_k165 pa15_k165 pa16_k165 pa17_k165 pa18_k165 pa19_k165 pa20_k165 pa21_k165 pc0_k165 pc1_k165 pc2_k165 pc3_k165 pc4_k165 pc5_k165 pc6_k165 pc7_k165 pc8_k165 pc9_k165 pc10_k165 pc11_k165 pc12_k165 pc13_k165 pc14_k165 pc15_k165 pc16_k165 pc17_k165 pc18_k165 pc19_k165 pc20_k165 pc21_k165 frk165 ectk168 egh166 Rk165 h163 h164
  refine g_vret hC hq dX7_init_169 (by decide) (by decide) ⟨rfl, adk165, ctk168, Rk168, ⟨?_, fun k hk hm => ?_⟩, frk168, by rw [pa0_k168]; exact pa0_0.symm⟩
  · rw [pc0_k168, ← pa1_k168, ← pa2_k168, ← pa3_k168, ← pa4_k168, ← pa5_k168, ← pa6_k168, ← pa7_k168, ← pa8_k168, ← pa9_k168, ← pa10_k168, ← pa11_k168, ← pa12_k168, ← pa13_k168, ← pa14_k168, ← pa15_k168, ← pa16_k168, ← pa17_k168, ← pa18_k168, ← pa19_k168, ← pa20_k168, ← pa21_k168]; rfl
  · match k, hk, hm with
    | 0, _, hm => exact absurd hm (by decide)
    | 1, _, hm => exact absurd hm (by decide)
    | 2, _, _ => exact pc1_k168
    | 3, _, hm => exact absurd hm (by decide)
    | 4, _, _ => exact pc2_k168
    | 5, _, _ => exact pc3_k168
    | 6, _, _ => exact pc4_k168
    | 7, _, _ => exact pc5_k168
    | 8, _, _ => exact pc6_k168
    | 9, _, _ => exact pc7_k168
    | 10, _, _ => exact pc8_k168
    | 11, _, hm => exact absurd hm (by decide)
    | 12, _, _ => exact pc9_k168
    | 13, _, _ => exact pc10_k168
    | 14, _, _ => exact pc11_k168
    | 15, _, _ => exact pc12_k168
    | 16, _, _ => exact pc13_k168
    | 17, _, _ => exact pc14_k168
    | 18, _, _ => exact pc15_k168
    | 19, _, _ => exact pc16_k168
    | 20, _, hm => exact absurd hm (by decide)
    | 21, _, _ => exact pc17_k168
    | 22, _, hm => exact absurd hm (by decide)
    | 23, _, _ => exact pc18_k168
    | 24, _, _ => exact pc19_k168
    | 25, _, _ => exact pc20_k168
    | 26, _, _ => exact pc21_k168
    | 27, _, hm => exact absurd hm (by decide)
    | j + 28, hk, _ => omega

end C28
