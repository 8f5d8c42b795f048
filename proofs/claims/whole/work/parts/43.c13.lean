/-! the class: editions -/
section C13
set_option maxHeartbeats 4000000 in
set_option maxRecDepth 100000 in
theorem kX0_init {l : Launch} (hl : l.stackTraces = false) {D : gD} {base : Nat}  {e : Nat} (gh : gH) (he : gh e = some (gO 4 [.null]))  : gM l D base yX0_init cX0_init 1 none 1 12 1 4 [.ref e] gh (fun r gh' => r = none ∧ ∃ q, gh q = none ∧ gh' = gset (gset gh q (gR 9 4 (fun _ => none))) e (gO 4 [.ref q])) gNo := by
  refine gM.of hl (by decide) (by simp [Value.category]) (Nat.le_of_ble_eq_true rfl) [some (.ref e)] rfl (fun x hC hq => ?_)
  refine g_ald_n hC dX0_init_0 rfl ?_
  refine g_objInit hC dX0_init_1 go_RX0 go_i go_c (by decide) (by decide) ?_
  refine g_ald_n hC dX0_init_4 rfl ?_
  refine g_iconst hC dX0_init_5 rfl ?_
  refine g_newR (n := 4) (kd := 9) hC dX0_init_6 ga_RX0_9.1 ga_RX0_9.2 (by decide) rfl rfl (by decide) (by decide) (by decide) (fun q1 hnq1 => ?_)
  obtain ⟨gh2, egh2⟩ : ∃ g_, g_ = gset gh q1 (gR 9 4 (fun _ => none)) := ⟨_, rfl⟩
  rw [← egh2]
  have h3 : gh2 e = some (gO 4 [.null]) := by rw [egh2, gset_ne (fun z => by rw [z, hnq1] at he; cases he)]; exact he
  have h4 : gh2 q1 = some (gR 9 4 (fun _ => none)) := by rw [egh2]; exact gset_eq
  refine g_putF hC hq (fs' := [.ref q1]) dX0_init_9 gp_RX0_11 h3 ⟨rfl, rfl⟩ rfl (Nat.le_of_ble_eq_true rfl) ?_
  obtain ⟨gh5, egh5⟩ : ∃ g_, g_ = gset gh2 e (gO 4 [.ref q1]) := ⟨_, rfl⟩
  rw [← egh5]
  have h6 : gh5 q1 = some (gR 9 4 (fun _ => none)) := by rw [egh5, gset_ne (gne h4 h3 (by simp))]; exact h4
  have h7 : gh5 e = some (gO 4 [.ref q1]) := by rw [egh5]; exact gset_eq
  exact g_vret hC hq dX0_init_12 (by decide) (by decide) ⟨rfl, q1, hnq1, by rw [egh5, egh2]⟩

end C13
