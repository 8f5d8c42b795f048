/-! the class: editions -/
section C13
set_option maxHeartbeats 4000000 in
set_option maxRecDepth 100000 in
theorem kX0_init {l : Launch} (hl : l.stackTraces = false) {D : gD} {base : Nat}  {e : Nat} (gh : gH) (he : gh e = some (gO 4 [.null]))  : gM l D base yX0_init cX0_init 1 none 1 12 1 4 [.ref e] gh (fun r gh' => r = none ∧ ∃ q, gh q = none ∧ gh' = gset (gset gh q (gR 9 4 (fun _ => none))) e (gO 4 [.ref q])) gNo := by
  refine gM.of hl (by decide) (by simp [Value.category]) (Nat.le_of_ble_eq_true rfl) [some (.ref e)] rfl (fun x hC hq => ?_)
  refine g_ald_n hC dX0_init_0 rfl ?_
  refine g_objInit hC dX0_init_1 go_RX0 go_i go_c (by decide) (by decide) ?_
  refine g_ald_n hC dX0_init_4 rfl ?_
  refine g_iconst hC dX0_init_5 rfl ?_
  refine g_newR (n := 4) (kd := 9) hC dX0_init_6 ga_RX0_9.1 ga_RX0_9.2 (by decide) rfl rfl (by decide) (by decide) (by decide) (fun q1 hnq1 => ?_)
  obtain ⟨gh2, egh2⟩ : ∃ g_, g_ = gset gh q1 (gR 9 4 (fun _ => none)) := ⟨_, rfl⟩
  rw [← egh2]
  have h3 : gh2 e = some (gO 4 [.null]) := by rw [egh2, gset_ne (fun z => by rw [z, hnq1] at he; cases he)]; exact he
  have h4 : gh2 q1 = some (gR 9 4 (fun _ => none)) := by rw [egh2]; exact gset_eq
  refine g_putF hC hq (fs' := [.ref q1]) dX0_init_9 gp_RX0_11 h3 ⟨rfl, rfl⟩ rfl (Nat.le_of_ble_eq_true rfl) ?_
  obtain ⟨gh5, egh5⟩ : ∃ g_, g_ = gset gh2 e (gO 4 [.ref q1]) := ⟨_, rfl⟩
  rw [← egh5]
  have h6 : gh5 q1 = some (gR 9 4 (fun _ => none)) := by rw [egh5, gset_ne (gne h4 h3 (by simp))]; exact h4
  have h7 : gh5 e = some (gO 4 [.ref q1]) := by rw [egh5]; exact gset_eq
  exact g_vret hC hq dX0_init_12 (by decide) (by decide) ⟨rfl, q1, hnq1, by rw [egh5, egh2]⟩

set_option maxHeartbeats 4000000 in
set_option maxRecDepth 100000 in
theorem kX0_signAt {l : Launch} (hl : l.stackTraces = false) {D : gD} {base : Nat}  {e pa k : Nat} {f : Nat → Option Nat} (hk : k < 4) (r c : Int) (rr_ : -2147483648 ≤ r ∧ r < 2147483648) (rc_ : -2147483648 ≤ c ∧ c < 2147483648) {gg ss : Nat} {P : Nat → Int} (hP : Pok P) (hf : f k = some gg) (gh : gH) (he : gh e = some (gO 4 [.ref pa])) (hpa : gh pa = some (gR 9 4 (f))) (hg : gh gg = some (gO 5 [.ref ss])) (hs : gh ss = some (gI 0 960 (P)))  : gM l D base yX0_signAt cX0_signAt 4 (some Jvm.ClassFile.FieldType.char) 3 65 0 0 [.ref e, vi ((k : Int)), vi (r), vi (c)] gh (fun r' gh' => r' = some (vi (sgn P r c)) ∧ gh' = gh) gNo := by
  refine gM.of hl (by decide) (by simp [Value.category]) (Nat.le_of_ble_eq_true rfl) [some (.ref e), some (vi ((k : Int))), some (vi (r)), some (vi (c))] rfl (fun x hC hq => ?_)
  refine g_iload_n hC dX0_signAt_0 rfl ?_
  refine g_if_lt (tgt := 22) hC dX0_signAt_1 (by decide) (by omega) (fun c_1 => False.elim (by omega)) (fun c_1 => ?_)
  refine g_iload_n hC dX0_signAt_4 rfl ?_
  refine g_ald_n hC dX0_signAt_5 rfl ?_
  refine g_get hC dX0_signAt_6 gf_RX0_11 he rfl ?_
  refine g_alenR hC dX0_signAt_9 hpa (by decide) ?_
  refine g_top (b := 4) rfl ?_
  refine g_icmp_ge (tgt := 22) hC dX0_signAt_10 (by decide) (by omega) (by omega) (fun c_10 => False.elim (by omega)) (fun c_10 => ?_)
  refine g_ald_n hC dX0_signAt_13 rfl ?_
  refine g_get hC dX0_signAt_14 gf_RX0_11 he rfl ?_
  refine g_iload_n hC dX0_signAt_17 rfl ?_
  refine g_aaldK (v := some (gg)) hC (k) dX0_signAt_18 hpa (by decide) rfl (by omega) (by omega) (by decide) (hf) ?_
  refine g_ifnonnull_r (tgt := 25) hC dX0_signAt_19 (by decide) ?_
  refine g_ald_n hC dX0_signAt_25 rfl ?_
  refine g_get hC dX0_signAt_26 gf_RX0_11 he rfl ?_
  refine g_iload_n hC dX0_signAt_29 rfl ?_
  refine g_aaldK (v := some (gg)) hC (k) dX0_signAt_30 hpa (by decide) rfl (by omega) (by omega) (by decide) (hf) ?_
  refine g_iload_n hC dX0_signAt_31 rfl ?_
  refine g_iload_n hC dX0_signAt_32 rfl ?_
  refine g_callV (rest := []) hC (kX1_signAt hl hP r c (by omega) (by omega) gh hg hs) gc_RX0_22 rfl hg rfl ⟨by decide, by decide⟩ ⟨by decide, by decide⟩ (Nat.le_of_ble_eq_true rfl) rfl dX0_signAt_33 (fun r gh' hp => ?_)
  obtain ⟨rfl, hgh⟩ := hp
  rw [hgh]
  clear hgh
  refine gV.eqs (st' := [vi (sgn P r c)]) rfl rfl rfl ?_
  have hv := sgn_ok hP r c
  exact g_cret hC hq (by omega) dX0_signAt_36 (by decide) (by decide) ⟨rfl, rfl⟩

end C13
