/-! the class: an edition without a picture of a sheet -/
section C15
set_option maxHeartbeats 4000000 in
set_option maxRecDepth 100000 in
theorem kX0_signAt0 {l : Launch} (hl : l.stackTraces = false) {D : gD} {base : Nat}  {e pa k : Nat} {f : Nat → Option Nat} (hk : k < 4) (r c : Int) (rr_ : -2147483648 ≤ r ∧ r < 2147483648) (rc_ : -2147483648 ≤ c ∧ c < 2147483648) (hf : f k = none) (gh : gH) (he : gh e = some (gO 4 [.ref pa])) (hpa : gh pa = some (gR 9 4 (f)))  : gM l D base yX0_signAt cX0_signAt 4 (some Jvm.ClassFile.FieldType.char) 0 0 0 0 [.ref e, vi ((k : Int)), vi (r), vi (c)] gh (fun r' gh' => r' = some (vi 32) ∧ gh' = gh) gNo := by
  refine gM.of hl (by decide) (by simp [Value.category]) (Nat.le_of_ble_eq_true rfl) [some (.ref e), some (vi ((k : Int))), some (vi (r)), some (vi (c))] rfl (fun x hC hq => ?_)
  refine g_iload_n hC dX0_signAt_0 rfl ?_
  refine g_if_lt (tgt := 22) hC dX0_signAt_1 (by decide) (by omega) (fun c_1 => False.elim (by omega)) (fun c_1 => ?_)
  refine g_iload_n hC dX0_signAt_4 rfl ?_
  refine g_ald_n hC dX0_signAt_5 rfl ?_
  refine g_get hC dX0_signAt_6 gf_RX0_11 he rfl ?_
  refine g_alenR hC dX0_signAt_9 hpa (by decide) ?_
  refine g_top (b := 4) rfl ?_
  refine g_icmp_ge (tgt := 22) hC dX0_signAt_10 (by decide) (by omega) (by omega) (fun c_10 => False.elim (by omega)) (fun c_10 => ?_)
  refine g_ald_n hC dX0_signAt_13 rfl ?_
  refine g_get hC dX0_signAt_14 gf_RX0_11 he rfl ?_
  refine g_iload_n hC dX0_signAt_17 rfl ?_
  refine g_aaldK (v := none) hC (k) dX0_signAt_18 hpa (by decide) rfl (by omega) (by omega) (by decide) (hf) ?_
  refine g_ifnonnull (tgt := 25) hC dX0_signAt_19 (by decide) (fun a_19 hv => ?_) (fun hv => ?_)
  · cases hv
  · refine g_bipush (z := 32) hC dX0_signAt_22 rfl ?_
    exact g_cret hC hq (by omega) dX0_signAt_24 (by decide) (by decide) ⟨rfl, rfl⟩

end C15
