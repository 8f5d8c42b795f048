/-! the class: a spot by its number -/
section C12
set_option maxHeartbeats 4000000 in
set_option maxRecDepth 100000 in
theorem kX3_spotOf {l : Launch} (hl : l.stackTraces = false) {D : gD} {base : Nat}  {sh ar s n : Nat} {f : Nat → Option Nat} {F : Nat → Nat → Int} {w0 w1 w7 w8 : Value} (hn14 : n ≤ 14) (k : Int) (rk : -2147483648 ≤ k ∧ k < 2147483648) (gh : gH) (hsh : gh sh = some (gO 7 [(w0), (w1), vi (F 12 s), vi (F 13 s), vi (F 14 s), .ref ar, vi ((n : Int)), (w7), (w8)])) (har : gh ar = some (gR 8 14 (f)))  : gM l D base yX3_spotOf cX3_spotOf 2 (some (Jvm.ClassFile.FieldType.object "GraticulePress$Spot")) 0 0 0 0 [.ref sh, vi (k)] gh (fun r gh' => r = some (va_rf (if 0 ≤ k ∧ k < (n : Int) then f k.toNat else none)) ∧ gh' = gh) gNo := by
  refine gM.of hl (by decide) (by simp [Value.category]) (Nat.le_of_ble_eq_true rfl) [some (.ref sh), some (vi (k))] rfl (fun x hC hq => ?_)
  refine g_iload_n hC dX3_spotOf_0 rfl ?_
  refine g_if_lt (tgt := 21) hC dX3_spotOf_1 (by decide) (by omega) (fun h1 => ?_) (fun h1 => ?_)
  · refine g_null hC dX3_spotOf_21 ?_
    refine g_goto (tgt := 31) hC dX3_spotOf_22 (by decide) ?_
    exact g_aret (v := none) hC hq (Or.inl ⟨_, rfl⟩) dX3_spotOf_31 (by decide) (by decide) ⟨by rw [if_neg (by omega)], rfl⟩
  · refine g_iload_n hC dX3_spotOf_4 rfl ?_
    refine g_ald_n hC dX3_spotOf_5 rfl ?_
    refine g_get hC dX3_spotOf_6 gf_RX3_40 hsh rfl ?_
    refine g_icmp_ge (tgt := 21) hC dX3_spotOf_9 (by decide) (by omega) (by omega) (fun h2 => ?_) (fun h2 => ?_)
    · refine g_null hC dX3_spotOf_21 ?_
      refine g_goto (tgt := 31) hC dX3_spotOf_22 (by decide) ?_
      exact g_aret (v := none) hC hq (Or.inl ⟨_, rfl⟩) dX3_spotOf_31 (by decide) (by decide) ⟨by rw [if_neg (by omega)], rfl⟩
    · refine g_iload_n hC dX3_spotOf_12 rfl ?_
      refine g_ald_n hC dX3_spotOf_13 rfl ?_
      refine g_get hC dX3_spotOf_14 gf_RX3_33 hsh rfl ?_
      refine g_alenR hC dX3_spotOf_17 har (by decide) ?_
      refine g_top (b := 14) rfl ?_
      refine g_icmp_lt (tgt := 25) hC dX3_spotOf_18 (by decide) (by omega) (by omega) (fun c_18 => ?_) (fun c_18 => False.elim (by omega))
      refine g_ald_n hC dX3_spotOf_25 rfl ?_
      refine g_get hC dX3_spotOf_26 gf_RX3_33 hsh rfl ?_
      refine g_iload_n hC dX3_spotOf_29 rfl ?_
      refine g_aaldK (v := f (k.toNat)) hC (k.toNat) dX3_spotOf_30 har (by decide) rfl (by omega) (by omega) (by decide) (rfl) ?_
      exact g_aret (v := f k.toNat) hC hq (Or.inl ⟨_, rfl⟩) dX3_spotOf_31 (by decide) (by decide) ⟨by rw [if_pos (by omega)], rfl⟩

end C12
