/-! the class: where a place lies on a sheet -/
section C7
theorem fp_a2 : ∀ a : Fin 30, (FP.fsub (FP.i2f (iI (a.val : Int))) 1097859072) &&& 0x7fffffff ≤ 0x7f800000 := by decide +kernel
theorem fpA2 {a : Int} (h : 0 ≤ a ∧ a ≤ 29) : vf_n32 (FP.fsub (FP.i2f (iI a)) 1097859072) := by
  have := fp_a2 ⟨a.toNat, by omega⟩
  rw [show (((⟨a.toNat, by omega⟩ : Fin 30).val : Nat) : Int) = a from by show ((a.toNat : Nat) : Int) = a; omega] at this
  exact this
set_option maxHeartbeats 4000000 in
set_option maxRecDepth 100000 in
theorem kX3_has {l : Launch} (hl : l.stackTraces = false) {D : gD} {base : Nat}  {sh p s i : Nat} {F : Nat → Nat → Int} {w0 w1 w5 w6 w7 w8 v2 v3 v4 : Value} (rp : -180 ≤ F 4 i ∧ F 4 i ≤ 179 ∧ -60 ≤ F 5 i ∧ F 5 i ≤ 60) (rs : -180 ≤ F 12 s ∧ F 12 s ≤ 150 ∧ -60 ≤ F 13 s ∧ F 13 s ≤ 41 ∧ (F 14 s = 0 ∨ F 14 s = 1)) (gh : gH) (hsh : gh sh = some (gO 7 [(w0), (w1), vi (F 12 s), vi (F 13 s), vi (F 14 s), (w5), (w6), (w7), (w8)])) (hp0 : gh p = some (gO 6 [vi (F 4 i), vi (F 5 i), (v2), (v3), (v4)]))  : gM l D base yX3_has cX3_has 2 (some Jvm.ClassFile.FieldType.boolean) 1 22 0 0 [.ref sh, .ref p] gh (fun r gh' => r = some (vi (b2i (qOn F s i))) ∧ gh' = gh) gNo := by
  refine gM.of hl (by decide) (by simp [Value.category]) (Nat.le_of_ble_eq_true rfl) [some (.ref sh), some (.ref p)] rfl (fun x hC hq => ?_)
  refine g_ald_n hC dX3_has_0 rfl ?_
  refine g_get hC dX3_has_1 gf_RX3_60 hp0 rfl ?_
  refine g_ald_n hC dX3_has_4 rfl ?_
  refine g_get hC dX3_has_5 gf_RX3_9 hsh rfl ?_
  refine g_isub hC dX3_has_8 ?_
  refine g_iconst hC dX3_has_9 rfl ?_
  refine g_bipush (z := 29) hC dX3_has_10 rfl ?_
  refine g_callSN (rest := []) hC (kX6_isWithin hl (F 4 i - F 12 s) 0 29 (by omega) (by omega) (by omega) gh ) gc_RX3_63 rfl ⟨by decide, by decide⟩ ⟨by decide, by decide⟩ (Nat.le_of_ble_eq_true rfl) rfl dX3_has_12 (fun r gh' hp => ?_)
  obtain ⟨rfl, hgh⟩ := hp
  rw [hgh]
  clear hgh
  refine gV.eqs (st' := [vi (b2i (inB (F 4 i - F 12 s) 0 29))]) rfl rfl rfl ?_
  refine g_ifeq_b (tgt := 40) hC dX3_has_15 (by decide)  (fun c_15 => ?_) (fun c_15 => ?_)
  · refine g_iconst hC dX3_has_40 rfl ?_
    refine g_top (b := b2i (qOn F s i)) (b2i_f (by unfold qOn; simp [c_15])) ?_
    exact g_bret hC hq dX3_has_41 (by decide) (by decide) ⟨rfl, rfl⟩
  · refine g_ald_n hC dX3_has_18 rfl ?_
    refine g_get hC dX3_has_19 gf_RX3_67 hp0 rfl ?_
    refine g_ald_n hC dX3_has_22 rfl ?_
    refine g_get hC dX3_has_23 gf_RX3_15 hsh rfl ?_
    refine g_isub hC dX3_has_26 ?_
    refine g_iconst hC dX3_has_27 rfl ?_
    refine g_bipush (z := 19) hC dX3_has_28 rfl ?_
    refine g_callSN (rest := []) hC (kX6_isWithin hl (F 5 i - F 13 s) 0 19 (by omega) (by omega) (by omega) gh ) gc_RX3_63 rfl ⟨by decide, by decide⟩ ⟨by decide, by decide⟩ (Nat.le_of_ble_eq_true rfl) rfl dX3_has_30 (fun r gh' hp => ?_)
    obtain ⟨rfl, hgh⟩ := hp
    rw [hgh]
    clear hgh
    refine gV.eqs (st' := [vi (b2i (inB (F 5 i - F 13 s) 0 19))]) rfl rfl rfl ?_
    refine g_ifeq_b (tgt := 40) hC dX3_has_33 (by decide)  (fun c_33 => ?_) (fun c_33 => ?_)
    · refine g_iconst hC dX3_has_40 rfl ?_
      refine g_top (b := b2i (qOn F s i)) (b2i_f (by unfold qOn; simp [c_15, c_33])) ?_
      exact g_bret hC hq dX3_has_41 (by decide) (by decide) ⟨rfl, rfl⟩
    · refine g_iconst hC dX3_has_36 rfl ?_
      refine g_goto (tgt := 41) hC dX3_has_37 (by decide) ?_
      refine g_top (b := b2i (qOn F s i)) (b2i_t (by unfold qOn; simp [c_15, c_33])) ?_
      exact g_bret hC hq dX3_has_41 (by decide) (by decide) ⟨rfl, rfl⟩

set_option maxHeartbeats 4000000 in
set_option maxRecDepth 100000 in
theorem kX3_rowOf {l : Launch} (hl : l.stackTraces = false) {D : gD} {base : Nat}  {sh p s i : Nat} {F : Nat → Nat → Int} {w0 w1 w5 w6 w7 w8 v2 v3 v4 : Value} (rp : -180 ≤ F 4 i ∧ F 4 i ≤ 179 ∧ -60 ≤ F 5 i ∧ F 5 i ≤ 60) (rs : -180 ≤ F 12 s ∧ F 12 s ≤ 150 ∧ -60 ≤ F 13 s ∧ F 13 s ≤ 41 ∧ (F 14 s = 0 ∨ F 14 s = 1)) (hon : qOn F s i = true) (gh : gH) (hsh : gh sh = some (gO 7 [(w0), (w1), vi (F 12 s), vi (F 13 s), vi (F 14 s), (w5), (w6), (w7), (w8)])) (hp0 : gh p = some (gO 6 [vi (F 4 i), vi (F 5 i), (v2), (v3), (v4)]))  : gM l D base yX3_rowOf cX3_rowOf 2 (some Jvm.ClassFile.FieldType.int) 0 0 0 0 [.ref sh, .ref p] gh (fun r gh' => r = some (vi (qRow F s i)) ∧ gh' = gh) gNo := by
  refine gM.of hl (by decide) (by simp [Value.category]) (Nat.le_of_ble_eq_true rfl) [some (.ref sh), some (.ref p)] rfl (fun x hC hq => ?_)
  have ho := qOn_iff.mp hon
  refine g_bipush (z := 24) hC dX3_rowOf_0 rfl ?_
  refine g_ald_n hC dX3_rowOf_2 rfl ?_
  refine g_get hC dX3_rowOf_3 gf_RX3_67 hp0 rfl ?_
  refine g_ald_n hC dX3_rowOf_6 rfl ?_
  refine g_get hC dX3_rowOf_7 gf_RX3_15 hsh rfl ?_
  refine g_isub hC dX3_rowOf_10 ?_
  refine g_imul hC dX3_rowOf_11 ?_
  refine g_bipush (z := 20) hC dX3_rowOf_12 rfl ?_
  refine g_idiv hC dX3_rowOf_14 (by omega) (by omega) ?_
  exact g_iret hC hq dX3_rowOf_15 (by decide) (by decide) ⟨rfl, rfl⟩

set_option maxHeartbeats 4000000 in
set_option maxRecDepth 100000 in
theorem kX3_columnOf {l : Launch} (hl : l.stackTraces = false) {D : gD} {base : Nat}  {sh p s i : Nat} {F : Nat → Nat → Int} {w0 w1 w5 w6 w7 w8 v2 v3 v4 : Value} (rp : -180 ≤ F 4 i ∧ F 4 i ≤ 179 ∧ -60 ≤ F 5 i ∧ F 5 i ≤ 60) (rs : -180 ≤ F 12 s ∧ F 12 s ≤ 150 ∧ -60 ≤ F 13 s ∧ F 13 s ≤ 41 ∧ (F 14 s = 0 ∨ F 14 s = 1)) (hon : qOn F s i = true) (gh : gH) (hsh : gh sh = some (gO 7 [(w0), (w1), vi (F 12 s), vi (F 13 s), vi (F 14 s), (w5), (w6), (w7), (w8)])) (hp0 : gh p = some (gO 6 [vi (F 4 i), vi (F 5 i), (v2), (v3), (v4)]))  : gM l D base yX3_columnOf cX3_columnOf 5 (some Jvm.ClassFile.FieldType.int) 0 0 0 0 [.ref sh, .ref p] gh (fun r gh' => r = some (vi (qCol F s i)) ∧ gh' = gh) gNo := by
  refine gM.of hl (by decide) (by simp [Value.category]) (Nat.le_of_ble_eq_true rfl) [some (.ref sh), some (.ref p), none, none, none] rfl (fun x hC hq => ?_)
  have ho := qOn_iff.mp hon
  refine g_ald_n hC dX3_columnOf_0 rfl ?_
  refine g_get hC dX3_columnOf_1 gf_RX3_60 hp0 rfl ?_
  refine g_ald_n hC dX3_columnOf_4 rfl ?_
  refine g_get hC dX3_columnOf_5 gf_RX3_9 hsh rfl ?_
  refine g_isub hC dX3_columnOf_8 ?_
  refine g_istore_n (lv' := [some (.ref sh), some (.ref p), some (vi ((F 4 i) - (F 12 s))), none, none]) hC dX3_columnOf_9 (by decide) rfl ?_
  refine g_ald_n hC dX3_columnOf_10 rfl ?_
  refine g_get hC dX3_columnOf_11 gf_RX3_18 hsh rfl ?_
  refine g_if_ne (tgt := 25) hC dX3_columnOf_14 (by decide) (by omega) (fun hk => ?_) (fun hk => ?_)
  · have h1 := fpU ho.2
    have h2 := fpV ho.1
    have h3 := fpC ho.1 ho.2
    have h4 := fpA2 ho.1
    refine g_fconst1 hC dX3_columnOf_25 ?_
    refine g_ldcf hC dX3_columnOf_26 gk_RX3_68 ?_
    refine g_ald_n hC dX3_columnOf_28 rfl ?_
    refine g_get hC dX3_columnOf_29 gf_RX3_67 hp0 rfl ?_
    refine g_ald_n hC dX3_columnOf_32 rfl ?_
    refine g_get hC dX3_columnOf_33 gf_RX3_15 hsh rfl ?_
    refine g_isub hC dX3_columnOf_36 ?_
    refine g_i2f hC dX3_columnOf_37 ?_
    refine g_fmul hC dX3_columnOf_38 (h1.1) ?_
    refine g_fsub hC dX3_columnOf_39 (h1.2) ?_
    refine g_fstore_n (lv' := [some (.ref sh), some (.ref p), some (vi ((F 4 i) - (F 12 s))), some (.float (fU (F 5 i - F 13 s))), none]) hC dX3_columnOf_40 (by decide) rfl ?_
    refine g_iload_n hC dX3_columnOf_41 rfl ?_
    refine g_i2f hC dX3_columnOf_42 ?_
    refine g_ldcf hC dX3_columnOf_43 gk_RX3_69 ?_
    refine g_fsub hC dX3_columnOf_45 (h4) ?_
    refine gV.eqs (st' := [.float (FP.i2f (iI (F 4 i - F 12 s - 15)))]) rfl (by rw [fpA ho.1]) rfl ?_
    refine g_ldcf hC dX3_columnOf_46 gk_RX3_70 ?_
    refine g_fmul hC dX3_columnOf_48 (h2.1) ?_
    refine g_ldcf hC dX3_columnOf_49 gk_RX3_71 ?_
    refine g_fdiv hC dX3_columnOf_51 (h2.2) ?_
    refine g_fload_n hC dX3_columnOf_52 rfl ?_
    refine g_fmul hC dX3_columnOf_53 (h3.1) ?_
    refine g_fstore (lv' := [some (.ref sh), some (.ref p), some (vi ((F 4 i) - (F 12 s))), some (.float (fU (F 5 i - F 13 s))), some (.float (fV (F 4 i - F 12 s) (F 5 i - F 13 s)))]) hC dX3_columnOf_54 (by decide) rfl ?_
    refine g_ldcf hC dX3_columnOf_56 gk_RX3_72 ?_
    refine g_fload hC dX3_columnOf_58 rfl ?_
    refine g_fadd hC dX3_columnOf_60 (h3.2.1) ?_
    refine g_f2i hC dX3_columnOf_61 ?_
    refine gV.eqs (st' := [vi (qCol F s i)]) rfl (by unfold qCol; rw [if_neg hk]; unfold cone; show [Value.int _] = [Value.int (iI _)]; rw [← iI_of]; rfl) rfl ?_
    exact g_iret hC hq dX3_columnOf_62 (by decide) (by decide) ⟨rfl, rfl⟩
  · refine g_bipush (z := 40) hC dX3_columnOf_17 rfl ?_
    refine g_iload_n hC dX3_columnOf_19 rfl ?_
    refine g_imul hC dX3_columnOf_20 ?_
    refine g_bipush (z := 30) hC dX3_columnOf_21 rfl ?_
    refine g_idiv hC dX3_columnOf_23 (by omega) (by omega) ?_
    refine g_top (b := qCol F s i) (by unfold qCol; rw [if_pos hk]) ?_
    exact g_iret hC hq dX3_columnOf_24 (by decide) (by decide) ⟨rfl, rfl⟩

end C7
