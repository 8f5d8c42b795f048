/-! p16: the law's small methods -/
section Q4
set_option maxHeartbeats 4000000 in
set_option maxRecDepth 100000 in
theorem kL_low {l : Launch} (hl : l.stackTraces = false) {D : gD} {base : Nat} (v n : Int) (rv : -2147483648 ≤ v ∧ v < 2147483648) (hn : 1 ≤ n ∧ n < 2147483648) (gh : gH) : gM l D base yL_low cL_low 2 (some Jvm.ClassFile.FieldType.int) 0 0 0 0 [vi (v), vi (n)] gh (fun r gh' => r = some (vi (v % 2147483648 % n)) ∧ gh' = gh) gNo := by
  refine gM.of hl (by decide) (by simp [Value.category]) (Nat.le_of_ble_eq_true rfl) [some (vi (v)), some (vi (n))] rfl (fun x hC hq => ?_)
  refine g_iload_n hC dL_low_0 rfl ?_
  refine g_ldcI (z := 2147483647) hC dL_low_1 gk_RL_9 (by decide +kernel) ?_
  refine g_iandR (c0 := v % 2147483648) hC dL_low_3 (iI_andM rv) ?_
  refine g_iload_n hC dL_low_4 rfl ?_
  refine g_irem hC dL_low_5 (by omega) (by omega) ?_
  exact g_iret hC hq dL_low_6 (by decide) (by decide) ⟨rfl, rfl⟩

set_option maxHeartbeats 4000000 in
set_option maxRecDepth 100000 in
theorem kL_at {l : Launch} (hl : l.stackTraces = false) {D : gD} {base : Nat} {b L : Nat} {xs : Nat → Int32} (hL : L ≤ 260) (k : Nat) (hk9 : k ≤ 1000) (gh : gH) : gMX l D base yL_at cL_at 2 (some Jvm.ClassFile.FieldType.int) 0 0 0 0 [.ref b, vi ((k : Int))] gh b L xs (fun r gh' => ∃ v : Int, (-2147483648 ≤ v ∧ v < 2147483648) ∧ r = some (vi v) ∧ gh' = gh) := by
  refine gMX.of hl (by decide) (by simp [Value.category]) (Nat.le_of_ble_eq_true rfl) [some (.ref b), some (vi ((k : Int)))] rfl (fun x hC hq hX => ?_)
  refine g_iload_n hC dL_at_0 rfl ?_
  refine g_ald_n hC dL_at_1 rfl ?_
  refine g_slen hC hX dL_at_2 ?_
  refine g_icmp_ge (tgt := 12) hC dL_at_3 (by decide) (by omega) (by omega) (fun hk => ?_) (fun hk => ?_)
  · refine g_ldcI (z := 1742332403) hC dL_at_12 gk_RL_7 (by decide +kernel) ?_
    refine g_iload_n hC dL_at_14 rfl ?_
    refine g_iconst hC dL_at_15 rfl ?_
    refine g_iadd hC dL_at_16 ?_
    refine g_imul hC dL_at_17 ?_
    refine g_ldcI (z := 1002821609) hC dL_at_18 gk_RL_8 (by decide +kernel) ?_
    refine g_iadd hC dL_at_20 ?_
    exact g_iret hC hq dL_at_21 (by decide) (by decide) ⟨(iI (((1742332403) * (((k : Int)) + (1))) + (1002821609))).toInt, iI_rng _, congrArg (fun y => some (Value.int y)) (iI_of _), rfl⟩
  · refine g_ald_n hC dL_at_6 rfl ?_
    refine g_iload_n hC dL_at_7 rfl ?_
    refine g_sld hC hX (by omega) k rfl (by omega) dL_at_8 ?_
    refine g_goto (tgt := 21) hC dL_at_9 (by decide) ?_
    exact g_iret hC hq dL_at_21 (by decide) (by decide) ⟨(xs k).toInt, iI_rng _, rfl, rfl⟩

set_option maxHeartbeats 4000000 in
set_option maxRecDepth 100000 in
theorem kL_isOn {l : Launch} (hl : l.stackTraces = false) {D : gD} {base : Nat} {oa ga pa qa ea : Nat} {ad : Tg → Nat} {z : Nat → Int} {F : Nat → Nat → Int} {ct : Tg → Option gC} {G P Q E : Nat → Int} (hLI : LI ad z F ct G P Q E) (hA : lA ad oa ga pa qa ea) (s k : Nat) (hs : (s : Int) < z 11) (hk : (k : Int) < z 3) (gh : gH) (hR : cR ad ct gh) : gM l D base yL_isOn cL_isOn 6 (some Jvm.ClassFile.FieldType.boolean) 0 0 0 0 [.ref pa, .ref qa, vi ((s : Int)), vi ((k : Int))] gh (fun r gh' => r = some (vi (b2i (qOn F s k))) ∧ gh' = gh) gNo := by
  refine gM.of hl (by decide) (by simp [Value.category]) (Nat.le_of_ble_eq_true rfl) [some (.ref pa), some (.ref qa), some (vi ((s : Int))), some (vi ((k : Int))), none, none] rfl (fun x hC hq => ?_)
  obtain ⟨hCI, ⟨c30, c31, c32, c33⟩, ⟨g0, g1, g2, g3, g4, g5⟩, lP, lQ, lE⟩ := id hLI
  obtain ⟨hS, hI, hE, hQ, h10⟩ := id hCI
  obtain ⟨i0, i1, i3, i11, i22, iw, ip, inn, inm, ish⟩ := id hI
  have f1 : gh ga = some (gI 1 6 (G)) := by have h9_ := hR.1 (30, 0, 0) _ c30; rw [hA.2.1] at h9_; exact h9_
  have f2 : gh pa = some (gI 1 50 (P)) := by have h9_ := hR.1 (31, 0, 0) _ c31; rw [hA.2.2.1] at h9_; exact h9_
  have f3 : gh qa = some (gI 1 12 (Q)) := by have h9_ := hR.1 (32, 0, 0) _ c32; rw [hA.2.2.2.1] at h9_; exact h9_
  have f4 : gh ea = some (gI 1 20 (E)) := by have h9_ := hR.1 (33, 0, 0) _ c33; rw [hA.2.2.2.2] at h9_; exact h9_
  obtain ⟨-, -, p0⟩ := lP k (by omega)
  obtain ⟨p0, p1, p2⟩ := p0 (by omega)
  obtain ⟨q0, q1, q2⟩ := lQ s hs
  have hp := ip k (by omega)
  have hq9 := ish s (by omega)
  refine g_ald_n hC dL_isOn_0 rfl ?_
  refine g_iconst hC dL_isOn_1 rfl ?_
  refine g_iload_n hC dL_isOn_2 rfl ?_
  refine g_imul hC dL_isOn_3 ?_
  refine g_ialdK hC (5 * k) dL_isOn_4 f2 (by omega) (by omega) (by omega) ?_
  refine g_top (b := F 4 k) (p0) ?_
  refine g_ald_n hC dL_isOn_5 rfl ?_
  refine g_iconst hC dL_isOn_6 rfl ?_
  refine g_iload_n hC dL_isOn_7 rfl ?_
  refine g_imul hC dL_isOn_8 ?_
  refine g_ialdK hC (3 * s) dL_isOn_9 f3 (by omega) (by omega) (by omega) ?_
  refine g_top (b := F 12 s) (q0) ?_
  refine g_isub hC dL_isOn_10 ?_
  refine g_istore (lv' := [some (.ref pa), some (.ref qa), some (vi ((s : Int))), some (vi ((k : Int))), some (vi ((F 4 k) - (F 12 s))), none]) hC dL_isOn_11 (by decide) rfl ?_
  refine g_ald_n hC dL_isOn_13 rfl ?_
  refine g_iconst hC dL_isOn_14 rfl ?_
  refine g_iload_n hC dL_isOn_15 rfl ?_
  refine g_imul hC dL_isOn_16 ?_
  refine g_iconst hC dL_isOn_17 rfl ?_
  refine g_iadd hC dL_isOn_18 ?_
  refine g_ialdK hC (5 * k + 1) dL_isOn_19 f2 (by omega) (by omega) (by omega) ?_
  refine g_top (b := F 5 k) (p1) ?_
  refine g_ald_n hC dL_isOn_20 rfl ?_
  refine g_iconst hC dL_isOn_21 rfl ?_
  refine g_iload_n hC dL_isOn_22 rfl ?_
  refine g_imul hC dL_isOn_23 ?_
  refine g_iconst hC dL_isOn_24 rfl ?_
  refine g_iadd hC dL_isOn_25 ?_
  refine g_ialdK hC (3 * s + 1) dL_isOn_26 f3 (by omega) (by omega) (by omega) ?_
  refine g_top (b := F 13 s) (q1) ?_
  refine g_isub hC dL_isOn_27 ?_
  refine g_istore (lv' := [some (.ref pa), some (.ref qa), some (vi ((s : Int))), some (vi ((k : Int))), some (vi ((F 4 k) - (F 12 s))), some (vi ((F 5 k) - (F 13 s)))]) hC dL_isOn_28 (by decide) rfl ?_
  refine g_iload hC dL_isOn_30 rfl ?_
  refine g_if_lt (tgt := 58) hC dL_isOn_32 (by decide) (by omega) (fun c_32 => ?_) (fun c_32 => ?_)
  · refine g_iconst hC dL_isOn_58 rfl ?_
    have hv : b2i (qOn F s k) = 0 := by
      cases e_ : qOn F s k with
      | false => rfl
      | true => exfalso; unfold qOn at e_; rw [Bool.and_eq_true, inB_iff, inB_iff] at e_; omega
    refine g_top (b := b2i (qOn F s k)) hv.symm ?_
    exact g_bret hC hq dL_isOn_59 (by decide) (by decide) ⟨rfl, rfl⟩
  · refine g_iload hC dL_isOn_35 rfl ?_
    refine g_bipush (z := 30) hC dL_isOn_37 rfl ?_
    refine g_icmp_ge (tgt := 58) hC dL_isOn_39 (by decide) (by omega) (by omega) (fun c_39 => ?_) (fun c_39 => ?_)
    · refine g_iconst hC dL_isOn_58 rfl ?_
      have hv : b2i (qOn F s k) = 0 := by
        cases e_ : qOn F s k with
        | false => rfl
        | true => exfalso; unfold qOn at e_; rw [Bool.and_eq_true, inB_iff, inB_iff] at e_; omega
      refine g_top (b := b2i (qOn F s k)) hv.symm ?_
      exact g_bret hC hq dL_isOn_59 (by decide) (by decide) ⟨rfl, rfl⟩
    · refine g_iload hC dL_isOn_42 rfl ?_
      refine g_if_lt (tgt := 58) hC dL_isOn_44 (by decide) (by omega) (fun c_44 => ?_) (fun c_44 => ?_)
      · refine g_iconst hC dL_isOn_58 rfl ?_
        have hv : b2i (qOn F s k) = 0 := by
          cases e_ : qOn F s k with
          | false => rfl
          | true => exfalso; unfold qOn at e_; rw [Bool.and_eq_true, inB_iff, inB_iff] at e_; omega
        refine g_top (b := b2i (qOn F s k)) hv.symm ?_
        exact g_bret hC hq dL_isOn_59 (by decide) (by decide) ⟨rfl, rfl⟩
      · refine g_iload hC dL_isOn_47 rfl ?_
        refine g_bipush (z := 20) hC dL_isOn_49 rfl ?_
        refine g_icmp_ge (tgt := 58) hC dL_isOn_51 (by decide) (by omega) (by omega) (fun c_51 => ?_) (fun c_51 => ?_)
        · refine g_iconst hC dL_isOn_58 rfl ?_
          have hv : b2i (qOn F s k) = 0 := by
            cases e_ : qOn F s k with
            | false => rfl
            | true => exfalso; unfold qOn at e_; rw [Bool.and_eq_true, inB_iff, inB_iff] at e_; omega
          refine g_top (b := b2i (qOn F s k)) hv.symm ?_
          exact g_bret hC hq dL_isOn_59 (by decide) (by decide) ⟨rfl, rfl⟩
        · refine g_iconst hC dL_isOn_54 rfl ?_
          refine g_goto (tgt := 59) hC dL_isOn_55 (by decide) ?_
          have hv : b2i (qOn F s k) = 1 := by
            unfold qOn; rw [inB_iff.mpr (by omega), inB_iff.mpr (by omega)]; rfl
          refine g_top (b := b2i (qOn F s k)) hv.symm ?_
          exact g_bret hC hq dL_isOn_59 (by decide) (by decide) ⟨rfl, rfl⟩

end Q4
