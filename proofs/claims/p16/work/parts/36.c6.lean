/-! the class: a place is told a name; new places, spellings, spots -/
section C6
set_option maxHeartbeats 4000000 in
set_option maxRecDepth 100000 in
theorem kX2_isToldOut {l : Launch} (hl : l.stackTraces = false) {D : gD} {base : Nat}  {p a c : Nat} {v1 v2 v3 : Value} {f : Nat → Option Nat} (hc : c ≤ 6) (gh : gH) (hp0 : gh p = some (gO 6 [(v1), (v2), (v3), .ref a, vi ((c : Int))])) (ha : gh a = some (gR 7 6 (f)))  : gM l D base yX2_isToldOut cX2_isToldOut 1 (some Jvm.ClassFile.FieldType.boolean) 0 0 0 0 [.ref p] gh (fun r gh' => r = some (vi (b2i (decide (6 ≤ c)))) ∧ gh' = gh) gNo := by
  refine gM.of hl (by decide) (by simp [Value.category]) (Nat.le_of_ble_eq_true rfl) [some (.ref p)] rfl (fun x hC hq => ?_)
  refine g_ald_n hC dX2_isToldOut_0 rfl ?_
  refine g_get hC dX2_isToldOut_1 gf_RX2_27 hp0 rfl ?_
  refine g_ald_n hC dX2_isToldOut_4 rfl ?_
  refine g_get hC dX2_isToldOut_5 gf_RX2_23 hp0 rfl ?_
  refine g_alenR hC dX2_isToldOut_8 ha (by decide) ?_
  refine g_top (b := 6) rfl ?_
  refine g_icmp_lt (tgt := 16) hC dX2_isToldOut_9 (by decide) (by omega) (by omega) (fun c_9 => ?_) (fun c_9 => ?_)
  · refine g_iconst hC dX2_isToldOut_16 rfl ?_
    refine g_top (b := b2i (decide (6 ≤ c))) (b2i_f (by simp; omega)) ?_
    exact g_bret hC hq dX2_isToldOut_17 (by decide) (by decide) ⟨rfl, rfl⟩
  · refine g_iconst hC dX2_isToldOut_12 rfl ?_
    refine g_goto (tgt := 17) hC dX2_isToldOut_13 (by decide) ?_
    refine g_top (b := b2i (decide (6 ≤ c))) (b2i_t (by simp; omega)) ?_
    exact g_bret hC hq dX2_isToldOut_17 (by decide) (by decide) ⟨rfl, rfl⟩

set_option maxHeartbeats 4000000 in
set_option maxRecDepth 100000 in
theorem kX2_tell {l : Launch} (hl : l.stackTraces = false) {D : gD} {base : Nat}  {p a c : Nat} {v1 v2 v3 : Value} {f : Nat → Option Nat} {u : Nat} {u1 u2 : Value} (hc : c < 6) (gh : gH) (hp0 : gh p = some (gO 6 [(v1), (v2), (v3), .ref a, vi ((c : Int))])) (ha : gh a = some (gR 7 6 (f))) (hu : gh u = some (gO 8 [(u1), (u2)]))  : gM l D base yX2_tell cX2_tell 2 none 0 0 0 0 [.ref p, .ref u] gh (fun r gh' => r = none ∧ gh' = gset (gset gh a (gR 7 6 (gup f c (some u)))) p (gO 6 [v1, v2, v3, .ref a, vi ((c : Int) + 1)])) gNo := by
  refine gM.of hl (by decide) (by simp [Value.category]) (Nat.le_of_ble_eq_true rfl) [some (.ref p), some (.ref u)] rfl (fun x hC hq => ?_)
  refine g_ald_n hC dX2_tell_0 rfl ?_
  refine g_get hC dX2_tell_1 gf_RX2_27 hp0 rfl ?_
  refine g_ald_n hC dX2_tell_4 rfl ?_
  refine g_get hC dX2_tell_5 gf_RX2_23 hp0 rfl ?_
  refine g_alenR hC dX2_tell_8 ha (by decide) ?_
  refine g_top (b := 6) rfl ?_
  refine g_icmp_ge (tgt := 32) hC dX2_tell_9 (by decide) (by omega) (by omega) (fun c_9 => False.elim (by omega)) (fun c_9 => ?_)
  refine g_ald_n hC dX2_tell_12 rfl ?_
  refine g_get hC dX2_tell_13 gf_RX2_23 hp0 rfl ?_
  refine g_ald_n hC dX2_tell_16 rfl ?_
  refine g_get hC dX2_tell_17 gf_RX2_27 hp0 rfl ?_
  refine g_ald_n hC dX2_tell_20 rfl ?_
  refine g_aastK hC (c) dX2_tell_21 ha (by decide) rfl hu rfl (by omega) (by omega) (by decide) ?_
  obtain ⟨gh1, egh1⟩ : ∃ g_, g_ = gset gh a (gR 7 6 (gup (f) (c) (some u))) := ⟨_, rfl⟩
  rw [← egh1]
  have h2 : gh1 p = some (gO 6 [(v1), (v2), (v3), .ref a, vi ((c : Int))]) := by rw [egh1, gset_ne (gne hp0 ha (by simp))]; exact hp0
  have h3 : gh1 u = some (gO 8 [(u1), (u2)]) := by rw [egh1, gset_ne (gne hu ha (by simp))]; exact hu
  have h4 : gh1 a = some (gR 7 6 (gup (f) (c) (some u))) := by rw [egh1]; exact gset_eq
  refine g_ald_n hC dX2_tell_22 rfl ?_
  refine g_dup hC dX2_tell_23 rfl ?_
  refine g_get hC dX2_tell_24 gf_RX2_27 h2 rfl ?_
  refine g_iconst hC dX2_tell_27 rfl ?_
  refine g_iadd hC dX2_tell_28 ?_
  refine g_put hC (fs' := [(v1), (v2), (v3), .ref a, vi (((c : Int)) + (1))]) dX2_tell_29 gp_RX2_27 h2 ⟨rfl, rfl⟩ rfl (Nat.le_of_ble_eq_true rfl) ?_
  obtain ⟨gh5, egh5⟩ : ∃ g_, g_ = gset gh1 p (gO 6 [(v1), (v2), (v3), .ref a, vi (((c : Int)) + (1))]) := ⟨_, rfl⟩
  rw [← egh5]
  have h6 : gh5 u = some (gO 8 [(u1), (u2)]) := by rw [egh5, gset_ne (gne h3 h2 (by simp))]; exact h3
  have h7 : gh5 a = some (gR 7 6 (gup (f) (c) (some u))) := by rw [egh5, gset_ne (gne h4 h2 (by simp))]; exact h4
  have h8 : gh5 p = some (gO 6 [(v1), (v2), (v3), .ref a, vi (((c : Int)) + (1))]) := by rw [egh5]; exact gset_eq
  exact g_vret hC hq dX2_tell_32 (by decide) (by decide) ⟨rfl, by rw [egh5, egh1]⟩

set_option maxHeartbeats 4000000 in
set_option maxRecDepth 100000 in
theorem kX2_init {l : Launch} (hl : l.stackTraces = false) {D : gD} {base : Nat}  {p : Nat} {i j k : Int} (gh : gH) (hp0 : gh p = some (gO 6 [vi (0), vi (0), vi (0), .null, vi (0)]))  : gM l D base yX2_init cX2_init 4 none 1 12 1 6 [.ref p, vi (i), vi (j), vi (k)] gh (fun r gh' => r = none ∧ ∃ q, gh q = none ∧ gh' = gset (gset gh q (gR 7 6 (fun _ => none))) p (gO 6 [vi i, vi j, vi k, .ref q, vi 0])) gNo := by
  refine gM.of hl (by decide) (by simp [Value.category]) (Nat.le_of_ble_eq_true rfl) [some (.ref p), some (vi (i)), some (vi (j)), some (vi (k))] rfl (fun x hC hq => ?_)
  refine g_ald_n hC dX2_init_0 rfl ?_
  refine g_objInit hC dX2_init_1 go_RX2 go_i go_c (by decide) (by decide) ?_
  refine g_ald_n hC dX2_init_4 rfl ?_
  refine g_iload_n hC dX2_init_5 rfl ?_
  refine g_putF hC hq (fs' := [vi (i), vi (0), vi (0), .null, vi (0)]) dX2_init_6 gp_RX2_9 hp0 ⟨rfl, rfl⟩ rfl (Nat.le_of_ble_eq_true rfl) ?_
  obtain ⟨gh1, egh1⟩ : ∃ g_, g_ = gset gh p (gO 6 [vi (i), vi (0), vi (0), .null, vi (0)]) := ⟨_, rfl⟩
  rw [← egh1]
  have h2 : gh1 p = some (gO 6 [vi (i), vi (0), vi (0), .null, vi (0)]) := by rw [egh1]; exact gset_eq
  refine g_ald_n hC dX2_init_9 rfl ?_
  refine g_iload_n hC dX2_init_10 rfl ?_
  refine g_putF hC hq (fs' := [vi (i), vi (j), vi (0), .null, vi (0)]) dX2_init_11 gp_RX2_15 h2 ⟨rfl, rfl⟩ rfl (Nat.le_of_ble_eq_true rfl) ?_
  obtain ⟨gh3, egh3⟩ : ∃ g_, g_ = gset gh1 p (gO 6 [vi (i), vi (j), vi (0), .null, vi (0)]) := ⟨_, rfl⟩
  rw [← egh3]
  have h4 : gh3 p = some (gO 6 [vi (i), vi (j), vi (0), .null, vi (0)]) := by rw [egh3]; exact gset_eq
  refine g_ald_n hC dX2_init_14 rfl ?_
  refine g_iload_n hC dX2_init_15 rfl ?_
  refine g_putF hC hq (fs' := [vi (i), vi (j), vi (k), .null, vi (0)]) dX2_init_16 gp_RX2_18 h4 ⟨rfl, rfl⟩ rfl (Nat.le_of_ble_eq_true rfl) ?_
  obtain ⟨gh5, egh5⟩ : ∃ g_, g_ = gset gh3 p (gO 6 [vi (i), vi (j), vi (k), .null, vi (0)]) := ⟨_, rfl⟩
  rw [← egh5]
  have h6 : gh5 p = some (gO 6 [vi (i), vi (j), vi (k), .null, vi (0)]) := by rw [egh5]; exact gset_eq
  refine g_ald_n hC dX2_init_19 rfl ?_
  refine g_bipush (z := 6) hC dX2_init_20 rfl ?_
  refine g_newR (n := 6) (kd := 7) hC dX2_init_22 ga_RX2_21.1 ga_RX2_21.2 (by decide) rfl rfl (by decide) (by decide) (by decide) (fun q7 hnq7 => ?_)
  obtain ⟨gh8, egh8⟩ : ∃ g_, g_ = gset gh5 q7 (gR 7 6 (fun _ => none)) := ⟨_, rfl⟩
  rw [← egh8]
  have h9 : gh8 p = some (gO 6 [vi (i), vi (j), vi (k), .null, vi (0)]) := by rw [egh8, gset_ne (fun z => by rw [z, hnq7] at h6; cases h6)]; exact h6
  have h10 : gh8 q7 = some (gR 7 6 (fun _ => none)) := by rw [egh8]; exact gset_eq
  refine g_putF hC hq (fs' := [vi (i), vi (j), vi (k), .ref q7, vi (0)]) dX2_init_25 gp_RX2_23 h9 ⟨rfl, rfl⟩ rfl (Nat.le_of_ble_eq_true rfl) ?_
  obtain ⟨gh11, egh11⟩ : ∃ g_, g_ = gset gh8 p (gO 6 [vi (i), vi (j), vi (k), .ref q7, vi (0)]) := ⟨_, rfl⟩
  rw [← egh11]
  have h12 : gh11 q7 = some (gR 7 6 (fun _ => none)) := by rw [egh11, gset_ne (gne h10 h9 (by simp))]; exact h10
  have h13 : gh11 p = some (gO 6 [vi (i), vi (j), vi (k), .ref q7, vi (0)]) := by rw [egh11]; exact gset_eq
  refine g_ald_n hC dX2_init_28 rfl ?_
  refine g_iconst hC dX2_init_29 rfl ?_
  refine g_put hC (fs' := [vi (i), vi (j), vi (k), .ref q7, vi (0)]) dX2_init_30 gp_RX2_27 h13 ⟨rfl, rfl⟩ rfl (Nat.le_of_ble_eq_true rfl) ?_
  obtain ⟨gh14, egh14⟩ : ∃ g_, g_ = gset gh11 p (gO 6 [vi (i), vi (j), vi (k), .ref q7, vi (0)]) := ⟨_, rfl⟩
  rw [← egh14]
  have h15 : gh14 q7 = some (gR 7 6 (fun _ => none)) := by rw [egh14, gset_ne (gne h12 h13 (by simp))]; exact h12
  have h16 : gh14 p = some (gO 6 [vi (i), vi (j), vi (k), .ref q7, vi (0)]) := by rw [egh14]; exact gset_eq
  have hpq : p ≠ q7 := fun e => by rw [← e, egh5, egh3, egh1, gset_eq] at hnq7; cases hnq7
  have hq0 : gh q7 = none := by rw [egh5, egh3, egh1, gset_ne hpq.symm, gset_ne hpq.symm, gset_ne hpq.symm] at hnq7; exact hnq7
  exact g_vret hC hq dX2_init_33 (by decide) (by decide) ⟨rfl, q7, hq0, by rw [egh14, egh11, egh8, egh5, egh3, egh1, gset_set, gset_set, gset_set, gset_comm hpq, gset_set]⟩

set_option maxHeartbeats 4000000 in
set_option maxRecDepth 100000 in
theorem kX4_init {l : Launch} (hl : l.stackTraces = false) {D : gD} {base : Nat}  {u s : Nat} {d : Int} (gh : gH) (hu : gh u = some (gO 8 [vi (0), .null]))  : gM l D base yX4_init cX4_init 3 none 1 12 0 0 [.ref u, vi (d), .ref s] gh (fun r gh' => r = none ∧ gh' = gset gh u (gO 8 [vi d, .ref s])) gNo := by
  refine gM.of hl (by decide) (by simp [Value.category]) (Nat.le_of_ble_eq_true rfl) [some (.ref u), some (vi (d)), some (.ref s)] rfl (fun x hC hq => ?_)
  refine g_ald_n hC dX4_init_0 rfl ?_
  refine g_objInit hC dX4_init_1 go_RX4 go_i go_c (by decide) (by decide) ?_
  refine g_ald_n hC dX4_init_4 rfl ?_
  refine g_iload_n hC dX4_init_5 rfl ?_
  refine g_putF hC hq (fs' := [vi (d), .null]) dX4_init_6 gp_RX4_7 hu ⟨rfl, rfl⟩ rfl (Nat.le_of_ble_eq_true rfl) ?_
  obtain ⟨gh1, egh1⟩ : ∃ g_, g_ = gset gh u (gO 8 [vi (d), .null]) := ⟨_, rfl⟩
  rw [← egh1]
  have h2 : gh1 u = some (gO 8 [vi (d), .null]) := by rw [egh1]; exact gset_eq
  refine g_ald_n hC dX4_init_9 rfl ?_
  refine g_ald_n hC dX4_init_10 rfl ?_
  refine g_putF hC hq (fs' := [vi (d), .ref s]) dX4_init_11 gp_RX4_13 h2 ⟨rfl, rfl⟩ rfl (Nat.le_of_ble_eq_true rfl) ?_
  obtain ⟨gh3, egh3⟩ : ∃ g_, g_ = gset gh1 u (gO 8 [vi (d), .ref s]) := ⟨_, rfl⟩
  rw [← egh3]
  have h4 : gh3 u = some (gO 8 [vi (d), .ref s]) := by rw [egh3]; exact gset_eq
  exact g_vret hC hq dX4_init_14 (by decide) (by decide) ⟨rfl, by rw [egh3, egh1, gset_set]⟩

set_option maxHeartbeats 4000000 in
set_option maxRecDepth 100000 in
theorem kX5_init {l : Launch} (hl : l.stackTraces = false) {D : gD} {base : Nat}  {t p : Nat} {rk co ro : Int} {v1 v2 v4 v5 : Value} (gh : gH) (ht : gh t = some (gO 9 [vi (0), vi (0), vi (0), .null, .null, vi (0), vi (0)])) (hp0 : gh p = some (gO 6 [(v1), (v2), vi (rk), (v4), (v5)]))  : gM l D base yX5_init cX5_init 4 none 1 12 0 0 [.ref t, .ref p, vi (co), vi (ro)] gh (fun r gh' => r = none ∧ gh' = gset gh t (gO 9 [vi rk, vi co, vi ro, .ref p, .null, vi (-1), vi (-1)])) gNo := by
  refine gM.of hl (by decide) (by simp [Value.category]) (Nat.le_of_ble_eq_true rfl) [some (.ref t), some (.ref p), some (vi (co)), some (vi (ro))] rfl (fun x hC hq => ?_)
  refine g_ald_n hC dX5_init_0 rfl ?_
  refine g_objInit hC dX5_init_1 go_RX5 go_i go_c (by decide) (by decide) ?_
  refine g_ald_n hC dX5_init_4 rfl ?_
  refine g_ald_n hC dX5_init_5 rfl ?_
  refine g_putF hC hq (fs' := [vi (0), vi (0), vi (0), .ref p, .null, vi (0), vi (0)]) dX5_init_6 gp_RX5_9 ht ⟨rfl, rfl⟩ rfl (Nat.le_of_ble_eq_true rfl) ?_
  obtain ⟨gh1, egh1⟩ : ∃ g_, g_ = gset gh t (gO 9 [vi (0), vi (0), vi (0), .ref p, .null, vi (0), vi (0)]) := ⟨_, rfl⟩
  rw [← egh1]
  have h2 : gh1 p = some (gO 6 [(v1), (v2), vi (rk), (v4), (v5)]) := by rw [egh1, gset_ne (gne hp0 ht (by simp))]; exact hp0
  have h3 : gh1 t = some (gO 9 [vi (0), vi (0), vi (0), .ref p, .null, vi (0), vi (0)]) := by rw [egh1]; exact gset_eq
  refine g_ald_n hC dX5_init_9 rfl ?_
  refine g_ald_n hC dX5_init_10 rfl ?_
  refine g_get hC dX5_init_11 gf_RX5_15 h2 rfl ?_
  refine g_putF hC hq (fs' := [vi (rk), vi (0), vi (0), .ref p, .null, vi (0), vi (0)]) dX5_init_14 gp_RX5_21 h3 ⟨rfl, rfl⟩ rfl (Nat.le_of_ble_eq_true rfl) ?_
  obtain ⟨gh4, egh4⟩ : ∃ g_, g_ = gset gh1 t (gO 9 [vi (rk), vi (0), vi (0), .ref p, .null, vi (0), vi (0)]) := ⟨_, rfl⟩
  rw [← egh4]
  have h5 : gh4 p = some (gO 6 [(v1), (v2), vi (rk), (v4), (v5)]) := by rw [egh4, gset_ne (gne h2 h3 (by simp))]; exact h2
  have h6 : gh4 t = some (gO 9 [vi (rk), vi (0), vi (0), .ref p, .null, vi (0), vi (0)]) := by rw [egh4]; exact gset_eq
  refine g_ald_n hC dX5_init_17 rfl ?_
  refine g_iload_n hC dX5_init_18 rfl ?_
  refine g_putF hC hq (fs' := [vi (rk), vi (co), vi (0), .ref p, .null, vi (0), vi (0)]) dX5_init_19 gp_RX5_22 h6 ⟨rfl, rfl⟩ rfl (Nat.le_of_ble_eq_true rfl) ?_
  obtain ⟨gh7, egh7⟩ : ∃ g_, g_ = gset gh4 t (gO 9 [vi (rk), vi (co), vi (0), .ref p, .null, vi (0), vi (0)]) := ⟨_, rfl⟩
  rw [← egh7]
  have h8 : gh7 p = some (gO 6 [(v1), (v2), vi (rk), (v4), (v5)]) := by rw [egh7, gset_ne (gne h5 h6 (by simp))]; exact h5
  have h9 : gh7 t = some (gO 9 [vi (rk), vi (co), vi (0), .ref p, .null, vi (0), vi (0)]) := by rw [egh7]; exact gset_eq
  refine g_ald_n hC dX5_init_22 rfl ?_
  refine g_iload_n hC dX5_init_23 rfl ?_
  refine g_putF hC hq (fs' := [vi (rk), vi (co), vi (ro), .ref p, .null, vi (0), vi (0)]) dX5_init_24 gp_RX5_25 h9 ⟨rfl, rfl⟩ rfl (Nat.le_of_ble_eq_true rfl) ?_
  obtain ⟨gh10, egh10⟩ : ∃ g_, g_ = gset gh7 t (gO 9 [vi (rk), vi (co), vi (ro), .ref p, .null, vi (0), vi (0)]) := ⟨_, rfl⟩
  rw [← egh10]
  have h11 : gh10 p = some (gO 6 [(v1), (v2), vi (rk), (v4), (v5)]) := by rw [egh10, gset_ne (gne h8 h9 (by simp))]; exact h8
  have h12 : gh10 t = some (gO 9 [vi (rk), vi (co), vi (ro), .ref p, .null, vi (0), vi (0)]) := by rw [egh10]; exact gset_eq
  refine g_ald_n hC dX5_init_27 rfl ?_
  refine g_null hC dX5_init_28 ?_
  refine g_put hC (fs' := [vi (rk), vi (co), vi (ro), .ref p, .null, vi (0), vi (0)]) dX5_init_29 gp_RX5_28 h12 ⟨rfl, rfl⟩ rfl (Nat.le_of_ble_eq_true rfl) ?_
  obtain ⟨gh13, egh13⟩ : ∃ g_, g_ = gset gh10 t (gO 9 [vi (rk), vi (co), vi (ro), .ref p, .null, vi (0), vi (0)]) := ⟨_, rfl⟩
  rw [← egh13]
  have h14 : gh13 p = some (gO 6 [(v1), (v2), vi (rk), (v4), (v5)]) := by rw [egh13, gset_ne (gne h11 h12 (by simp))]; exact h11
  have h15 : gh13 t = some (gO 9 [vi (rk), vi (co), vi (ro), .ref p, .null, vi (0), vi (0)]) := by rw [egh13]; exact gset_eq
  refine g_ald_n hC dX5_init_32 rfl ?_
  refine g_iconst hC dX5_init_33 rfl ?_
  refine g_put hC (fs' := [vi (rk), vi (co), vi (ro), .ref p, .null, vi ((-1)), vi (0)]) dX5_init_34 gp_RX5_32 h15 ⟨rfl, rfl⟩ rfl (Nat.le_of_ble_eq_true rfl) ?_
  obtain ⟨gh16, egh16⟩ : ∃ g_, g_ = gset gh13 t (gO 9 [vi (rk), vi (co), vi (ro), .ref p, .null, vi ((-1)), vi (0)]) := ⟨_, rfl⟩
  rw [← egh16]
  have h17 : gh16 p = some (gO 6 [(v1), (v2), vi (rk), (v4), (v5)]) := by rw [egh16, gset_ne (gne h14 h15 (by simp))]; exact h14
  have h18 : gh16 t = some (gO 9 [vi (rk), vi (co), vi (ro), .ref p, .null, vi ((-1)), vi (0)]) := by rw [egh16]; exact gset_eq
  refine g_ald_n hC dX5_init_37 rfl ?_
  refine g_iconst hC dX5_init_38 rfl ?_
  refine g_put hC (fs' := [vi (rk), vi (co), vi (ro), .ref p, .null, vi ((-1)), vi ((-1))]) dX5_init_39 gp_RX5_35 h18 ⟨rfl, rfl⟩ rfl (Nat.le_of_ble_eq_true rfl) ?_
  obtain ⟨gh19, egh19⟩ : ∃ g_, g_ = gset gh16 t (gO 9 [vi (rk), vi (co), vi (ro), .ref p, .null, vi ((-1)), vi ((-1))]) := ⟨_, rfl⟩
  rw [← egh19]
  have h20 : gh19 p = some (gO 6 [(v1), (v2), vi (rk), (v4), (v5)]) := by rw [egh19, gset_ne (gne h17 h18 (by simp))]; exact h17
  have h21 : gh19 t = some (gO 9 [vi (rk), vi (co), vi (ro), .ref p, .null, vi ((-1)), vi ((-1))]) := by rw [egh19]; exact gset_eq
  exact g_vret hC hq dX5_init_42 (by decide) (by decide) ⟨rfl, by rw [egh19, egh16, egh13, egh10, egh7, egh4, egh1, gset_set, gset_set, gset_set, gset_set, gset_set, gset_set]⟩

end C6
