/-! the class: a place on a sheet -/
section C3
theorem rowAtN_r2 {r w : Int} (h : -1 ≤ r ∧ r ≤ 23) : -2 ≤ rowAtN r w ∧ rowAtN r w ≤ 24 := by
  unfold rowAtN
  split
  · omega
  · split <;> omega
theorem colAtN_r2 {c w n : Int} (h : -1 ≤ c ∧ c ≤ 39) (hn : 0 ≤ n ∧ n ≤ 8) : -9 ≤ colAtN c w n ∧ colAtN c w n ≤ 40 := by
  unfold colAtN
  split
  · omega
  · split <;> omega
set_option maxHeartbeats 4000000 in
set_option maxRecDepth 100000 in
theorem kX5_rowAt {l : Launch} (hl : l.stackTraces = false) {D : gD} {base : Nat}  {t : Nat} {rk co ro sd ah : Int} {pv wv : Value} (w : Int) (hw : 0 ≤ w ∧ w ≤ 3) (hro : -1 ≤ ro ∧ ro ≤ 23) (gh : gH) (ht : gh t = some (gO 9 [vi (rk), vi (co), vi (ro), (pv), (wv), vi (sd), vi (ah)]))  : gM l D base yX5_rowAt cX5_rowAt 2 (some Jvm.ClassFile.FieldType.int) 0 0 0 0 [.ref t, vi (w)] gh (fun r gh' => r = some (vi (rowAtN ro w)) ∧ gh' = gh) gNo := by
  refine gM.of hl (by decide) (by simp [Value.category]) (Nat.le_of_ble_eq_true rfl) [some (.ref t), some (vi (w))] rfl (fun x hC hq => ?_)
  refine g_iload_n hC dX5_rowAt_0 rfl ?_
  refine g_iconst hC dX5_rowAt_1 rfl ?_
  refine g_icmp_ne (tgt := 12) hC dX5_rowAt_2 (by decide) (by omega) (by omega) (fun c_2 => ?_) (fun c_2 => ?_)
  · refine g_iload_n hC dX5_rowAt_12 rfl ?_
    refine g_iconst hC dX5_rowAt_13 rfl ?_
    refine g_icmp_ne (tgt := 26) hC dX5_rowAt_14 (by decide) (by omega) (by omega) (fun c_14 => ?_) (fun c_14 => ?_)
    · refine g_ald_n hC dX5_rowAt_26 rfl ?_
      refine g_get hC dX5_rowAt_27 gf_RX5_25 ht rfl ?_
      refine g_top (b := rowAtN ro w) (by unfold rowAtN; (repeat' split) <;> omega) ?_
      exact g_iret hC hq dX5_rowAt_30 (by decide) (by decide) ⟨rfl, rfl⟩
    · refine g_ald_n hC dX5_rowAt_17 rfl ?_
      refine g_get hC dX5_rowAt_18 gf_RX5_25 ht rfl ?_
      refine g_iconst hC dX5_rowAt_21 rfl ?_
      refine g_isub hC dX5_rowAt_22 ?_
      refine g_goto (tgt := 30) hC dX5_rowAt_23 (by decide) ?_
      refine g_top (b := rowAtN ro w) (by unfold rowAtN; (repeat' split) <;> omega) ?_
      exact g_iret hC hq dX5_rowAt_30 (by decide) (by decide) ⟨rfl, rfl⟩
  · refine g_ald_n hC dX5_rowAt_5 rfl ?_
    refine g_get hC dX5_rowAt_6 gf_RX5_25 ht rfl ?_
    refine g_iconst hC dX5_rowAt_9 rfl ?_
    refine g_iadd hC dX5_rowAt_10 ?_
    refine g_top (b := rowAtN ro w) (by unfold rowAtN; (repeat' split) <;> omega) ?_
    exact g_iret hC hq dX5_rowAt_11 (by decide) (by decide) ⟨rfl, rfl⟩

set_option maxHeartbeats 4000000 in
set_option maxRecDepth 100000 in
theorem kX5_firstColumnAt {l : Launch} (hl : l.stackTraces = false) {D : gD} {base : Nat}  {t : Nat} {rk co ro sd ah : Int} {pv wv : Value} (w k : Int) (hw : 0 ≤ w ∧ w ≤ 3) (hk : 0 ≤ k ∧ k ≤ 8) (hco : -1 ≤ co ∧ co ≤ 39) (gh : gH) (ht : gh t = some (gO 9 [vi (rk), vi (co), vi (ro), (pv), (wv), vi (sd), vi (ah)]))  : gM l D base yX5_firstColumnAt cX5_firstColumnAt 3 (some Jvm.ClassFile.FieldType.int) 0 0 0 0 [.ref t, vi (w), vi (k)] gh (fun r gh' => r = some (vi (colAtN co w k)) ∧ gh' = gh) gNo := by
  refine gM.of hl (by decide) (by simp [Value.category]) (Nat.le_of_ble_eq_true rfl) [some (.ref t), some (vi (w)), some (vi (k))] rfl (fun x hC hq => ?_)
  refine g_iload_n hC dX5_firstColumnAt_0 rfl ?_
  refine g_if_ne (tgt := 11) hC dX5_firstColumnAt_1 (by decide) (by omega) (fun c_1 => ?_) (fun c_1 => ?_)
  · refine g_iload_n hC dX5_firstColumnAt_11 rfl ?_
    refine g_iconst hC dX5_firstColumnAt_12 rfl ?_
    refine g_icmp_ne (tgt := 25) hC dX5_firstColumnAt_13 (by decide) (by omega) (by omega) (fun c_13 => ?_) (fun c_13 => ?_)
    · refine g_ald_n hC dX5_firstColumnAt_25 rfl ?_
      refine g_get hC dX5_firstColumnAt_26 gf_RX5_22 ht rfl ?_
      refine g_iload_n hC dX5_firstColumnAt_29 rfl ?_
      refine g_iconst hC dX5_firstColumnAt_30 rfl ?_
      refine g_idiv hC dX5_firstColumnAt_31 (by omega) (by omega) ?_
      refine g_isub hC dX5_firstColumnAt_32 ?_
      refine g_top (b := colAtN co w k) (by unfold colAtN; (repeat' split) <;> omega) ?_
      exact g_iret hC hq dX5_firstColumnAt_33 (by decide) (by decide) ⟨rfl, rfl⟩
    · refine g_ald_n hC dX5_firstColumnAt_16 rfl ?_
      refine g_get hC dX5_firstColumnAt_17 gf_RX5_22 ht rfl ?_
      refine g_iload_n hC dX5_firstColumnAt_20 rfl ?_
      refine g_isub hC dX5_firstColumnAt_21 ?_
      refine g_goto (tgt := 33) hC dX5_firstColumnAt_22 (by decide) ?_
      refine g_top (b := colAtN co w k) (by unfold colAtN; (repeat' split) <;> omega) ?_
      exact g_iret hC hq dX5_firstColumnAt_33 (by decide) (by decide) ⟨rfl, rfl⟩
  · refine g_ald_n hC dX5_firstColumnAt_4 rfl ?_
    refine g_get hC dX5_firstColumnAt_5 gf_RX5_22 ht rfl ?_
    refine g_iconst hC dX5_firstColumnAt_8 rfl ?_
    refine g_iadd hC dX5_firstColumnAt_9 ?_
    refine g_top (b := colAtN co w k) (by unfold colAtN; (repeat' split) <;> omega) ?_
    exact g_iret hC hq dX5_firstColumnAt_10 (by decide) (by decide) ⟨rfl, rfl⟩

set_option maxHeartbeats 4000000 in
set_option maxRecDepth 100000 in
theorem kX5_isOnSheet {l : Launch} (hl : l.stackTraces = false) {D : gD} {base : Nat}  {t : Nat} {rk co ro sd ah : Int} {pv wv : Value} (hco : -1 ≤ co ∧ co ≤ 39) (gh : gH) (ht : gh t = some (gO 9 [vi (rk), vi (co), vi (ro), (pv), (wv), vi (sd), vi (ah)]))  : gM l D base yX5_isOnSheet cX5_isOnSheet 1 (some Jvm.ClassFile.FieldType.boolean) 0 0 0 0 [.ref t] gh (fun r gh' => r = some (vi (b2i (decide (co ≠ -1)))) ∧ gh' = gh) gNo := by
  refine gM.of hl (by decide) (by simp [Value.category]) (Nat.le_of_ble_eq_true rfl) [some (.ref t)] rfl (fun x hC hq => ?_)
  refine g_ald_n hC dX5_isOnSheet_0 rfl ?_
  refine g_get hC dX5_isOnSheet_1 gf_RX5_22 ht rfl ?_
  refine g_iconst hC dX5_isOnSheet_4 rfl ?_
  refine g_icmp_eq (tgt := 12) hC dX5_isOnSheet_5 (by decide) (by omega) (by omega) (fun c_5 => ?_) (fun c_5 => ?_)
  · refine g_iconst hC dX5_isOnSheet_12 rfl ?_
    refine g_top (b := b2i (decide (co ≠ -1))) (b2i_f (by simp; omega)) ?_
    exact g_bret hC hq dX5_isOnSheet_13 (by decide) (by decide) ⟨rfl, rfl⟩
  · refine g_iconst hC dX5_isOnSheet_8 rfl ?_
    refine g_goto (tgt := 13) hC dX5_isOnSheet_9 (by decide) ?_
    refine g_top (b := b2i (decide (co ≠ -1))) (b2i_t (by simp; omega)) ?_
    exact g_bret hC hq dX5_isOnSheet_13 (by decide) (by decide) ⟨rfl, rfl⟩

set_option maxHeartbeats 4000000 in
set_option maxRecDepth 100000 in
theorem kX5_isPushed {l : Launch} (hl : l.stackTraces = false) {D : gD} {base : Nat}  {t : Nat} {rk co ro sd ah : Int} {pv wv : Value} (hsd : -1 ≤ sd ∧ sd ≤ 3) (hah : -1 ≤ ah ∧ ah ≤ 3) (gh : gH) (ht : gh t = some (gO 9 [vi (rk), vi (co), vi (ro), (pv), (wv), vi (sd), vi (ah)]))  : gM l D base yX5_isPushed cX5_isPushed 1 (some Jvm.ClassFile.FieldType.boolean) 0 0 0 0 [.ref t] gh (fun r gh' => r = some (vi (b2i (decide (sd ≠ ah)))) ∧ gh' = gh) gNo := by
  refine gM.of hl (by decide) (by simp [Value.category]) (Nat.le_of_ble_eq_true rfl) [some (.ref t)] rfl (fun x hC hq => ?_)
  refine g_ald_n hC dX5_isPushed_0 rfl ?_
  refine g_get hC dX5_isPushed_1 gf_RX5_32 ht rfl ?_
  refine g_ald_n hC dX5_isPushed_4 rfl ?_
  refine g_get hC dX5_isPushed_5 gf_RX5_35 ht rfl ?_
  refine g_icmp_eq (tgt := 15) hC dX5_isPushed_8 (by decide) (by omega) (by omega) (fun c_8 => ?_) (fun c_8 => ?_)
  · refine g_iconst hC dX5_isPushed_15 rfl ?_
    refine g_top (b := b2i (decide (sd ≠ ah))) (b2i_f (by simp; omega)) ?_
    exact g_bret hC hq dX5_isPushed_16 (by decide) (by decide) ⟨rfl, rfl⟩
  · refine g_iconst hC dX5_isPushed_11 rfl ?_
    refine g_goto (tgt := 16) hC dX5_isPushed_12 (by decide) ?_
    refine g_top (b := b2i (decide (sd ≠ ah))) (b2i_t (by simp; omega)) ?_
    exact g_bret hC hq dX5_isPushed_16 (by decide) (by decide) ⟨rfl, rfl⟩

set_option maxHeartbeats 4000000 in
set_option maxRecDepth 100000 in
theorem kX5_isNamed {l : Launch} (hl : l.stackTraces = false) {D : gD} {base : Nat}  {t : Nat} {rk co ro sd ah : Int} {pv : Value} {wo : Option Nat} (hco : -1 ≤ co ∧ co ≤ 39) (gh : gH) (ht : gh t = some (gO 9 [vi (rk), vi (co), vi (ro), (pv), va_rf (wo), vi (sd), vi (ah)]))  : gM l D base yX5_isNamed cX5_isNamed 1 (some Jvm.ClassFile.FieldType.boolean) 1 20 0 0 [.ref t] gh (fun r gh' => r = some (vi (b2i (decide (co ≠ -1) && wo.isSome))) ∧ gh' = gh) gNo := by
  refine gM.of hl (by decide) (by simp [Value.category]) (Nat.le_of_ble_eq_true rfl) [some (.ref t)] rfl (fun x hC hq => ?_)
  refine g_ald_n hC dX5_isNamed_0 rfl ?_
  refine g_callV (rest := []) hC (kX5_isOnSheet hl hco gh ht) gc_RX5_42 rfl ht rfl ⟨by decide, by decide⟩ ⟨by decide, by decide⟩ (Nat.le_of_ble_eq_true rfl) rfl dX5_isNamed_1 (fun r gh' hp => ?_)
  obtain ⟨rfl, hgh⟩ := hp
  rw [hgh]
  clear hgh
  refine gV.eqs (st' := [vi (b2i (decide (co ≠ -1)))]) rfl rfl rfl ?_
  refine g_ifeq_b (tgt := 18) hC dX5_isNamed_4 (by decide)  (fun c_4 => ?_) (fun c_4 => ?_)
  · refine g_iconst hC dX5_isNamed_18 rfl ?_
    refine g_top (b := b2i (decide (co ≠ -1) && wo.isSome)) (b2i_f (by simp [c_4]))  ?_
    exact g_bret hC hq dX5_isNamed_19 (by decide) (by decide) ⟨rfl, rfl⟩
  · refine g_ald_n hC dX5_isNamed_7 rfl ?_
    refine g_get hC dX5_isNamed_8 gf_RX5_28 ht rfl ?_
    refine g_ifnull (tgt := 18) hC dX5_isNamed_11 (by decide) (fun c_11 => ?_) (fun a_11 c_11 => ?_)
    · refine g_iconst hC dX5_isNamed_18 rfl ?_
      refine g_top (b := b2i (decide (co ≠ -1) && wo.isSome)) (b2i_f (by simp [c_4, c_11]))  ?_
      exact g_bret hC hq dX5_isNamed_19 (by decide) (by decide) ⟨rfl, rfl⟩
    · refine g_iconst hC dX5_isNamed_14 rfl ?_
      refine g_goto (tgt := 19) hC dX5_isNamed_15 (by decide) ?_
      refine g_top (b := b2i (decide (co ≠ -1) && wo.isSome)) (b2i_t (by simp [c_4, c_11]))  ?_
      exact g_bret hC hq dX5_isNamed_19 (by decide) (by decide) ⟨rfl, rfl⟩

set_option maxHeartbeats 4000000 in
set_option maxRecDepth 100000 in
theorem kX5_mayStand {l : Launch} (hl : l.stackTraces = false) {D : gD} {base : Nat}  {t : Nat} {rk co ro sd ah : Int} {pv : Value} {g s wa b : Nat} {h0 z0 : Value} {P L : Nat → Int} (k : Nat) (w : Int) (hw : 0 ≤ w ∧ w ≤ 3) (hk : 1 ≤ k ∧ k ≤ 8) (hro : -1 ≤ ro ∧ ro ≤ 23) (hco : -1 ≤ co ∧ co ≤ 39) (hP : Pok P) (gh : gH) (ht : gh t = some (gO 9 [vi (rk), vi (co), vi (ro), (pv), .ref wa, vi (sd), vi (ah)])) (hg : gh g = some (gO 5 [.ref s])) (hs : gh s = some (gI 0 960 (P))) (hwd : gh wa = some (gO 0 [.ref b, vi (0), (h0), (z0)])) (hb : gh b = some (gI 2 k (L)))  : gM l D base yX5_mayStand cX5_mayStand 4 (some Jvm.ClassFile.FieldType.boolean) 4 89 0 0 [.ref t, .ref g, vi (w)] gh (fun r gh' => r = some (vi (b2i (mayB P (rowAtN ro w) (colAtN co w k) k))) ∧ gh' = gh) gNo := by
  refine gM.of hl (by decide) (by simp [Value.category]) (Nat.le_of_ble_eq_true rfl) [some (.ref t), some (.ref g), some (vi (w)), none] rfl (fun x hC hq => ?_)
  have r1 := rowAtN_r2 (w := w) hro
  have r2 := colAtN_r2 (w := w) (n := (k : Int)) hco (by omega)
  refine g_ald_n hC dX5_mayStand_0 rfl ?_
  refine g_get hC dX5_mayStand_1 gf_RX5_28 ht rfl ?_
  refine g_ifnonnull_r (tgt := 9) hC dX5_mayStand_4 (by decide) ?_
  refine g_ald_n hC dX5_mayStand_9 rfl ?_
  refine g_get hC dX5_mayStand_10 gf_RX5_28 ht rfl ?_
  refine g_callV (rest := []) hC (kJ0_length hl  gh hwd hb) gc_RX5_46 rfl hwd rfl ⟨by decide, by decide⟩ ⟨by decide, by decide⟩ (Nat.le_of_ble_eq_true rfl) rfl dX5_mayStand_13 (fun r gh' hp => ?_)
  obtain ⟨rfl, hgh⟩ := hp
  rw [hgh]
  clear hgh
  refine gV.eqs (st' := [vi ((k : Int))]) rfl rfl rfl ?_
  refine g_istore_n (lv' := [some (.ref t), some (.ref g), some (vi (w)), some (vi ((k : Int)))]) hC dX5_mayStand_16 (by decide) rfl ?_
  refine g_ald_n hC dX5_mayStand_17 rfl ?_
  refine g_ald_n hC dX5_mayStand_18 rfl ?_
  refine g_iload_n hC dX5_mayStand_19 rfl ?_
  refine g_callV (rest := [.ref g]) hC (kX5_rowAt hl w hw hro gh ht) gc_RX5_52 rfl ht rfl ⟨by decide, by decide⟩ ⟨by decide, by decide⟩ (Nat.le_of_ble_eq_true rfl) rfl dX5_mayStand_20 (fun r gh' hp => ?_)
  obtain ⟨rfl, hgh⟩ := hp
  rw [hgh]
  clear hgh
  refine gV.eqs (st' := [vi (rowAtN ro w), .ref g]) rfl rfl rfl ?_
  refine g_ald_n hC dX5_mayStand_23 rfl ?_
  refine g_iload_n hC dX5_mayStand_24 rfl ?_
  refine g_iload_n hC dX5_mayStand_25 rfl ?_
  refine g_callV (rest := [vi (rowAtN ro w), .ref g]) hC (kX5_firstColumnAt hl w k hw (by omega) hco gh ht) gc_RX5_56 rfl ht rfl ⟨by decide, by decide⟩ ⟨by decide, by decide⟩ (Nat.le_of_ble_eq_true rfl) rfl dX5_mayStand_26 (fun r gh' hp => ?_)
  obtain ⟨rfl, hgh⟩ := hp
  rw [hgh]
  clear hgh
  refine gV.eqs (st' := [vi (colAtN co w k), vi (rowAtN ro w), .ref g]) rfl rfl rfl ?_
  refine g_iload_n hC dX5_mayStand_29 rfl ?_
  refine g_callV (rest := []) hC (kX1_isFree hl hP (rowAtN ro w) (colAtN co w k) k (by omega) (by omega) (by omega) gh hg hs) gc_RX5_60 rfl hg rfl ⟨by decide, by decide⟩ ⟨by decide, by decide⟩ (Nat.le_of_ble_eq_true rfl) rfl dX5_mayStand_30 (fun r gh' hp => ?_)
  obtain ⟨rfl, hgh⟩ := hp
  rw [hgh]
  clear hgh
  refine gV.eqs (st' := [vi (b2i (freeG P (rowAtN ro w) (colAtN co w k) k))]) rfl rfl rfl ?_
  exact g_bret hC hq dX5_mayStand_33 (by decide) (by decide) ⟨by rw [freeG_may hk.1], rfl⟩

set_option maxHeartbeats 4000000 in
set_option maxRecDepth 100000 in
theorem kX5_write {l : Launch} (hl : l.stackTraces = false) {D : gD} {base : Nat}  {t : Nat} {rk co ro sd ah : Int} {pv : Value} {g s wa b : Nat} {h0 z0 : Value} {P L : Nat → Int} (k : Nat) (w : Int) (hw : 0 ≤ w ∧ w ≤ 3) (hk : 1 ≤ k ∧ k ≤ 8) (hro : -1 ≤ ro ∧ ro ≤ 23) (hco : -1 ≤ co ∧ co ≤ 39) (hlet : ∀ t, t < k → 97 ≤ L t ∧ L t ≤ 122) (hfit : fitB (rowAtN ro w) (colAtN co w k) k = true) (gh : gH) (ht : gh t = some (gO 9 [vi (rk), vi (co), vi (ro), (pv), .ref wa, vi (sd), vi (ah)])) (hg : gh g = some (gO 5 [.ref s])) (hs : gh s = some (gI 0 960 (P))) (hwd : gh wa = some (gO 0 [.ref b, vi (0), (h0), (z0)])) (hb : gh b = some (gI 2 k (L)))  : gM l D base yX5_write cX5_write 3 none 5 109 0 0 [.ref t, .ref g, vi (w)] gh (fun r gh' => r = none ∧ gh' = gset gh s (gI 0 960 (putN P (40 * rowAtN ro w + colAtN co w k).toNat L k))) gNo := by
  refine gM.of hl (by decide) (by simp [Value.category]) (Nat.le_of_ble_eq_true rfl) [some (.ref t), some (.ref g), some (vi (w))] rfl (fun x hC hq => ?_)
  have r1 := rowAtN_r2 (w := w) hro
  have r2 := colAtN_r2 (w := w) (n := (k : Int)) hco (by omega)
  refine g_ald_n hC dX5_write_0 rfl ?_
  refine g_get hC dX5_write_1 gf_RX5_28 ht rfl ?_
  refine g_ifnull_r hC dX5_write_4 ?_
  refine g_ald_n hC dX5_write_7 rfl ?_
  refine g_ald_n hC dX5_write_8 rfl ?_
  refine g_iload_n hC dX5_write_9 rfl ?_
  refine g_callV (rest := [.ref g]) hC (kX5_rowAt hl w hw hro gh ht) gc_RX5_52 rfl ht rfl ⟨by decide, by decide⟩ ⟨by decide, by decide⟩ (Nat.le_of_ble_eq_true rfl) rfl dX5_write_10 (fun r gh' hp => ?_)
  obtain ⟨rfl, hgh⟩ := hp
  rw [hgh]
  clear hgh
  refine gV.eqs (st' := [vi (rowAtN ro w), .ref g]) rfl rfl rfl ?_
  refine g_ald_n hC dX5_write_13 rfl ?_
  refine g_iload_n hC dX5_write_14 rfl ?_
  refine g_ald_n hC dX5_write_15 rfl ?_
  refine g_get hC dX5_write_16 gf_RX5_28 ht rfl ?_
  refine g_callV (rest := [vi (w), .ref t, vi (rowAtN ro w), .ref g]) hC (kJ0_length hl  gh hwd hb) gc_RX5_46 rfl hwd rfl ⟨by decide, by decide⟩ ⟨by decide, by decide⟩ (Nat.le_of_ble_eq_true rfl) rfl dX5_write_19 (fun r gh' hp => ?_)
  obtain ⟨rfl, hgh⟩ := hp
  rw [hgh]
  clear hgh
  refine gV.eqs (st' := [vi ((k : Int)), vi (w), .ref t, vi (rowAtN ro w), .ref g]) rfl rfl rfl ?_
  refine g_callV (rest := [vi (rowAtN ro w), .ref g]) hC (kX5_firstColumnAt hl w k hw (by omega) hco gh ht) gc_RX5_56 rfl ht rfl ⟨by decide, by decide⟩ ⟨by decide, by decide⟩ (Nat.le_of_ble_eq_true rfl) rfl dX5_write_22 (fun r gh' hp => ?_)
  obtain ⟨rfl, hgh⟩ := hp
  rw [hgh]
  clear hgh
  refine gV.eqs (st' := [vi (colAtN co w k), vi (rowAtN ro w), .ref g]) rfl rfl rfl ?_
  refine g_ald_n hC dX5_write_25 rfl ?_
  refine g_get hC dX5_write_26 gf_RX5_28 ht rfl ?_
  refine g_callV (rest := []) hC (kX1_write hl (rowAtN ro w) (colAtN co w k) k (by omega) (by omega) (by omega) hlet hfit gh hg hs hwd hb) gc_RX5_66 rfl hg rfl ⟨by decide, by decide⟩ ⟨by decide, by decide⟩ (Nat.le_of_ble_eq_true rfl) rfl dX5_write_29 (fun r gh' hp => ?_)
  obtain ⟨rfl, hgh⟩ := hp
  rw [hgh]
  clear hgh
  refine gV.eqs (st' := []) rfl rfl rfl ?_
  exact g_vret hC hq dX5_write_32 (by decide) (by decide) ⟨rfl, rfl⟩

set_option maxHeartbeats 4000000 in
set_option maxRecDepth 100000 in
theorem kX5_erase {l : Launch} (hl : l.stackTraces = false) {D : gD} {base : Nat}  {t : Nat} {rk co ro sd ah : Int} {pv : Value} {g s wa b : Nat} {h0 z0 : Value} {P L : Nat → Int} (k : Nat) (w : Int) (hw : 0 ≤ w ∧ w ≤ 3) (hk : 1 ≤ k ∧ k ≤ 8) (hro : -1 ≤ ro ∧ ro ≤ 23) (hco : -1 ≤ co ∧ co ≤ 39) (hfit : fitB (rowAtN ro w) (colAtN co w k) k = true) (gh : gH) (ht : gh t = some (gO 9 [vi (rk), vi (co), vi (ro), (pv), .ref wa, vi (sd), vi (ah)])) (hg : gh g = some (gO 5 [.ref s])) (hs : gh s = some (gI 0 960 (P))) (hwd : gh wa = some (gO 0 [.ref b, vi (0), (h0), (z0)])) (hb : gh b = some (gI 2 k (L)))  : gM l D base yX5_erase cX5_erase 4 none 4 90 0 0 [.ref t, .ref g, vi (w)] gh (fun r gh' => r = none ∧ gh' = gset gh s (gI 0 960 (putN P (40 * rowAtN ro w + colAtN co w k).toNat (fun _ => 46) k))) gNo := by
  refine gM.of hl (by decide) (by simp [Value.category]) (Nat.le_of_ble_eq_true rfl) [some (.ref t), some (.ref g), some (vi (w)), none] rfl (fun x hC hq => ?_)
  have r1 := rowAtN_r2 (w := w) hro
  have r2 := colAtN_r2 (w := w) (n := (k : Int)) hco (by omega)
  refine g_ald_n hC dX5_erase_0 rfl ?_
  refine g_get hC dX5_erase_1 gf_RX5_28 ht rfl ?_
  refine g_ifnull_r hC dX5_erase_4 ?_
  refine g_ald_n hC dX5_erase_7 rfl ?_
  refine g_get hC dX5_erase_8 gf_RX5_28 ht rfl ?_
  refine g_callV (rest := []) hC (kJ0_length hl  gh hwd hb) gc_RX5_46 rfl hwd rfl ⟨by decide, by decide⟩ ⟨by decide, by decide⟩ (Nat.le_of_ble_eq_true rfl) rfl dX5_erase_11 (fun r gh' hp => ?_)
  obtain ⟨rfl, hgh⟩ := hp
  rw [hgh]
  clear hgh
  refine gV.eqs (st' := [vi ((k : Int))]) rfl rfl rfl ?_
  refine g_istore_n (lv' := [some (.ref t), some (.ref g), some (vi (w)), some (vi ((k : Int)))]) hC dX5_erase_14 (by decide) rfl ?_
  refine g_ald_n hC dX5_erase_15 rfl ?_
  refine g_ald_n hC dX5_erase_16 rfl ?_
  refine g_iload_n hC dX5_erase_17 rfl ?_
  refine g_callV (rest := [.ref g]) hC (kX5_rowAt hl w hw hro gh ht) gc_RX5_52 rfl ht rfl ⟨by decide, by decide⟩ ⟨by decide, by decide⟩ (Nat.le_of_ble_eq_true rfl) rfl dX5_erase_18 (fun r gh' hp => ?_)
  obtain ⟨rfl, hgh⟩ := hp
  rw [hgh]
  clear hgh
  refine gV.eqs (st' := [vi (rowAtN ro w), .ref g]) rfl rfl rfl ?_
  refine g_ald_n hC dX5_erase_21 rfl ?_
  refine g_iload_n hC dX5_erase_22 rfl ?_
  refine g_iload_n hC dX5_erase_23 rfl ?_
  refine g_callV (rest := [vi (rowAtN ro w), .ref g]) hC (kX5_firstColumnAt hl w k hw (by omega) hco gh ht) gc_RX5_56 rfl ht rfl ⟨by decide, by decide⟩ ⟨by decide, by decide⟩ (Nat.le_of_ble_eq_true rfl) rfl dX5_erase_24 (fun r gh' hp => ?_)
  obtain ⟨rfl, hgh⟩ := hp
  rw [hgh]
  clear hgh
  refine gV.eqs (st' := [vi (colAtN co w k), vi (rowAtN ro w), .ref g]) rfl rfl rfl ?_
  refine g_iload_n hC dX5_erase_27 rfl ?_
  refine g_callV (rest := []) hC (kX1_erase hl (rowAtN ro w) (colAtN co w k) k (by omega) (by omega) (by omega) hfit gh hg hs) gc_RX5_70 rfl hg rfl ⟨by decide, by decide⟩ ⟨by decide, by decide⟩ (Nat.le_of_ble_eq_true rfl) rfl dX5_erase_28 (fun r gh' hp => ?_)
  obtain ⟨rfl, hgh⟩ := hp
  rw [hgh]
  clear hgh
  refine gV.eqs (st' := []) rfl rfl rfl ?_
  exact g_vret hC hq dX5_erase_31 (by decide) (by decide) ⟨rfl, rfl⟩

end C3
