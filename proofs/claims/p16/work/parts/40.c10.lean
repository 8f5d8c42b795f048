/-! the class: how many stand pushed; the worth of the names that stand; ranks from a name on -/
section C10
def pbN (sd ah : Nat → Int) (k : Int) : Nat → Int
  | 0 => 0
  | n + 1 => if (n : Int) ≠ k ∧ sd n ≠ ah n then pbN sd ah k n + 1 else pbN sd ah k n
theorem pbN_s (sd ah : Nat → Int) (k : Int) (n : Nat) : pbN sd ah k (n + 1) = if (n : Int) ≠ k ∧ sd n ≠ ah n then pbN sd ah k n + 1 else pbN sd ah k n := rfl
def wsN (F : Nat → Nat → Int) (sd : Nat → Int) (l : Nat → Nat) : Nat → Int
  | 0 => 0
  | n + 1 => if sd (l n) ≠ -1 then wsN F sd l n + F 6 (l n) else wsN F sd l n
theorem wsN_s (F : Nat → Nat → Int) (sd : Nat → Int) (l : Nat → Nat) (n : Nat) : wsN F sd l (n + 1) = if sd (l n) ≠ -1 then wsN F sd l n + F 6 (l n) else wsN F sd l n := rfl
set_option maxHeartbeats 4000000 in
set_option maxRecDepth 100000 in
theorem kX3_pushed {l : Launch} (hl : l.stackTraces = false) {D : gD} {base : Nat}  {sh ar s n : Nat} {f : Nat → Option Nat} {t : Nat → Nat} {F : Nat → Nat → Int} {pv wv : Nat → Value} {sd ah : Nat → Int} {w0 w1 w7 w8 : Value} (hn14 : n ≤ 14) (k : Int) (rk : -2147483648 ≤ k ∧ k < 2147483648) (hr : ∀ i : Nat, i < n → (-1 ≤ sd i ∧ sd i ≤ 3) ∧ -1 ≤ ah i ∧ ah i ≤ 3) (gh : gH) (hsh : gh sh = some (gO 7 [(w0), (w1), vi (F 12 s), vi (F 13 s), vi (F 14 s), .ref ar, vi ((n : Int)), (w7), (w8)])) (har : gh ar = some (gR 8 14 (f))) (hsp : ∀ i : Nat, i < n → f i = some (t i) ∧ gh (t i) = some (gO 9 [vi (F 6 i), vi (cN F s i), vi (rN F s i), pv i, wv i, vi (sd i), vi (ah i)])) : gM l D base yX3_pushedBeside cX3_pushedBeside 5 (some Jvm.ClassFile.FieldType.int) 1 20 0 0 [.ref sh, vi (k)] gh (fun r gh' => r = some (vi (pbN sd ah k n)) ∧ gh' = gh) gNo := by
  refine gM.of hl (by decide) (by simp [Value.category]) (Nat.le_of_ble_eq_true rfl) [some (.ref sh), some (vi (k)), none, none, none] rfl (fun x hC hq => ?_)
  refine g_iconst hC dX3_pushedBeside_0 rfl ?_
  refine g_istore_n (lv' := [some (.ref sh), some (vi (k)), some (vi (0)), none, none]) hC dX3_pushedBeside_1 (by decide) rfl ?_
  refine g_iconst hC dX3_pushedBeside_2 rfl ?_
  refine g_istore_n (lv' := [some (.ref sh), some (vi (k)), some (vi (0)), some (vi (0)), none]) hC dX3_pushedBeside_3 (by decide) rfl ?_
  have lp : ∀ m : Nat, m ≤ n → gV x D base 5 4 [some (.ref sh), some (vi (k)), some (vi (pbN sd ah k m)), some (vi ((m : Int))), none] [] (gh) (0) (0) := by
    refine g_for _ (fun m hn ih => ?_) ?_
    · have hqn := hsp m hn
      have hrg := hr m hn
      refine g_iload_n hC dX3_pushedBeside_4 rfl ?_
      refine g_ald_n hC dX3_pushedBeside_5 rfl ?_
      refine g_get hC dX3_pushedBeside_6 gf_RX3_40 hsh rfl ?_
      refine g_icmp_ge (tgt := 56) hC dX3_pushedBeside_9 (by decide) (by omega) (by omega) (fun c_9 => False.elim (by omega)) (fun c_9 => ?_)
      refine g_iload_n hC dX3_pushedBeside_12 rfl ?_
      refine g_ald_n hC dX3_pushedBeside_13 rfl ?_
      refine g_get hC dX3_pushedBeside_14 gf_RX3_33 hsh rfl ?_
      refine g_alenR hC dX3_pushedBeside_17 har (by decide) ?_
      refine g_top (b := 14) rfl ?_
      refine g_icmp_ge (tgt := 56) hC dX3_pushedBeside_18 (by decide) (by omega) (by omega) (fun c_18 => False.elim (by omega)) (fun c_18 => ?_)
      refine g_ald_n hC dX3_pushedBeside_21 rfl ?_
      refine g_get hC dX3_pushedBeside_22 gf_RX3_33 hsh rfl ?_
      refine g_iload_n hC dX3_pushedBeside_25 rfl ?_
      refine g_aaldK (v := some (t m)) hC (m) dX3_pushedBeside_26 har (by decide) rfl (by omega) (by omega) (by decide) (hqn.1) ?_
      refine g_ast (lv' := [some (.ref sh), some (vi (k)), some (vi (pbN sd ah k m)), some (vi ((m : Int))), some (.ref (t m))]) hC dX3_pushedBeside_27 (by decide) rfl ?_
      refine g_iload_n hC dX3_pushedBeside_29 rfl ?_
      refine g_iload_n hC dX3_pushedBeside_30 rfl ?_
      refine g_icmp_eq (tgt := 50) hC dX3_pushedBeside_31 (by decide) (by omega) (by omega) (fun hA => ?_) (fun hA => ?_)
      · refine g_iinc (lv' := [some (.ref sh), some (vi (k)), some (vi (pbN sd ah k m)), some (vi ((m : Int) + 1)), some (.ref (t m))]) hC dX3_pushedBeside_50 (by decide) rfl rfl ?_
        refine g_goto (tgt := 4) hC dX3_pushedBeside_53 (by decide) ?_
        refine gV.drop (lv' := [some (.ref sh), some (vi (k)), some (vi (pbN sd ah k m)), some (vi ((m : Int) + 1)), none]) (by intro k v hk; match k, hk with | 0, hk => exact hk | 1, hk => exact hk | 2, hk => exact hk | 3, hk => exact hk | 4, hk => exact absurd hk (by simp) | k + 5, hk => exact absurd hk (by simp)) ?_
        refine gV.eqs (lv' := [some (.ref sh), some (vi (k)), some (vi (pbN sd ah k (m + 1))), some (vi ((((m + 1) : Nat) : Int))), none]) (lcons rfl (lcons rfl (lcons (svi (by rw [pbN_s, if_neg (fun h => h.1 hA)])) (lcons (svi (by omega)) (lcons rfl rfl))))) rfl rfl ih
      · refine g_ald hC dX3_pushedBeside_34 rfl ?_
        refine g_ifnull_r hC dX3_pushedBeside_36 ?_
        refine g_ald hC dX3_pushedBeside_39 rfl ?_
        refine g_callV (rest := []) hC (kX5_isPushed hl hrg.1 hrg.2 gh hqn.2) gc_RX3_110 rfl hqn.2 rfl ⟨by decide, by decide⟩ ⟨by decide, by decide⟩ (Nat.le_of_ble_eq_true rfl) rfl dX3_pushedBeside_41 (fun r gh' hp => ?_)
        obtain ⟨rfl, hgh⟩ := hp
        rw [hgh]
        clear hgh
        refine gV.eqs (st' := [vi (b2i (decide (sd m ≠ ah m)))]) rfl rfl rfl ?_
        refine g_ifeq_b (tgt := 50) hC dX3_pushedBeside_44 (by decide)  (fun hB => ?_) (fun hB => ?_)
        · refine g_iinc (lv' := [some (.ref sh), some (vi (k)), some (vi (pbN sd ah k m)), some (vi ((m : Int) + 1)), some (.ref (t m))]) hC dX3_pushedBeside_50 (by decide) rfl rfl ?_
          refine g_goto (tgt := 4) hC dX3_pushedBeside_53 (by decide) ?_
          refine gV.drop (lv' := [some (.ref sh), some (vi (k)), some (vi (pbN sd ah k m)), some (vi ((m : Int) + 1)), none]) (by intro k v hk; match k, hk with | 0, hk => exact hk | 1, hk => exact hk | 2, hk => exact hk | 3, hk => exact hk | 4, hk => exact absurd hk (by simp) | k + 5, hk => exact absurd hk (by simp)) ?_
          refine gV.eqs (lv' := [some (.ref sh), some (vi (k)), some (vi (pbN sd ah k (m + 1))), some (vi ((((m + 1) : Nat) : Int))), none]) (lcons rfl (lcons rfl (lcons (svi (by rw [pbN_s, if_neg (fun h => of_decide_eq_false hB h.2)])) (lcons (svi (by omega)) (lcons rfl rfl))))) rfl rfl ih
        · refine g_iinc (lv' := [some (.ref sh), some (vi (k)), some (vi (pbN sd ah k m + 1)), some (vi ((m : Int))), some (.ref (t m))]) hC dX3_pushedBeside_47 (by decide) rfl rfl ?_
          refine g_iinc (lv' := [some (.ref sh), some (vi (k)), some (vi (pbN sd ah k m + 1)), some (vi ((m : Int) + 1)), some (.ref (t m))]) hC dX3_pushedBeside_50 (by decide) rfl rfl ?_
          refine g_goto (tgt := 4) hC dX3_pushedBeside_53 (by decide) ?_
          refine gV.drop (lv' := [some (.ref sh), some (vi (k)), some (vi (pbN sd ah k m + 1)), some (vi ((m : Int) + 1)), none]) (by intro k v hk; match k, hk with | 0, hk => exact hk | 1, hk => exact hk | 2, hk => exact hk | 3, hk => exact hk | 4, hk => exact absurd hk (by simp) | k + 5, hk => exact absurd hk (by simp)) ?_
          refine gV.eqs (lv' := [some (.ref sh), some (vi (k)), some (vi (pbN sd ah k (m + 1))), some (vi ((((m + 1) : Nat) : Int))), none]) (lcons rfl (lcons rfl (lcons (svi (by rw [pbN_s, if_pos ⟨hA, of_decide_eq_true hB⟩])) (lcons (svi (by omega)) (lcons rfl rfl))))) rfl rfl ih
    · refine g_iload_n hC dX3_pushedBeside_4 rfl ?_
      refine g_ald_n hC dX3_pushedBeside_5 rfl ?_
      refine g_get hC dX3_pushedBeside_6 gf_RX3_40 hsh rfl ?_
      refine g_icmp_ge (tgt := 56) hC dX3_pushedBeside_9 (by decide) (by omega) (by omega) (fun c_9 => ?_) (fun c_9 => False.elim (by omega))
      refine g_iload_n hC dX3_pushedBeside_56 rfl ?_
      exact g_iret hC hq dX3_pushedBeside_57 (by decide) (by decide) ⟨rfl, rfl⟩
  refine gV.eqs (lv' := [some (.ref sh), some (vi (k)), some (vi (pbN sd ah k 0)), some (vi (((0 : Nat) : Int))), none]) rfl rfl rfl (lp 0 (Nat.zero_le _))

set_option maxHeartbeats 4000000 in
set_option maxRecDepth 100000 in
theorem kX3_worth {l : Launch} (hl : l.stackTraces = false) {D : gD} {base : Nat}  {sh na s c : Nat} {N : Nat → Option Nat} {lo t : Nat → Nat} {F : Nat → Nat → Int} {pv wv : Nat → Value} {sd ah : Nat → Int} {w0 w1 w2 w3 w4 w5 w6 : Value} (hc : c ≤ 14) (hr : ∀ q : Nat, q < c → -1 ≤ sd (lo q) ∧ sd (lo q) ≤ 3) (gh : gH) (hsh : gh sh = some (gO 7 [(w0), (w1), (w2), (w3), (w4), (w5), (w6), .ref na, vi ((c : Int))])) (hna : gh na = some (gR 8 14 (N))) (hnp : ∀ q : Nat, q < c → N q = some (t (lo q)) ∧ gh (t (lo q)) = some (gO 9 [vi (F 6 (lo q)), vi (cN F s (lo q)), vi (rN F s (lo q)), pv (lo q), wv (lo q), vi (sd (lo q)), vi (ah (lo q))])) : gM l D base yX3_worthToday cX3_worthToday 4 (some Jvm.ClassFile.FieldType.int) 0 0 0 0 [.ref sh] gh (fun r gh' => r = some (vi (wsN F sd lo c)) ∧ gh' = gh) gNo := by
  refine gM.of hl (by decide) (by simp [Value.category]) (Nat.le_of_ble_eq_true rfl) [some (.ref sh), none, none, none] rfl (fun x hC hq => ?_)
  refine g_iconst hC dX3_worthToday_0 rfl ?_
  refine g_istore_n (lv' := [some (.ref sh), some (vi (0)), none, none]) hC dX3_worthToday_1 (by decide) rfl ?_
  refine g_iconst hC dX3_worthToday_2 rfl ?_
  refine g_istore_n (lv' := [some (.ref sh), some (vi (0)), some (vi (0)), none]) hC dX3_worthToday_3 (by decide) rfl ?_
  have lp : ∀ m : Nat, m ≤ c → gV x D base 4 4 [some (.ref sh), some (vi (wsN F sd lo m)), some (vi ((m : Int))), none] [] (gh) (0) (0) := by
    refine g_for _ (fun m hn ih => ?_) ?_
    · have hqn := hnp m hn
      have hrg := hr m hn
      refine g_iload_n hC dX3_worthToday_4 rfl ?_
      refine g_ald_n hC dX3_worthToday_5 rfl ?_
      refine g_get hC dX3_worthToday_6 gf_RX3_43 hsh rfl ?_
      refine g_icmp_ge (tgt := 53) hC dX3_worthToday_9 (by decide) (by omega) (by omega) (fun c_9 => False.elim (by omega)) (fun c_9 => ?_)
      refine g_iload_n hC dX3_worthToday_12 rfl ?_
      refine g_ald_n hC dX3_worthToday_13 rfl ?_
      refine g_get hC dX3_worthToday_14 gf_RX3_37 hsh rfl ?_
      refine g_alenR hC dX3_worthToday_17 hna (by decide) ?_
      refine g_top (b := 14) rfl ?_
      refine g_icmp_ge (tgt := 53) hC dX3_worthToday_18 (by decide) (by omega) (by omega) (fun c_18 => False.elim (by omega)) (fun c_18 => ?_)
      refine g_ald_n hC dX3_worthToday_21 rfl ?_
      refine g_get hC dX3_worthToday_22 gf_RX3_37 hsh rfl ?_
      refine g_iload_n hC dX3_worthToday_25 rfl ?_
      refine g_aaldK (v := some (t (lo m))) hC (m) dX3_worthToday_26 hna (by decide) rfl (by omega) (by omega) (by decide) (hqn.1) ?_
      refine g_ast_n (lv' := [some (.ref sh), some (vi (wsN F sd lo m)), some (vi ((m : Int))), some (.ref (t (lo m)))]) hC dX3_worthToday_27 (by decide) rfl ?_
      refine g_ald_n hC dX3_worthToday_28 rfl ?_
      refine g_ifnull_r hC dX3_worthToday_29 ?_
      refine g_ald_n hC dX3_worthToday_32 rfl ?_
      refine g_getN (host := RX6) (k := 5) hC dX3_worthToday_33 (show vwCl[9]? = some (RX5, TX5, 7) from rfl) gwu_9 (by decide) (List.mem_append_right _ (List.mem_of_getElem? (i := 484) (by decide +kernel))) hqn.2 rfl ?_
      refine g_iconst hC dX3_worthToday_36 rfl ?_
      refine g_icmp_eq (tgt := 47) hC dX3_worthToday_37 (by decide) (by omega) (by omega) (fun hA => ?_) (fun hA => ?_)
      · refine g_iinc (lv' := [some (.ref sh), some (vi (wsN F sd lo m)), some (vi ((m : Int) + 1)), some (.ref (t (lo m)))]) hC dX3_worthToday_47 (by decide) rfl rfl ?_
        refine g_goto (tgt := 4) hC dX3_worthToday_50 (by decide) ?_
        refine gV.drop (lv' := [some (.ref sh), some (vi (wsN F sd lo m)), some (vi ((m : Int) + 1)), none]) (by intro k v hk; match k, hk with | 0, hk => exact hk | 1, hk => exact hk | 2, hk => exact hk | 3, hk => exact absurd hk (by simp) | k + 4, hk => exact absurd hk (by simp)) ?_
        refine gV.eqs (lv' := [some (.ref sh), some (vi (wsN F sd lo (m + 1))), some (vi ((((m + 1) : Nat) : Int))), none]) (lcons rfl (lcons (svi (by rw [wsN_s, if_neg (fun h => h hA)])) (lcons (svi (by omega)) (lcons rfl rfl)))) rfl rfl ih
      · refine g_iload_n hC dX3_worthToday_40 rfl ?_
        refine g_ald_n hC dX3_worthToday_41 rfl ?_
        refine g_get hC dX3_worthToday_42 gf_RX3_87 hqn.2 rfl ?_
        refine g_iadd hC dX3_worthToday_45 ?_
        refine g_istore_n (lv' := [some (.ref sh), some (vi ((wsN F sd lo m) + (F 6 (lo m)))), some (vi ((m : Int))), some (.ref (t (lo m)))]) hC dX3_worthToday_46 (by decide) rfl ?_
        refine g_iinc (lv' := [some (.ref sh), some (vi ((wsN F sd lo m) + (F 6 (lo m)))), some (vi ((m : Int) + 1)), some (.ref (t (lo m)))]) hC dX3_worthToday_47 (by decide) rfl rfl ?_
        refine g_goto (tgt := 4) hC dX3_worthToday_50 (by decide) ?_
        refine gV.drop (lv' := [some (.ref sh), some (vi ((wsN F sd lo m) + (F 6 (lo m)))), some (vi ((m : Int) + 1)), none]) (by intro k v hk; match k, hk with | 0, hk => exact hk | 1, hk => exact hk | 2, hk => exact hk | 3, hk => exact absurd hk (by simp) | k + 4, hk => exact absurd hk (by simp)) ?_
        refine gV.eqs (lv' := [some (.ref sh), some (vi (wsN F sd lo (m + 1))), some (vi ((((m + 1) : Nat) : Int))), none]) (lcons rfl (lcons (svi (by rw [wsN_s, if_pos hA])) (lcons (svi (by omega)) (lcons rfl rfl)))) rfl rfl ih
    · refine g_iload_n hC dX3_worthToday_4 rfl ?_
      refine g_ald_n hC dX3_worthToday_5 rfl ?_
      refine g_get hC dX3_worthToday_6 gf_RX3_43 hsh rfl ?_
      refine g_icmp_ge (tgt := 53) hC dX3_worthToday_9 (by decide) (by omega) (by omega) (fun c_9 => ?_) (fun c_9 => False.elim (by omega))
      refine g_iload_n hC dX3_worthToday_53 rfl ?_
      exact g_iret hC hq dX3_worthToday_54 (by decide) (by decide) ⟨rfl, rfl⟩
  refine gV.eqs (lv' := [some (.ref sh), some (vi (wsN F sd lo 0)), some (vi (((0 : Nat) : Int))), none]) rfl rfl rfl (lp 0 (Nat.zero_le _))

end C10
