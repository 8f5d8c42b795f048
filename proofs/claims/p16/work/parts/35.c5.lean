/-! the class: a place's name on a day; a spot takes it up -/
section C5
theorem gfit (v : Option Nat) {n : String} : narrow (.object n) (va_rf v) = va_rf v ∧ fits (.object n) (va_rf v) = true := by cases v <;> exact ⟨rfl, rfl⟩
/-- the last word whose day has come, among the first n -/
def wR (d : Nat → Int) (sp : Nat → Nat) (day : Int) : Nat → Option Nat
  | 0 => none
  | n + 1 => if d n ≤ day then some (sp n) else wR d sp day n
theorem wR_s (d : Nat → Int) (sp : Nat → Nat) (day : Int) (n : Nat) : wR d sp day (n + 1) = if d n ≤ day then some (sp n) else wR d sp day n := rfl
set_option maxHeartbeats 4000000 in
set_option maxRecDepth 100000 in
theorem kX2_wordOn {l : Launch} (hl : l.stackTraces = false) {D : gD} {base : Nat}  {p : Nat} {a c : Nat} {v1 v2 v3 : Value} {f : Nat → Option Nat} {q sp : Nat → Nat} {d : Nat → Int} (day : Int) (hday : -2147483648 ≤ day ∧ day < 2147483648) (hc : c ≤ 6) (gh : gH) (hp0 : gh p = some (gO 6 [(v1), (v2), (v3), .ref a, vi ((c : Int))])) (ha : gh a = some (gR 7 6 (f))) (hsp : ∀ j : Nat, j < c → f j = some (q j) ∧ gh (q j) = some (gO 8 [vi (d j), .ref (sp j)]) ∧ 0 ≤ d j ∧ d j ≤ 10000) : gM l D base yX2_wordOn cX2_wordOn 5 (some (Jvm.ClassFile.FieldType.object "java/lang/String")) 0 0 0 0 [.ref p, vi (day)] gh (fun r gh' => r = some (va_rf (wR d sp day c)) ∧ gh' = gh) gNo := by
  refine gM.of hl (by decide) (by simp [Value.category]) (Nat.le_of_ble_eq_true rfl) [some (.ref p), some (vi (day)), none, none, none] rfl (fun x hC hq => ?_)
  refine g_null hC dX2_wordOn_0 ?_
  refine g_astore_n (v := none) (lv' := [some (.ref p), some (vi (day)), some (.null), none, none]) hC dX2_wordOn_1 (by decide) rfl ?_
  refine g_iconst hC dX2_wordOn_2 rfl ?_
  refine g_istore_n (lv' := [some (.ref p), some (vi (day)), some (.null), some (vi (0)), none]) hC dX2_wordOn_3 (by decide) rfl ?_
  have lp : ∀ n : Nat, n ≤ c → gV x D base 5 4 [some (.ref p), some (vi (day)), some (va_rf (wR d sp day n)), some (vi ((n : Int))), none] [] (gh) (0) (0) := by
    refine g_for _ (fun n hn ih => ?_) ?_
    · have hqn := hsp n hn
      refine g_iload_n hC dX2_wordOn_4 rfl ?_
      refine g_ald_n hC dX2_wordOn_5 rfl ?_
      refine g_get hC dX2_wordOn_6 gf_RX2_27 hp0 rfl ?_
      refine g_icmp_ge (tgt := 55) hC dX2_wordOn_9 (by decide) (by omega) (by omega) (fun c_9 => False.elim (by omega)) (fun c_9 => ?_)
      refine g_iload_n hC dX2_wordOn_12 rfl ?_
      refine g_ald_n hC dX2_wordOn_13 rfl ?_
      refine g_get hC dX2_wordOn_14 gf_RX2_23 hp0 rfl ?_
      refine g_alenR hC dX2_wordOn_17 ha (by decide) ?_
      refine g_top (b := 6) rfl ?_
      refine g_icmp_ge (tgt := 55) hC dX2_wordOn_18 (by decide) (by omega) (by omega) (fun c_18 => False.elim (by omega)) (fun c_18 => ?_)
      refine g_ald_n hC dX2_wordOn_21 rfl ?_
      refine g_get hC dX2_wordOn_22 gf_RX2_23 hp0 rfl ?_
      refine g_iload_n hC dX2_wordOn_25 rfl ?_
      refine g_aaldK (v := some (q n)) hC (n) dX2_wordOn_26 ha (by decide) rfl (by omega) (by omega) (by decide) (hqn.1) ?_
      refine g_ast (lv' := [some (.ref p), some (vi (day)), some (va_rf (wR d sp day n)), some (vi ((n : Int))), some (.ref (q n))]) hC dX2_wordOn_27 (by decide) rfl ?_
      refine g_ald hC dX2_wordOn_29 rfl ?_
      refine g_ifnull_r hC dX2_wordOn_31 ?_
      refine g_ald hC dX2_wordOn_34 rfl ?_
      refine g_get hC dX2_wordOn_36 gf_RX2_30 hqn.2.1 rfl ?_
      refine g_iload_n hC dX2_wordOn_39 rfl ?_
      refine g_icmp_gt (tgt := 49) hC dX2_wordOn_40 (by decide) (by omega) (by omega) (fun hD => ?_) (fun hD => ?_)
      · refine g_iinc (lv' := [some (.ref p), some (vi (day)), some (va_rf (wR d sp day n)), some (vi ((n : Int) + 1)), some (.ref (q n))]) hC dX2_wordOn_49 (by decide) rfl rfl ?_
        refine g_goto (tgt := 4) hC dX2_wordOn_52 (by decide) ?_
        refine gV.drop (lv' := [some (.ref p), some (vi (day)), some (va_rf (wR d sp day n)), some (vi ((n : Int) + 1)), none]) (by intro k v hk; match k, hk with | 0, hk => exact hk | 1, hk => exact hk | 2, hk => exact hk | 3, hk => exact hk | 4, hk => exact absurd hk (by simp) | k + 5, hk => exact absurd hk (by simp)) ?_
        refine gV.eqs (lv' := [some (.ref p), some (vi (day)), some (va_rf (wR d sp day (n + 1))), some (vi ((((n + 1) : Nat) : Int))), none]) (lcons rfl (lcons rfl (lcons (by rw [wR_s, if_neg (by omega)]) (lcons (svi (by omega)) (lcons rfl rfl))))) rfl rfl ih
      · refine g_ald hC dX2_wordOn_43 rfl ?_
        refine g_get hC dX2_wordOn_45 gf_RX2_33 hqn.2.1 rfl ?_
        refine g_ast_n (lv' := [some (.ref p), some (vi (day)), some (.ref (sp n)), some (vi ((n : Int))), some (.ref (q n))]) hC dX2_wordOn_48 (by decide) rfl ?_
        refine g_iinc (lv' := [some (.ref p), some (vi (day)), some (.ref (sp n)), some (vi ((n : Int) + 1)), some (.ref (q n))]) hC dX2_wordOn_49 (by decide) rfl rfl ?_
        refine g_goto (tgt := 4) hC dX2_wordOn_52 (by decide) ?_
        refine gV.drop (lv' := [some (.ref p), some (vi (day)), some (.ref (sp n)), some (vi ((n : Int) + 1)), none]) (by intro k v hk; match k, hk with | 0, hk => exact hk | 1, hk => exact hk | 2, hk => exact hk | 3, hk => exact hk | 4, hk => exact absurd hk (by simp) | k + 5, hk => exact absurd hk (by simp)) ?_
        refine gV.eqs (lv' := [some (.ref p), some (vi (day)), some (va_rf (wR d sp day (n + 1))), some (vi ((((n + 1) : Nat) : Int))), none]) (lcons rfl (lcons rfl (lcons (by rw [wR_s, if_pos (by omega)]; rfl) (lcons (svi (by omega)) (lcons rfl rfl))))) rfl rfl ih
    · refine g_iload_n hC dX2_wordOn_4 rfl ?_
      refine g_ald_n hC dX2_wordOn_5 rfl ?_
      refine g_get hC dX2_wordOn_6 gf_RX2_27 hp0 rfl ?_
      refine g_icmp_ge (tgt := 55) hC dX2_wordOn_9 (by decide) (by omega) (by omega) (fun c_9 => ?_) (fun c_9 => False.elim (by omega))
      refine g_aload_n (v := wR d sp day c) hC dX2_wordOn_55 rfl ?_
      exact g_aret (v := wR d sp day c) hC hq (Or.inl ⟨_, rfl⟩) dX2_wordOn_56 (by decide) (by decide) ⟨rfl, rfl⟩
  refine gV.eqs (lv' := [some (.ref p), some (vi (day)), some (va_rf (wR d sp day 0)), some (vi (((0 : Nat) : Int))), none]) rfl rfl rfl (lp 0 (Nat.zero_le _))

set_option maxHeartbeats 4000000 in
set_option maxRecDepth 100000 in
theorem kX5_takeUp {l : Launch} (hl : l.stackTraces = false) {D : gD} {base : Nat}  {t p : Nat} {rk co ro sd ah : Int} {wv : Option Nat} {a c : Nat} {v1 v2 v3 : Value} {f : Nat → Option Nat} {q sp : Nat → Nat} {d : Nat → Int} (day : Int) (hday : -2147483648 ≤ day ∧ day < 2147483648) (hc : c ≤ 6) (gh : gH) (ht : gh t = some (gO 9 [vi (rk), vi (co), vi (ro), .ref p, va_rf (wv), vi (sd), vi (ah)])) (hp0 : gh p = some (gO 6 [(v1), (v2), (v3), .ref a, vi ((c : Int))])) (ha : gh a = some (gR 7 6 (f))) (hsp : ∀ j : Nat, j < c → f j = some (q j) ∧ gh (q j) = some (gO 8 [vi (d j), .ref (sp j)]) ∧ 0 ≤ d j ∧ d j ≤ 10000) : gM l D base yX5_takeUp cX5_takeUp 2 none 1 24 0 0 [.ref t, vi (day)] gh (fun r gh' => r = none ∧ gh' = gset gh t (gO 9 [vi rk, vi co, vi ro, .ref p, va_rf (wR d sp day c), vi (-1), vi sd])) gNo := by
  refine gM.of hl (by decide) (by simp [Value.category]) (Nat.le_of_ble_eq_true rfl) [some (.ref t), some (vi (day))] rfl (fun x hC hq => ?_)
  refine g_ald_n hC dX5_takeUp_0 rfl ?_
  refine g_ald_n hC dX5_takeUp_1 rfl ?_
  refine g_get hC dX5_takeUp_2 gf_RX5_9 ht rfl ?_
  refine g_iload_n hC dX5_takeUp_5 rfl ?_
  refine g_callV (rest := [.ref t]) hC (kX2_wordOn hl day hday hc gh hp0 ha hsp) gc_RX5_38 rfl hp0 rfl ⟨by decide, by decide⟩ ⟨by decide, by decide⟩ (Nat.le_of_ble_eq_true rfl) rfl dX5_takeUp_6 (fun r gh' hp => ?_)
  obtain ⟨rfl, hgh⟩ := hp
  rw [hgh]
  clear hgh
  refine gV.eqs (st' := [va_rf (wR d sp day c), .ref t]) rfl rfl rfl ?_
  refine g_put hC (fs' := [vi (rk), vi (co), vi (ro), .ref p, va_rf (wR d sp day c), vi (sd), vi (ah)]) dX5_takeUp_9 gp_RX5_28 ht (gfit _) rfl (Nat.le_of_ble_eq_true rfl) ?_
  obtain ⟨gh1, egh1⟩ : ∃ g_, g_ = gset gh t (gO 9 [vi (rk), vi (co), vi (ro), .ref p, va_rf (wR d sp day c), vi (sd), vi (ah)]) := ⟨_, rfl⟩
  rw [← egh1]
  have h2 : gh1 p = some (gO 6 [(v1), (v2), (v3), .ref a, vi ((c : Int))]) := by rw [egh1, gset_ne (gne hp0 ht (by simp))]; exact hp0
  have h3 : gh1 a = some (gR 7 6 (f)) := by rw [egh1, gset_ne (gne ha ht (by simp))]; exact ha
  have h4 : gh1 t = some (gO 9 [vi (rk), vi (co), vi (ro), .ref p, va_rf (wR d sp day c), vi (sd), vi (ah)]) := by rw [egh1]; exact gset_eq
  refine g_ald_n hC dX5_takeUp_12 rfl ?_
  refine g_ald_n hC dX5_takeUp_13 rfl ?_
  refine g_get hC dX5_takeUp_14 gf_RX5_32 h4 rfl ?_
  refine g_put hC (fs' := [vi (rk), vi (co), vi (ro), .ref p, va_rf (wR d sp day c), vi (sd), vi (sd)]) dX5_takeUp_17 gp_RX5_35 h4 ⟨rfl, rfl⟩ rfl (Nat.le_of_ble_eq_true rfl) ?_
  obtain ⟨gh5, egh5⟩ : ∃ g_, g_ = gset gh1 t (gO 9 [vi (rk), vi (co), vi (ro), .ref p, va_rf (wR d sp day c), vi (sd), vi (sd)]) := ⟨_, rfl⟩
  rw [← egh5]
  have h6 : gh5 p = some (gO 6 [(v1), (v2), (v3), .ref a, vi ((c : Int))]) := by rw [egh5, gset_ne (gne h2 h4 (by simp))]; exact h2
  have h7 : gh5 a = some (gR 7 6 (f)) := by rw [egh5, gset_ne (gne h3 h4 (by simp))]; exact h3
  have h8 : gh5 t = some (gO 9 [vi (rk), vi (co), vi (ro), .ref p, va_rf (wR d sp day c), vi (sd), vi (sd)]) := by rw [egh5]; exact gset_eq
  refine g_ald_n hC dX5_takeUp_20 rfl ?_
  refine g_iconst hC dX5_takeUp_21 rfl ?_
  refine g_put hC (fs' := [vi (rk), vi (co), vi (ro), .ref p, va_rf (wR d sp day c), vi ((-1)), vi (sd)]) dX5_takeUp_22 gp_RX5_32 h8 ⟨rfl, rfl⟩ rfl (Nat.le_of_ble_eq_true rfl) ?_
  obtain ⟨gh9, egh9⟩ : ∃ g_, g_ = gset gh5 t (gO 9 [vi (rk), vi (co), vi (ro), .ref p, va_rf (wR d sp day c), vi ((-1)), vi (sd)]) := ⟨_, rfl⟩
  rw [← egh9]
  have h10 : gh9 p = some (gO 6 [(v1), (v2), (v3), .ref a, vi ((c : Int))]) := by rw [egh9, gset_ne (gne h6 h8 (by simp))]; exact h6
  have h11 : gh9 a = some (gR 7 6 (f)) := by rw [egh9, gset_ne (gne h7 h8 (by simp))]; exact h7
  have h12 : gh9 t = some (gO 9 [vi (rk), vi (co), vi (ro), .ref p, va_rf (wR d sp day c), vi ((-1)), vi (sd)]) := by rw [egh9]; exact gset_eq
  exact g_vret hC hq dX5_takeUp_25 (by decide) (by decide) ⟨rfl, by rw [egh9, egh5, egh1, gset_set, gset_set]⟩

end C5
