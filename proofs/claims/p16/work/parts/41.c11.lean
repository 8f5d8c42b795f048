/-! the class: ranks from a name on -/
section C11
def rsN (F : Nat → Nat → Int) (lo : Nat → Nat) (nx : Nat) : Nat → Int
  | 0 => 0
  | n + 1 => rsN F lo nx n + F 6 (lo (nx + n))
theorem rsN_s (F : Nat → Nat → Int) (lo : Nat → Nat) (nx n : Nat) : rsN F lo nx (n + 1) = rsN F lo nx n + F 6 (lo (nx + n)) := rfl
set_option maxHeartbeats 4000000 in
set_option maxRecDepth 100000 in
theorem kX3_ranksFrom {l : Launch} (hl : l.stackTraces = false) {D : gD} {base : Nat}  {na s c : Nat} {N : Nat → Option Nat} {lo t : Nat → Nat} {F : Nat → Nat → Int} {pv wv : Nat → Value} {sd ah : Nat → Int} (nx : Nat) (hc : c ≤ 14) (hx : nx ≤ c) (gh : gH) (hna : gh na = some (gR 8 14 (N))) (hnp : ∀ q : Nat, q < c → N q = some (t (lo q)) ∧ gh (t (lo q)) = some (gO 9 [vi (F 6 (lo q)), vi (cN F s (lo q)), vi (rN F s (lo q)), pv (lo q), wv (lo q), vi (sd (lo q)), vi (ah (lo q))])) : gM l D base yX3_ranksFrom cX3_ranksFrom 6 (some Jvm.ClassFile.FieldType.int) 1 40 0 0 [.ref na, vi ((c : Int)), vi ((nx : Int))] gh (fun r gh' => r = some (vi (rsN F lo nx (c - nx))) ∧ gh' = gh) gNo := by
  refine gM.of hl (by decide) (by simp [Value.category]) (Nat.le_of_ble_eq_true rfl) [some (.ref na), some (vi ((c : Int))), some (vi ((nx : Int))), none, none, none] rfl (fun x hC hq => ?_)
  refine g_iconst hC dX3_ranksFrom_0 rfl ?_
  refine g_istore_n (lv' := [some (.ref na), some (vi ((c : Int))), some (vi ((nx : Int))), some (vi (0)), none, none]) hC dX3_ranksFrom_1 (by decide) rfl ?_
  refine g_iload_n hC dX3_ranksFrom_2 rfl ?_
  refine g_iconst hC dX3_ranksFrom_3 rfl ?_
  refine g_max hC gmx_RX3 gmx_s gmx_i gmx_c (by decide) (Nat.le_of_ble_eq_true rfl) (by decide) (by decide) (by omega) (by omega) dX3_ranksFrom_4 ?_
  refine g_top (b := (nx : Int)) (by omega) ?_
  refine g_istore (lv' := [some (.ref na), some (vi ((c : Int))), some (vi ((nx : Int))), some (vi (0)), some (vi ((nx : Int))), none]) hC dX3_ranksFrom_7 (by decide) rfl ?_
  have lp : ∀ m : Nat, m ≤ (c - nx) → gV x D base 6 9 [some (.ref na), some (vi ((c : Int))), some (vi ((nx : Int))), some (vi (rsN F lo nx m)), some (vi ((nx : Int) + (m : Int))), none] [] (gh) (0) (0) := by
    refine g_for _ (fun m hn ih => ?_) ?_
    · have hqn := hnp (nx + m) (by omega)
      refine g_iload hC dX3_ranksFrom_9 rfl ?_
      refine g_iload_n hC dX3_ranksFrom_11 rfl ?_
      refine g_icmp_ge (tgt := 47) hC dX3_ranksFrom_12 (by decide) (by omega) (by omega) (fun c_12 => False.elim (by omega)) (fun c_12 => ?_)
      refine g_iload hC dX3_ranksFrom_15 rfl ?_
      refine g_ald_n hC dX3_ranksFrom_17 rfl ?_
      refine g_alenR hC dX3_ranksFrom_18 hna (by decide) ?_
      refine g_top (b := 14) rfl ?_
      refine g_icmp_ge (tgt := 47) hC dX3_ranksFrom_19 (by decide) (by omega) (by omega) (fun c_19 => False.elim (by omega)) (fun c_19 => ?_)
      refine g_ald_n hC dX3_ranksFrom_22 rfl ?_
      refine g_iload hC dX3_ranksFrom_23 rfl ?_
      refine g_aaldK (v := some (t (lo (nx + m)))) hC (nx + m) dX3_ranksFrom_25 hna (by decide) rfl (by omega) (by omega) (by decide) (hqn.1) ?_
      refine g_ast (lv' := [some (.ref na), some (vi ((c : Int))), some (vi ((nx : Int))), some (vi (rsN F lo nx m)), some (vi ((nx : Int) + (m : Int))), some (.ref (t (lo (nx + m))))]) hC dX3_ranksFrom_26 (by decide) rfl ?_
      refine g_ald hC dX3_ranksFrom_28 rfl ?_
      refine g_ifnull_r hC dX3_ranksFrom_30 ?_
      refine g_iload_n hC dX3_ranksFrom_33 rfl ?_
      refine g_ald hC dX3_ranksFrom_34 rfl ?_
      refine g_get hC dX3_ranksFrom_36 gf_RX3_87 hqn.2 rfl ?_
      refine g_iadd hC dX3_ranksFrom_39 ?_
      refine g_istore_n (lv' := [some (.ref na), some (vi ((c : Int))), some (vi ((nx : Int))), some (vi ((rsN F lo nx m) + (F 6 (lo (nx + m))))), some (vi ((nx : Int) + (m : Int))), some (.ref (t (lo (nx + m))))]) hC dX3_ranksFrom_40 (by decide) rfl ?_
      refine g_iinc (lv' := [some (.ref na), some (vi ((c : Int))), some (vi ((nx : Int))), some (vi ((rsN F lo nx m) + (F 6 (lo (nx + m))))), some (vi ((nx : Int) + (m : Int) + 1)), some (.ref (t (lo (nx + m))))]) hC dX3_ranksFrom_41 (by decide) rfl rfl ?_
      refine g_goto (tgt := 9) hC dX3_ranksFrom_44 (by decide) ?_
      refine gV.drop (lv' := [some (.ref na), some (vi ((c : Int))), some (vi ((nx : Int))), some (vi ((rsN F lo nx m) + (F 6 (lo (nx + m))))), some (vi ((nx : Int) + (m : Int) + 1)), none]) (by intro k v hk; match k, hk with | 0, hk => exact hk | 1, hk => exact hk | 2, hk => exact hk | 3, hk => exact hk | 4, hk => exact hk | 5, hk => exact absurd hk (by simp) | k + 6, hk => exact absurd hk (by simp)) ?_
      refine gV.eqs (lv' := [some (.ref na), some (vi ((c : Int))), some (vi ((nx : Int))), some (vi (rsN F lo nx (m + 1))), some (vi ((nx : Int) + (((m + 1) : Nat) : Int))), none]) (lcons rfl (lcons rfl (lcons rfl (lcons (svi (by rw [rsN_s])) (lcons (svi (by omega)) (lcons rfl rfl)))))) rfl rfl ih
    · refine g_iload hC dX3_ranksFrom_9 rfl ?_
      refine g_iload_n hC dX3_ranksFrom_11 rfl ?_
      refine g_icmp_ge (tgt := 47) hC dX3_ranksFrom_12 (by decide) (by omega) (by omega) (fun c_12 => ?_) (fun c_12 => False.elim (by omega))
      refine g_iload_n hC dX3_ranksFrom_47 rfl ?_
      exact g_iret hC hq dX3_ranksFrom_48 (by decide) (by decide) ⟨rfl, rfl⟩
  refine gV.eqs (lv' := [some (.ref na), some (vi ((c : Int))), some (vi ((nx : Int))), some (vi (rsN F lo nx 0)), some (vi ((nx : Int) + ((0 : Nat) : Int))), none]) (lcons rfl (lcons rfl (lcons rfl (lcons (svi (rfl)) (lcons (svi (by omega)) (lcons rfl rfl)))))) rfl rfl (lp 0 (Nat.zero_le _))

end C11
