/-! the reference: its small methods -/
section M1
theorem b2i_t {p : Bool} (h : p = true) : (1 : Int) = b2i p := by rw [h]; rfl
theorem b2i_f {p : Bool} (h : p = false) : (0 : Int) = b2i p := by rw [h]; rfl
def goesN (a b c : Bool) : Int := if a = true then (if b = true then (if c = true then 0 else 3) else 2) else 1
def inB (v lo hi : Int) : Bool := decide (lo ≤ v ∧ v ≤ hi)
set_option maxHeartbeats 4000000 in
set_option maxRecDepth 100000 in
theorem kX7_in {l : Launch} (hl : l.stackTraces = false) {D : gD} {base : Nat} (v lo hi : Int) (rv : -2147483648 ≤ v ∧ v < 2147483648) (rlo : -2147483648 ≤ lo ∧ lo < 2147483648) (rhi : -2147483648 ≤ hi ∧ hi < 2147483648) (gh : gH)  : gM l D base yX7_in cX7_in 3 (some Jvm.ClassFile.FieldType.boolean) 0 0 0 0 [vi (v), vi (lo), vi (hi)] gh (fun r gh' => r = some (vi (b2i (inB v lo hi))) ∧ gh' = gh) gNo := by
  refine gM.of hl (by decide) (by simp [Value.category]) (Nat.le_of_ble_eq_true rfl) [some (vi (v)), some (vi (lo)), some (vi (hi))] rfl (fun x hC hq => ?_)
  refine g_iload_n hC dX7_in_0 rfl ?_
  refine g_iload_n hC dX7_in_1 rfl ?_
  refine g_icmp_lt (tgt := 14) hC dX7_in_2 (by decide) (by omega) (by omega) (fun c_2 => ?_) (fun c_2 => ?_)
  · refine g_iconst hC dX7_in_14 rfl ?_
    refine g_top (b := b2i (inB v lo hi)) (b2i_f (decide_eq_false (by omega))) ?_
    exact g_bret hC hq dX7_in_15 (by decide) (by decide) ⟨rfl, rfl⟩
  · refine g_iload_n hC dX7_in_5 rfl ?_
    refine g_iload_n hC dX7_in_6 rfl ?_
    refine g_icmp_gt (tgt := 14) hC dX7_in_7 (by decide) (by omega) (by omega) (fun c_7 => ?_) (fun c_7 => ?_)
    · refine g_iconst hC dX7_in_14 rfl ?_
      refine g_top (b := b2i (inB v lo hi)) (b2i_f (decide_eq_false (by omega))) ?_
      exact g_bret hC hq dX7_in_15 (by decide) (by decide) ⟨rfl, rfl⟩
    · refine g_iconst hC dX7_in_10 rfl ?_
      refine g_goto (tgt := 15) hC dX7_in_11 (by decide) ?_
      refine g_top (b := b2i (inB v lo hi)) (b2i_t (decide_eq_true (by omega))) ?_
      exact g_bret hC hq dX7_in_15 (by decide) (by decide) ⟨rfl, rfl⟩

def rowAtN (row w : Int) : Int := if w = 2 then row + 1 else if w = 3 then row - 1 else row
def colAtN (col w n : Int) : Int := if w = 0 then col + 1 else if w = 1 then col - n else col - n / 2
set_option maxHeartbeats 4000000 in
set_option maxRecDepth 100000 in
theorem kX7_rowAt {l : Launch} (hl : l.stackTraces = false) {D : gD} {base : Nat} (row w : Int) (rrow : -2147483648 ≤ row ∧ row < 2147483648) (rw : -2147483648 ≤ w ∧ w < 2147483648) (gh : gH)  : gM l D base yX7_rowAt cX7_rowAt 2 (some Jvm.ClassFile.FieldType.int) 0 0 0 0 [vi (row), vi (w)] gh (fun r gh' => r = some (vi (rowAtN row w)) ∧ gh' = gh) gNo := by
  refine gM.of hl (by decide) (by simp [Value.category]) (Nat.le_of_ble_eq_true rfl) [some (vi (row)), some (vi (w))] rfl (fun x hC hq => ?_)
  refine g_iload_n hC dX7_rowAt_0 rfl ?_
  refine g_iconst hC dX7_rowAt_1 rfl ?_
  refine g_icmp_ne (tgt := 11) hC dX7_rowAt_2 (by decide) (by omega) (by omega) (fun c_2 => ?_) (fun c_2 => ?_)
  · refine g_iload_n hC dX7_rowAt_11 rfl ?_
    refine g_iconst hC dX7_rowAt_12 rfl ?_
    refine g_icmp_ne (tgt := 22) hC dX7_rowAt_13 (by decide) (by omega) (by omega) (fun c_13 => ?_) (fun c_13 => ?_)
    · refine g_iload_n hC dX7_rowAt_22 rfl ?_
      refine g_top (b := rowAtN row w) (by unfold rowAtN; simp only [*]; first | rfl | omega) ?_
      exact g_iret hC hq dX7_rowAt_23 (by decide) (by decide) ⟨rfl, rfl⟩
    · refine g_iload_n hC dX7_rowAt_16 rfl ?_
      refine g_iconst hC dX7_rowAt_17 rfl ?_
      refine g_isub hC dX7_rowAt_18 ?_
      refine g_goto (tgt := 23) hC dX7_rowAt_19 (by decide) ?_
      refine g_top (b := rowAtN row w) (by unfold rowAtN; simp only [*]; first | rfl | omega) ?_
      exact g_iret hC hq dX7_rowAt_23 (by decide) (by decide) ⟨rfl, rfl⟩
  · refine g_iload_n hC dX7_rowAt_5 rfl ?_
    refine g_iconst hC dX7_rowAt_6 rfl ?_
    refine g_iadd hC dX7_rowAt_7 ?_
    refine g_goto (tgt := 23) hC dX7_rowAt_8 (by decide) ?_
    refine g_top (b := rowAtN row w) (by unfold rowAtN; simp only [*]; first | rfl | omega) ?_
    exact g_iret hC hq dX7_rowAt_23 (by decide) (by decide) ⟨rfl, rfl⟩

set_option maxHeartbeats 4000000 in
set_option maxRecDepth 100000 in
theorem kX7_columnAt {l : Launch} (hl : l.stackTraces = false) {D : gD} {base : Nat} (col w n : Int) (rcol : -2147483648 ≤ col ∧ col < 2147483648) (rw : -2147483648 ≤ w ∧ w < 2147483648) (rn : 0 ≤ n ∧ n < 2147483648) (gh : gH)  : gM l D base yX7_columnAt cX7_columnAt 3 (some Jvm.ClassFile.FieldType.int) 0 0 0 0 [vi (col), vi (w), vi (n)] gh (fun r gh' => r = some (vi (colAtN col w n)) ∧ gh' = gh) gNo := by
  refine gM.of hl (by decide) (by simp [Value.category]) (Nat.le_of_ble_eq_true rfl) [some (vi (col)), some (vi (w)), some (vi (n))] rfl (fun x hC hq => ?_)
  refine g_iload_n hC dX7_columnAt_0 rfl ?_
  refine g_if_ne (tgt := 10) hC dX7_columnAt_1 (by decide) (by omega) (fun c_1 => ?_) (fun c_1 => ?_)
  · refine g_iload_n hC dX7_columnAt_10 rfl ?_
    refine g_iconst hC dX7_columnAt_11 rfl ?_
    refine g_icmp_ne (tgt := 21) hC dX7_columnAt_12 (by decide) (by omega) (by omega) (fun c_12 => ?_) (fun c_12 => ?_)
    · refine g_iload_n hC dX7_columnAt_21 rfl ?_
      refine g_iload_n hC dX7_columnAt_22 rfl ?_
      refine g_iconst hC dX7_columnAt_23 rfl ?_
      refine g_idiv hC dX7_columnAt_24 (by omega) (by omega) ?_
      refine g_isub hC dX7_columnAt_25 ?_
      refine g_top (b := colAtN col w n) (by unfold colAtN; simp only [*]; first | rfl | omega) ?_
      exact g_iret hC hq dX7_columnAt_26 (by decide) (by decide) ⟨rfl, rfl⟩
    · refine g_iload_n hC dX7_columnAt_15 rfl ?_
      refine g_iload_n hC dX7_columnAt_16 rfl ?_
      refine g_isub hC dX7_columnAt_17 ?_
      refine g_goto (tgt := 26) hC dX7_columnAt_18 (by decide) ?_
      refine g_top (b := colAtN col w n) (by unfold colAtN; simp only [*]; first | rfl | omega) ?_
      exact g_iret hC hq dX7_columnAt_26 (by decide) (by decide) ⟨rfl, rfl⟩
  · refine g_iload_n hC dX7_columnAt_4 rfl ?_
    refine g_iconst hC dX7_columnAt_5 rfl ?_
    refine g_iadd hC dX7_columnAt_6 ?_
    refine g_goto (tgt := 26) hC dX7_columnAt_7 (by decide) ?_
    refine g_top (b := colAtN col w n) (by unfold colAtN; simp only [*]; first | rfl | omega) ?_
    exact g_iret hC hq dX7_columnAt_26 (by decide) (by decide) ⟨rfl, rfl⟩

set_option maxHeartbeats 4000000 in
set_option maxRecDepth 100000 in
theorem kX7_thrown {l : Launch} (hl : l.stackTraces = false) {D : gD} {base mo : Nat} {ad : Nat → Nat} {z : Nat → Int} {F : Nat → Nat → Int}  : mM l D base yX7_thrown cX7_thrown 1 (some Jvm.ClassFile.FieldType.int) 0 0 mo ad [] z F (fun r z' F' => r = some (vi (z 27)) ∧ z' = z ∧ F' = F) := by
  refine mM.of hl (by decide) (by simp [Value.category]) (Nat.le_of_ble_eq_true rfl) [some (.ref mo)] rfl (fun gh x hC hq => ?_)
  refine m_ald_n hC dX7_thrown_0 rfl ?_
  refine m_getI hC 27 dX7_thrown_1 gf_RX7_74 ⟨by decide, rfl⟩ ?_
  exact m_iret hC hq dX7_thrown_4 ⟨rfl, rfl, rfl⟩

set_option maxHeartbeats 4000000 in
set_option maxRecDepth 100000 in
theorem kX7_goes {l : Launch} (hl : l.stackTraces = false) {D : gD} {base mo : Nat} {ad : Nat → Nat} {z : Nat → Int} {F : Nat → Nat → Int} (a b c : Bool) : mM l D base yX7_goes cX7_goes 4 (some Jvm.ClassFile.FieldType.boolean) 0 0 mo ad [vi (b2i (a)), vi (b2i (b)), vi (b2i (c))] z F (fun r z' F' => r = some (vi (b2i (a && b && c))) ∧ z' = gup z 27 (goesN a b c) ∧ F' = F) := by
  refine mM.of hl (by decide) (by simp [Value.category]) (Nat.le_of_ble_eq_true rfl) [some (.ref mo), some (vi (b2i (a))), some (vi (b2i (b))), some (vi (b2i (c)))] rfl (fun gh x hC hq => ?_)
  refine m_ald_n hC dX7_goes_0 rfl ?_
  refine m_iload_n hC dX7_goes_1 rfl ?_
  refine m_ifne_b (tgt := 9) hC dX7_goes_2 (by decide)  (fun c_2 => ?_) (fun c_2 => ?_)
  · refine m_iload_n hC dX7_goes_9 rfl ?_
    refine m_ifne_b (tgt := 17) hC dX7_goes_10 (by decide)  (fun c_10 => ?_) (fun c_10 => ?_)
    · refine m_iload_n hC dX7_goes_17 rfl ?_
      refine m_ifne_b (tgt := 25) hC dX7_goes_18 (by decide)  (fun c_18 => ?_) (fun c_18 => ?_)
      · refine m_iconst hC dX7_goes_25 rfl ?_
        refine m_putI hC 27 dX7_goes_26 gp_RX7_74 ⟨by decide, rfl⟩ ?_
        refine m_ald_n hC dX7_goes_29 rfl ?_
        refine m_getI hC 27 dX7_goes_30 gf_RX7_74 ⟨by decide, rfl⟩ ?_
        refine m_top (b := 0) rfl ?_
        refine m_if_ne (tgt := 40) hC dX7_goes_33 (by decide) (by omega) (fun c_33 => False.elim (by omega)) (fun c_33 => ?_)
        refine m_iconst hC dX7_goes_36 rfl ?_
        refine m_goto (tgt := 41) hC dX7_goes_37 (by decide) ?_
        refine m_top (b := b2i (a && b && c)) (by simp only [c_2, c_10, c_18]; rfl) ?_
        exact m_bret hC hq dX7_goes_41 ⟨rfl, by simp only [c_2, c_10, c_18]; rfl, rfl⟩
      · refine m_iconst hC dX7_goes_21 rfl ?_
        refine m_goto (tgt := 26) hC dX7_goes_22 (by decide) ?_
        refine m_putI hC 27 dX7_goes_26 gp_RX7_74 ⟨by decide, rfl⟩ ?_
        refine m_ald_n hC dX7_goes_29 rfl ?_
        refine m_getI hC 27 dX7_goes_30 gf_RX7_74 ⟨by decide, rfl⟩ ?_
        refine m_top (b := 3) rfl ?_
        refine m_if_ne (tgt := 40) hC dX7_goes_33 (by decide) (by omega) (fun c_33 => ?_) (fun c_33 => False.elim (by omega))
        refine m_iconst hC dX7_goes_40 rfl ?_
        refine m_top (b := b2i (a && b && c)) (by simp only [c_2, c_10, c_18]; rfl) ?_
        exact m_bret hC hq dX7_goes_41 ⟨rfl, by simp only [c_2, c_10, c_18]; rfl, rfl⟩
    · refine m_iconst hC dX7_goes_13 rfl ?_
      refine m_goto (tgt := 26) hC dX7_goes_14 (by decide) ?_
      refine m_putI hC 27 dX7_goes_26 gp_RX7_74 ⟨by decide, rfl⟩ ?_
      refine m_ald_n hC dX7_goes_29 rfl ?_
      refine m_getI hC 27 dX7_goes_30 gf_RX7_74 ⟨by decide, rfl⟩ ?_
      refine m_top (b := 2) rfl ?_
      refine m_if_ne (tgt := 40) hC dX7_goes_33 (by decide) (by omega) (fun c_33 => ?_) (fun c_33 => False.elim (by omega))
      refine m_iconst hC dX7_goes_40 rfl ?_
      refine m_top (b := b2i (a && b && c)) (by simp only [c_2, c_10]; rfl) ?_
      exact m_bret hC hq dX7_goes_41 ⟨rfl, by simp only [c_2, c_10]; rfl, rfl⟩
  · refine m_iconst hC dX7_goes_5 rfl ?_
    refine m_goto (tgt := 26) hC dX7_goes_6 (by decide) ?_
    refine m_putI hC 27 dX7_goes_26 gp_RX7_74 ⟨by decide, rfl⟩ ?_
    refine m_ald_n hC dX7_goes_29 rfl ?_
    refine m_getI hC 27 dX7_goes_30 gf_RX7_74 ⟨by decide, rfl⟩ ?_
    refine m_top (b := 1) rfl ?_
    refine m_if_ne (tgt := 40) hC dX7_goes_33 (by decide) (by omega) (fun c_33 => ?_) (fun c_33 => False.elim (by omega))
    refine m_iconst hC dX7_goes_40 rfl ?_
    refine m_top (b := b2i (a && b && c)) (by simp only [c_2]; rfl) ?_
    exact m_bret hC hq dX7_goes_41 ⟨rfl, by simp only [c_2]; rfl, rfl⟩

end M1
