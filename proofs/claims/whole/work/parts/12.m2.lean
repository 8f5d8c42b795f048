/-! the reference: names, places, sheets as its rows hold them -/
section M2
theorem g_cut {A B : Prop} (h1 : A) (h2 : A → B) : B := h2 h1
theorem lcons {α : Type} {a b : α} {l m : List α} (h1 : a = b) (h2 : l = m) : a :: l = b :: m := by rw [h1, h2]
theorem svi {a b : Int} (h : a = b) : some (vi a) = some (vi b) := by rw [h]
/-- what always holds of the reference's rows -/
def mI (z : Nat → Int) (F : Nat → Nat → Int) : Prop :=
  (0 ≤ z 0 ∧ z 0 ≤ 10000) ∧ (0 ≤ z 1 ∧ z 1 ≤ 8) ∧ (0 ≤ z 3 ∧ z 3 ≤ 14) ∧ (0 ≤ z 11 ∧ z 11 ≤ 4) ∧ (0 ≤ z 22 ∧ z 22 ≤ 5) ∧
  (∀ t : Nat, (t : Int) < z 1 → 97 ≤ F 2 t ∧ F 2 t ≤ 122) ∧
  (∀ i : Nat, (i : Int) < z 3 → -180 ≤ F 4 i ∧ F 4 i ≤ 179 ∧ -60 ≤ F 5 i ∧ F 5 i ≤ 60 ∧ 1 ≤ F 6 i ∧ F 6 i ≤ 5) ∧
  (∀ i : Nat, i < 14 → 0 ≤ F 7 i ∧ F 7 i ≤ 6 ∧ (z 3 ≤ (i : Int) → F 7 i = 0)) ∧
  (∀ i j : Nat, i < 14 → (j : Int) < F 7 i → 0 ≤ F 8 (6 * i + j) ∧ F 8 (6 * i + j) ≤ z 0 ∧ 1 ≤ F 9 (6 * i + j) ∧ F 9 (6 * i + j) ≤ 8 ∧ ∀ t : Nat, (t : Int) < F 9 (6 * i + j) → 97 ≤ F 10 (8 * (6 * i + j) + t) ∧ F 10 (8 * (6 * i + j) + t) ≤ 122) ∧
  (∀ k : Nat, (k : Int) < z 11 → -180 ≤ F 12 k ∧ F 12 k ≤ 150 ∧ -60 ≤ F 13 k ∧ F 13 k ≤ 41 ∧ (F 14 k = 0 ∨ F 14 k = 1))
def nmR (F : Nat → Nat → Int) (on : Int) (i : Nat) : Nat → Int
  | 0 => -1
  | n + 1 => if F 8 (6 * i + n) ≤ on then 6 * (i : Int) + n else nmR F on i n
theorem nmR_s (F : Nat → Nat → Int) (on : Int) (i n : Nat) : nmR F on i (n + 1) = if F 8 (6 * i + n) ≤ on then 6 * (i : Int) + n else nmR F on i n := rfl
/-- the name of the place i on a day: its place in the rows; -1 if there is none -/
def nmOf (F : Nat → Nat → Int) (on : Int) (i : Nat) : Int := nmR F on i (F 7 i).toNat
theorem nmR_rng {F : Nat → Nat → Int} {on : Int} {i : Nat} : ∀ n : Nat, nmR F on i n = -1 ∨ ∃ j : Nat, j < n ∧ nmR F on i n = 6 * (i : Int) + j
  | 0 => Or.inl rfl
  | n + 1 => by
    unfold nmR
    split
    · exact Or.inr ⟨n, by omega, rfl⟩
    · rcases nmR_rng (F := F) (on := on) (i := i) n with h | ⟨j, h1, h2⟩
      · exact Or.inl h
      · exact Or.inr ⟨j, by omega, h2⟩
def qOn (F : Nat → Nat → Int) (s i : Nat) : Bool := inB (F 4 i - F 12 s) 0 29 && inB (F 5 i - F 13 s) 0 19
def qRow (F : Nat → Nat → Int) (s i : Nat) : Int := 24 * (F 5 i - F 13 s) / 20
def fU (b : Int) : UInt32 := FP.fsub FP.fconst1 (FP.fmul 1017370378 (FP.i2f (iI b)))
def fV (a b : Int) : UInt32 := FP.fmul (FP.fdiv (FP.fmul (FP.i2f (iI (a - 15))) 1082130432) 1077936128) (fU b)
def fC (a b : Int) : UInt32 := FP.fadd 1101004800 (fV a b)
def cone (a b : Int) : Int := (FP.f2i (fC a b)).toInt
def qCol (F : Nat → Nat → Int) (s i : Nat) : Int := if F 14 s = 0 then 40 * (F 4 i - F 12 s) / 30 else cone (F 4 i - F 12 s) (F 5 i - F 13 s)

set_option maxHeartbeats 4000000 in
set_option maxRecDepth 100000 in
theorem kX7_isPlace {l : Launch} (hl : l.stackTraces = false) {D : gD} {base mo : Nat} {ad : Nat → Nat} {z : Nat → Int} {F : Nat → Nat → Int} (hI : mI z F) (i : Int) (ri : -2147483648 ≤ i ∧ i < 2147483648) : mM l D base yX7_isPlace cX7_isPlace 2 (some Jvm.ClassFile.FieldType.boolean) 1 22 mo ad [vi (i)] z F (fun r z' F' => r = some (vi (b2i (inB i 0 (z 3 - 1)))) ∧ z' = z ∧ F' = F) := by
  obtain ⟨i0, i1, i3, i11, i22, iw, ip, inn, inm, ish⟩ := id hI
  refine mM.of hl (by decide) (by simp [Value.category]) (Nat.le_of_ble_eq_true rfl) [some (.ref mo), some (vi (i))] rfl (fun gh x hC hq => ?_)
  refine m_iload_n hC dX7_isPlace_0 rfl ?_
  refine m_iconst hC dX7_isPlace_1 rfl ?_
  refine m_ald_n hC dX7_isPlace_2 rfl ?_
  refine m_getI hC 3 dX7_isPlace_3 gf_RX7_78 ⟨by decide, rfl⟩ ?_
  refine m_iconst hC dX7_isPlace_6 rfl ?_
  refine m_isub hC dX7_isPlace_7 ?_
  refine m_callS (rest := []) hC (fun gh => kX7_in hl i 0 (z 3 - 1) (by omega) (by omega) (by omega) gh) gc_RX7_81 rfl ⟨by decide, by decide⟩ (Nat.le_of_ble_eq_true rfl) rfl dX7_isPlace_8 (fun r hp => ?_)
  subst hp
  exact m_bret hC hq dX7_isPlace_11 ⟨rfl, rfl, rfl⟩

set_option maxHeartbeats 4000000 in
set_option maxRecDepth 100000 in
theorem kX7_isSheet {l : Launch} (hl : l.stackTraces = false) {D : gD} {base mo : Nat} {ad : Nat → Nat} {z : Nat → Int} {F : Nat → Nat → Int} (hI : mI z F) (i : Int) (ri : -2147483648 ≤ i ∧ i < 2147483648) : mM l D base yX7_isSheet cX7_isSheet 2 (some Jvm.ClassFile.FieldType.boolean) 1 22 mo ad [vi (i)] z F (fun r z' F' => r = some (vi (b2i (inB i 0 (z 11 - 1)))) ∧ z' = z ∧ F' = F) := by
  obtain ⟨i0, i1, i3, i11, i22, iw, ip, inn, inm, ish⟩ := id hI
  refine mM.of hl (by decide) (by simp [Value.category]) (Nat.le_of_ble_eq_true rfl) [some (.ref mo), some (vi (i))] rfl (fun gh x hC hq => ?_)
  refine m_iload_n hC dX7_isSheet_0 rfl ?_
  refine m_iconst hC dX7_isSheet_1 rfl ?_
  refine m_ald_n hC dX7_isSheet_2 rfl ?_
  refine m_getI hC 11 dX7_isSheet_3 gf_RX7_85 ⟨by decide, rfl⟩ ?_
  refine m_iconst hC dX7_isSheet_6 rfl ?_
  refine m_isub hC dX7_isSheet_7 ?_
  refine m_callS (rest := []) hC (fun gh => kX7_in hl i 0 (z 11 - 1) (by omega) (by omega) (by omega) gh) gc_RX7_81 rfl ⟨by decide, by decide⟩ (Nat.le_of_ble_eq_true rfl) rfl dX7_isSheet_8 (fun r hp => ?_)
  subst hp
  exact m_bret hC hq dX7_isSheet_11 ⟨rfl, rfl, rfl⟩

set_option maxHeartbeats 4000000 in
set_option maxRecDepth 100000 in
theorem kX7_isCell {l : Launch} (hl : l.stackTraces = false) {D : gD} {base : Nat} (r c : Int) (rr : -2147483648 ≤ r ∧ r < 2147483648) (rc : -2147483648 ≤ c ∧ c < 2147483648) (gh : gH)  : gM l D base yX7_isCell cX7_isCell 2 (some Jvm.ClassFile.FieldType.boolean) 1 22 0 0 [vi (r), vi (c)] gh (fun rr' gh' => rr' = some (vi (b2i (inB r 0 23 && inB c 0 39))) ∧ gh' = gh) gNo := by
  refine gM.of hl (by decide) (by simp [Value.category]) (Nat.le_of_ble_eq_true rfl) [some (vi (r)), some (vi (c))] rfl (fun x hC hq => ?_)
  refine g_iload_n hC dX7_isCell_0 rfl ?_
  refine g_iconst hC dX7_isCell_1 rfl ?_
  refine g_bipush (z := 23) hC dX7_isCell_2 rfl ?_
  refine g_callS (rest := []) hC (kX7_in hl r 0 23 rr (by omega) (by omega) gh) gc_RX7_81 rfl ⟨by decide, by decide⟩ ⟨by decide, by decide⟩ (Nat.le_of_ble_eq_true rfl) rfl dX7_isCell_4 (fun r gh' hp => ?_)
  obtain ⟨rfl, hgh⟩ := hp
  rw [hgh]
  refine g_ifeq_b (tgt := 24) hC dX7_isCell_7 (by decide)  (fun c_7 => ?_) (fun c_7 => ?_)
  · refine g_iconst hC dX7_isCell_24 rfl ?_
    refine g_top (b := b2i (inB r 0 23 && inB c 0 39)) (b2i_f (by simp [c_7])) ?_
    exact g_bret hC hq dX7_isCell_25 (by decide) (by decide) ⟨rfl, rfl⟩
  · refine g_iload_n hC dX7_isCell_10 rfl ?_
    refine g_iconst hC dX7_isCell_11 rfl ?_
    refine g_bipush (z := 39) hC dX7_isCell_12 rfl ?_
    refine g_callS (rest := []) hC (kX7_in hl c 0 39 rc (by omega) (by omega) gh) gc_RX7_81 rfl ⟨by decide, by decide⟩ ⟨by decide, by decide⟩ (Nat.le_of_ble_eq_true rfl) rfl dX7_isCell_14 (fun r gh' hp => ?_)
    obtain ⟨rfl, hgh⟩ := hp
    rw [hgh]
    refine g_ifeq_b (tgt := 24) hC dX7_isCell_17 (by decide)  (fun c_17 => ?_) (fun c_17 => ?_)
    · refine g_iconst hC dX7_isCell_24 rfl ?_
      refine g_top (b := b2i (inB r 0 23 && inB c 0 39)) (b2i_f (by simp [c_7, c_17])) ?_
      exact g_bret hC hq dX7_isCell_25 (by decide) (by decide) ⟨rfl, rfl⟩
    · refine g_iconst hC dX7_isCell_20 rfl ?_
      refine g_goto (tgt := 25) hC dX7_isCell_21 (by decide) ?_
      refine g_top (b := b2i (inB r 0 23 && inB c 0 39)) (b2i_t (by simp [c_7, c_17])) ?_
      exact g_bret hC hq dX7_isCell_25 (by decide) (by decide) ⟨rfl, rfl⟩

set_option maxHeartbeats 4000000 in
set_option maxRecDepth 100000 in
theorem kX7_nameOn {l : Launch} (hl : l.stackTraces = false) {D : gD} {base mo : Nat} {ad : Nat → Nat} {z : Nat → Int} {F : Nat → Nat → Int} (hI : mI z F) (i : Nat) (hi : i < 14) (on : Int) (ron : -2147483648 ≤ on ∧ on < 2147483648) : mM l D base yX7_nameOn cX7_nameOn 5 (some Jvm.ClassFile.FieldType.int) 0 0 mo ad [vi ((i : Int)), vi (on)] z F (fun r z' F' => r = some (vi (nmOf F on i)) ∧ z' = z ∧ F' = F) := by
  obtain ⟨i0, i1, i3, i11, i22, iw, ip, inn, inm, ish⟩ := id hI
  have inni := inn i hi
  refine mM.of hl (by decide) (by simp [Value.category]) (Nat.le_of_ble_eq_true rfl) [some (.ref mo), some (vi ((i : Int))), some (vi (on)), none, none] rfl (fun gh x hC hq => ?_)
  refine m_iconst hC dX7_nameOn_0 rfl ?_
  refine m_istore_n (lv' := [some (.ref mo), some (vi ((i : Int))), some (vi (on)), some (vi ((-1))), none]) hC dX7_nameOn_1 (by decide) rfl ?_
  refine m_bipush (v := 6) hC dX7_nameOn_2 rfl ?_
  refine m_iload_n hC dX7_nameOn_4 rfl ?_
  refine m_imul hC dX7_nameOn_5 ?_
  refine m_istore (lv' := [some (.ref mo), some (vi ((i : Int))), some (vi (on)), some (vi ((-1))), some (vi ((6) * ((i : Int))))]) hC dX7_nameOn_6 (by decide) rfl ?_
  have lp : ∀ n : Nat, n ≤ (F 7 i).toNat → gVM x D base 5 mo ad gh 8 [some (.ref mo), some (vi ((i : Int))), some (vi (on)), some (vi (nmR F on i n)), some (vi (6 * (i : Int) + (n : Nat)))] [] (z) (F) := by
    refine g_for _ (fun n hn ih => ?_) ?_
    · have hr := nmR_rng (F := F) (on := on) (i := i) n
      have hs := inm i n hi (by omega)
      refine m_iload hC dX7_nameOn_8 rfl ?_
      refine m_bipush (v := 6) hC dX7_nameOn_10 rfl ?_
      refine m_iload_n hC dX7_nameOn_12 rfl ?_
      refine m_imul hC dX7_nameOn_13 ?_
      refine m_ald_n hC dX7_nameOn_14 rfl ?_
      refine m_getA hC 7 dX7_nameOn_15 gf_RX7_23 ⟨by decide, rfl⟩ ?_
      refine m_iload_n hC dX7_nameOn_18 rfl ?_
      refine m_iald hC 7 (i) dX7_nameOn_19 ⟨by decide, rfl, rfl⟩ (by omega) (by simp only [mK]; omega) ?_
      refine m_iadd hC dX7_nameOn_20 ?_
      refine m_icmp_ge (tgt := 48) hC dX7_nameOn_21 (by decide) (by omega) (by omega) (fun c_21 => False.elim (by omega)) (fun c_21 => ?_)
      refine m_ald_n hC dX7_nameOn_24 rfl ?_
      refine m_getA hC 8 dX7_nameOn_25 gf_RX7_26 ⟨by decide, rfl⟩ ?_
      refine m_iload hC dX7_nameOn_28 rfl ?_
      refine m_iald hC 8 (6 * i + (n : Nat)) dX7_nameOn_30 ⟨by decide, rfl, rfl⟩ (by omega) (by simp only [mK]; omega) ?_
      refine m_iload_n hC dX7_nameOn_31 rfl ?_
      refine m_icmp_gt (tgt := 40) hC dX7_nameOn_32 (by decide) (by omega) (by omega) (fun c_32 => ?_) (fun c_32 => ?_)
      · refine m_iload_n hC dX7_nameOn_40 rfl ?_
        refine m_istore_n (lv' := [some (.ref mo), some (vi ((i : Int))), some (vi (on)), some (vi (nmR F on i n)), some (vi (6 * (i : Int) + (n : Nat)))]) hC dX7_nameOn_41 (by decide) rfl ?_
        refine m_iinc (lv' := [some (.ref mo), some (vi ((i : Int))), some (vi (on)), some (vi (nmR F on i n)), some (vi (6 * (i : Int) + (n : Nat) + 1))]) hC dX7_nameOn_42 (by decide) rfl rfl ?_
        refine m_goto (tgt := 8) hC dX7_nameOn_45 (by decide) ?_
        refine gVM.eqs (lv' := [some (.ref mo), some (vi ((i : Int))), some (vi (on)), some (vi (nmR F on i (n + 1))), some (vi (6 * (i : Int) + ((n + 1 : Nat) : Int)))]) (lcons rfl (lcons rfl (lcons rfl (lcons (svi (by rw [nmR_s, if_neg (by omega)])) (lcons (svi (by omega)) rfl))))) rfl rfl rfl ih
      · refine m_iload hC dX7_nameOn_35 rfl ?_
        refine m_goto (tgt := 41) hC dX7_nameOn_37 (by decide) ?_
        refine m_istore_n (lv' := [some (.ref mo), some (vi ((i : Int))), some (vi (on)), some (vi (6 * (i : Int) + (n : Nat))), some (vi (6 * (i : Int) + (n : Nat)))]) hC dX7_nameOn_41 (by decide) rfl ?_
        refine m_iinc (lv' := [some (.ref mo), some (vi ((i : Int))), some (vi (on)), some (vi (6 * (i : Int) + (n : Nat))), some (vi (6 * (i : Int) + (n : Nat) + 1))]) hC dX7_nameOn_42 (by decide) rfl rfl ?_
        refine m_goto (tgt := 8) hC dX7_nameOn_45 (by decide) ?_
        refine gVM.eqs (lv' := [some (.ref mo), some (vi ((i : Int))), some (vi (on)), some (vi (nmR F on i (n + 1))), some (vi (6 * (i : Int) + ((n + 1 : Nat) : Int)))]) (lcons rfl (lcons rfl (lcons rfl (lcons (svi (by rw [nmR_s, if_pos (by omega)])) (lcons (svi (by omega)) rfl))))) rfl rfl rfl ih
    · have hr := nmR_rng (F := F) (on := on) (i := i) (F 7 i).toNat
      refine m_iload hC dX7_nameOn_8 rfl ?_
      refine m_bipush (v := 6) hC dX7_nameOn_10 rfl ?_
      refine m_iload_n hC dX7_nameOn_12 rfl ?_
      refine m_imul hC dX7_nameOn_13 ?_
      refine m_ald_n hC dX7_nameOn_14 rfl ?_
      refine m_getA hC 7 dX7_nameOn_15 gf_RX7_23 ⟨by decide, rfl⟩ ?_
      refine m_iload_n hC dX7_nameOn_18 rfl ?_
      refine m_iald hC 7 (i) dX7_nameOn_19 ⟨by decide, rfl, rfl⟩ (by omega) (by simp only [mK]; omega) ?_
      refine m_iadd hC dX7_nameOn_20 ?_
      refine m_icmp_ge (tgt := 48) hC dX7_nameOn_21 (by decide) (by omega) (by omega) (fun c_21 => ?_) (fun c_21 => False.elim (by omega))
      refine m_iload_n hC dX7_nameOn_48 rfl ?_
      exact m_iret hC hq dX7_nameOn_49 ⟨rfl, rfl, rfl⟩
  refine gVM.eqs (lv' := [some (.ref mo), some (vi ((i : Int))), some (vi (on)), some (vi (nmR F on i 0)), some (vi (6 * (i : Int) + (0 : Nat)))]) (lcons rfl (lcons rfl (lcons rfl (lcons (svi (rfl)) (lcons (svi (by omega)) rfl))))) rfl rfl rfl (lp 0 (Nat.zero_le _))

end M2
