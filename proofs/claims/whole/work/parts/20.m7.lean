/-! the reference: side, drawn, worth -/
section M7
/-- what the reference keeps between calls is as in z, F: its scratch rows (15 to 19, 21), thrown and toTry may be others -/
def mSc (z : Nat → Int) (F : Nat → Nat → Int) (z' : Nat → Int) (F' : Nat → Nat → Int) : Prop := (∀ k, k ≠ 27 → k ≠ 20 → z' k = z k) ∧ ∀ k, k ≠ 15 → k ≠ 16 → k ≠ 17 → k ≠ 18 → k ≠ 19 → k ≠ 21 → F' k = F k
theorem mSc.rf {z : Nat → Int} {F : Nat → Nat → Int} {g : Int} : mSc z F (gup z 27 g) F := ⟨fun k h _ => gup_ne h, fun _ _ _ _ _ _ _ => rfl⟩
theorem mSc.f4 {z : Nat → Int} {F : Nat → Nat → Int} {g : Int} {A B C P : Nat → Int} : mSc z F (gup z 27 g) (F4 F A B C P) := ⟨fun k h _ => gup_ne h, fun k h1 h2 h3 h4 _ _ => by unfold F4; rw [gup_ne h4, gup_ne h3, gup_ne h2, gup_ne h1]⟩
/-- the placing, the sides of what isn't placed -1 -/
def lay0 (F : Nat → Nat → Int) (s np : Nat) (day : Int) : (Nat → Int) × (Nat → Int) := layA F s np day (fun _ => -1)
def layE (n : Nat) (a b : (Nat → Int) × (Nat → Int)) : Prop := a.2 = b.2 ∧ ∀ j, j < n → a.1 j = b.1 j
theorem lay1_E {F : Nat → Nat → Int} {s n : Nat} {day : Int} {i : Nat} {a b : (Nat → Int) × (Nat → Int)} (h : layE n a b) : layE n (lay1 F s day i a) (lay1 F s day i b) := by
  obtain ⟨h1, h2⟩ := h
  unfold lay1
  rw [h1]
  split
  · exact ⟨h1, h2⟩
  · refine ⟨rfl, fun j hj => ?_⟩
    show gup a.1 i _ j = gup b.1 i _ j
    unfold gup
    split
    · rfl
    · exact h2 j hj
theorem layIn_E {F : Nat → Nat → Int} {s n : Nat} {day h : Int} {a b : (Nat → Int) × (Nat → Int)} (e : layE n a b) : ∀ m : Nat, layE n (layIn F s day h a m) (layIn F s day h b m)
  | 0 => e
  | m + 1 => by
    rw [layIn_s, layIn_s]
    split
    · exact lay1_E (layIn_E e m)
    · exact layIn_E e m
theorem layUp_E {F : Nat → Nat → Int} {s np n : Nat} {day : Int} {a b : (Nat → Int) × (Nat → Int)} (e : layE n a b) : ∀ m : Nat, layE n (layUp F s np day a m) (layUp F s np day b m)
  | 0 => e
  | m + 1 => by rw [layUp_s, layUp_s]; exact layIn_E (layUp_E e m) np
theorem layA_E (F : Nat → Nat → Int) (s np : Nat) (day : Int) (C : Nat → Int) : layE np (layA F s np day C) (lay0 F s np day) := by
  unfold lay0 layA
  refine layUp_E (a := (upto (fun _ => -1) C np, dotP F s np)) (b := (upto (fun _ => -1) (fun _ => -1) np, dotP F s np)) ⟨rfl, fun j hj => ?_⟩ 5
  exact (@upto_lt Int (fun _ => -1) C np j hj).trans (@upto_lt Int (fun _ => -1) (fun _ => -1) np j hj).symm
theorem lay0_ok {z : Nat → Int} {F : Nat → Nat → Int} (hI : mI z F) {s np : Nat} (h : np ≤ 14) {on : Int} : Pok (lay0 F s np on).2 := layUp_ok hI (dotP_ok np) h 5
theorem sideF_rng {P : Nat → Int} {r c n : Int} : -1 ≤ sideF P r c n ∧ sideF P r c n ≤ 3 := by
  unfold sideF; split <;> (try split) <;> (try split) <;> (try split) <;> decide
def Sok (n : Nat) (C : Nat → Int) : Prop := ∀ j, j < n → -1 ≤ C j ∧ C j ≤ 3
theorem lay1_S {F : Nat → Nat → Int} {s n : Nat} {day : Int} {i : Nat} {a : (Nat → Int) × (Nat → Int)} (h : Sok n a.1) : Sok n (lay1 F s day i a).1 := by
  unfold lay1
  split
  · exact h
  · intro j hj
    show -1 ≤ gup a.1 i _ j ∧ gup a.1 i _ j ≤ 3
    unfold gup
    split
    · exact sideF_rng
    · exact h j hj
theorem layIn_S {F : Nat → Nat → Int} {s n : Nat} {day h : Int} {a : (Nat → Int) × (Nat → Int)} (e : Sok n a.1) : ∀ m : Nat, Sok n (layIn F s day h a m).1
  | 0 => e
  | m + 1 => by
    rw [layIn_s]
    split
    · exact lay1_S (layIn_S e m)
    · exact layIn_S e m
theorem layUp_S {F : Nat → Nat → Int} {s np n : Nat} {day : Int} {a : (Nat → Int) × (Nat → Int)} (e : Sok n a.1) : ∀ m : Nat, Sok n (layUp F s np day a m).1
  | 0 => e
  | m + 1 => by rw [layUp_s]; exact layIn_S (layUp_S e m) np
theorem layA_S (F : Nat → Nat → Int) (s np : Nat) (day : Int) (C : Nat → Int) : Sok np (layA F s np day C).1 := layUp_S (a := (upto (fun _ => -1) C np, dotP F s np)) (fun j hj => by have e : (upto (fun _ => -1) C np, dotP F s np).1 j = (-1 : Int) := @upto_lt Int (fun _ => -1) C np j hj; rw [e]; decide) 5
def sumW (C R : Nat → Int) : Nat → Int
  | 0 => 0
  | n + 1 => sumW C R n + (if C n = -1 then 0 else R n)
theorem sumW_s (C R : Nat → Int) (n : Nat) : sumW C R (n + 1) = sumW C R n + (if C n = -1 then 0 else R n) := rfl
theorem sumW_c {C C' R R' : Nat → Int} : ∀ n : Nat, (∀ j, j < n → C j = C' j ∧ R j = R' j) → sumW C R n = sumW C' R' n
  | 0, _ => rfl
  | n + 1, h => by rw [sumW_s, sumW_s, sumW_c n (fun j hj => h j (by omega)), (h n (by omega)).1, (h n (by omega)).2]
theorem sumW_rng {C R : Nat → Int} {M : Int} (hM : 0 ≤ M) : ∀ n : Nat, (∀ j, j < n → 0 ≤ R j ∧ R j ≤ M) → 0 ≤ sumW C R n ∧ sumW C R n ≤ M * n
  | 0, _ => by unfold sumW; simp
  | n + 1, h => by
    have ih := sumW_rng (C := C) hM n (fun j hj => h j (by omega))
    have h1 := h n (by omega)
    rw [sumW_s]
    have e : M * ((n + 1 : Nat) : Int) = M * n + M := by rw [Int.natCast_succ, Int.mul_add, Int.mul_one]
    split <;> omega

set_option maxHeartbeats 4000000 in
set_option maxRecDepth 100000 in
theorem kX7_side {l : Launch} (hl : l.stackTraces = false) {D : gD} {base mo : Nat} {ad : Nat → Nat} {z : Nat → Int} {F : Nat → Nat → Int} (hI : mI z F) (s p : Int) (rs : -2147483648 ≤ s ∧ s < 2147483648) (rp : -2147483648 ≤ p ∧ p < 2147483648) : mM l D base yX7_side cX7_side 3 (some Jvm.ClassFile.FieldType.int) 4 92 mo ad [vi (s), vi (p)] z F (fun r z' F' => r = some (if (((inB s 0 (z 11 - 1) && inB p 0 (z 3 - 1))) && (true) && true) = true then vi ((lay0 F s.toNat (z 3).toNat (z 0)).1 p.toNat) else vi 0) ∧ z' 27 = goesN ((inB s 0 (z 11 - 1) && inB p 0 (z 3 - 1))) (true) true ∧ mSc z F z' F') := by
  obtain ⟨i0, i1, i3, i11, i22, iw, ip, inn, inm, ish⟩ := id hI
  refine mM.of hl (by decide) (by simp [Value.category]) (Nat.le_of_ble_eq_true rfl) [some (.ref mo), some (vi (s)), some (vi (p))] rfl (fun gh x hC hq => ?_)
  refine m_ald_n hC dX7_side_0 rfl ?_
  refine g_cut (A := gVM x D base 3 mo ad gh 22 [some (.ref mo), some (vi (s)), some (vi (p))] [vi (b2i ((inB s 0 (z 11 - 1) && inB p 0 (z 3 - 1)))), .ref mo] (z) (F)) ?_ (fun j_22 => ?_)
  · refine m_iconst hC dX7_side_22 rfl ?_
    refine m_iconst hC dX7_side_23 rfl ?_
    refine m_callV (rest := []) hC (kX7_goes hl (inB s 0 (z 11 - 1) && inB p 0 (z 3 - 1)) true true) gc_RX7_91 rfl rfl ⟨by decide, by decide⟩ (Nat.le_of_ble_eq_true rfl) rfl dX7_side_24 (fun r z' F' hp => ?_)
    obtain ⟨rfl, hz, hF⟩ := hp
    rw [hz, hF]
    clear hz hF
    refine gVM.eqs (st' := [vi (b2i (((inB s 0 (z 11 - 1) && inB p 0 (z 3 - 1)) && true && true)))]) rfl rfl rfl rfl ?_
    refine m_ifne_b (tgt := 32) hC dX7_side_27 (by decide)  (fun hg => ?_) (fun hg => ?_)
    · have hg2 := hg
      simp only [Bool.and_eq_true, Bool.and_true, decide_eq_true_eq, inB_iff] at hg2
      obtain ⟨sn, rfl⟩ : ∃ sn : Nat, s = (sn : Int) := ⟨s.toNat, by omega⟩
      obtain ⟨pn, rfl⟩ : ∃ pn : Nat, p = (pn : Int) := ⟨p.toNat, by omega⟩
      have hI2 : mI (gup z 27 (goesN (inB (sn : Int) 0 (z 11 - 1) && inB (pn : Int) 0 (z 3 - 1)) true true)) F := hI
      refine m_ald_n hC dX7_side_32 rfl ?_
      refine m_iload_n hC dX7_side_33 rfl ?_
      refine m_callV (rest := []) hC (kX7_lays hl hI2 sn (by show (sn : Int) < z 11; omega)) gc_RX7_99 rfl rfl ⟨by decide, by decide⟩ (Nat.le_of_ble_eq_true rfl) rfl dX7_side_34 (fun r z' F' hp => ?_)
      obtain ⟨rfl, hz, hF⟩ := hp
      rw [hz, hF]
      clear hz hF
      refine gVM.eqs (st' := []) (F' := F4 F (upto (cN F sn) (F 15) (z 3).toNat) (upto (rN F sn) (F 16) (z 3).toNat) ((layA F sn (z 3).toNat (z 0) (F 17)).1) ((layA F sn (z 3).toNat (z 0) (F 17)).2)) rfl rfl rfl rfl ?_
      refine m_ald_n hC dX7_side_37 rfl ?_
      refine m_getA hC 17 dX7_side_38 gf_RX7_50 ⟨by decide, rfl⟩ ?_
      refine m_iload_n hC dX7_side_41 rfl ?_
      refine m_iald hC 17 (pn) dX7_side_42 ⟨by decide, rfl, rfl⟩ rfl (by simp only [mK]; omega) ?_
      refine m_top (b := ((layA F sn (z 3).toNat (z 0) (F 17)).1) (pn)) rfl ?_
      exact m_iret hC hq dX7_side_43 ⟨by rw [if_pos hg]; show some (vi ((layA F sn (z 3).toNat (z 0) (F 17)).1 pn)) = some (vi ((lay0 F sn (z 3).toNat (z 0)).1 pn)); rw [(layA_E F sn (z 3).toNat (z 0) (F 17)).2 pn (by omega)], gup_eq, mSc.f4⟩
    · refine m_iconst hC dX7_side_30 rfl ?_
      exact m_iret hC hq dX7_side_31 ⟨by rw [if_neg (by rw [hg]; decide)], gup_eq, mSc.rf⟩
  · refine m_ald_n hC dX7_side_1 rfl ?_
    refine m_iload_n hC dX7_side_2 rfl ?_
    refine m_callV (rest := [.ref mo]) hC (kX7_isSheet hl hI s (by omega)) gc_RX7_145 rfl rfl ⟨by decide, by decide⟩ (Nat.le_of_ble_eq_true rfl) rfl dX7_side_3 (fun r z' F' hp => ?_)
    obtain ⟨rfl, hz, hF⟩ := hp
    rw [hz, hF]
    clear hz hF
    refine gVM.eqs (st' := [vi (b2i (inB s 0 (z 11 - 1))), .ref mo]) rfl rfl rfl rfl ?_
    refine m_ifeq_b (tgt := 21) hC dX7_side_6 (by decide)  (fun c_6 => ?_) (fun c_6 => ?_)
    · refine m_iconst hC dX7_side_21 rfl ?_
      refine m_top (b := b2i ((inB s 0 (z 11 - 1) && inB p 0 (z 3 - 1)))) (b2i_f (by simp [c_6])) ?_
      exact j_22
    · refine m_ald_n hC dX7_side_9 rfl ?_
      refine m_iload_n hC dX7_side_10 rfl ?_
      refine m_callV (rest := [.ref mo]) hC (kX7_isPlace hl hI p (by omega)) gc_RX7_95 rfl rfl ⟨by decide, by decide⟩ (Nat.le_of_ble_eq_true rfl) rfl dX7_side_11 (fun r z' F' hp => ?_)
      obtain ⟨rfl, hz, hF⟩ := hp
      rw [hz, hF]
      clear hz hF
      refine gVM.eqs (st' := [vi (b2i (inB p 0 (z 3 - 1))), .ref mo]) rfl rfl rfl rfl ?_
      refine m_ifeq_b (tgt := 21) hC dX7_side_14 (by decide)  (fun c_14 => ?_) (fun c_14 => ?_)
      · refine m_iconst hC dX7_side_21 rfl ?_
        refine m_top (b := b2i ((inB s 0 (z 11 - 1) && inB p 0 (z 3 - 1)))) (b2i_f (by simp [c_6, c_14])) ?_
        exact j_22
      · refine m_iconst hC dX7_side_17 rfl ?_
        refine m_goto (tgt := 22) hC dX7_side_18 (by decide) ?_
        refine m_top (b := b2i ((inB s 0 (z 11 - 1) && inB p 0 (z 3 - 1)))) (b2i_t (by simp [c_6, c_14])) ?_
        exact j_22

set_option maxHeartbeats 4000000 in
set_option maxRecDepth 100000 in
theorem kX7_drawn {l : Launch} (hl : l.stackTraces = false) {D : gD} {base mo : Nat} {ad : Nat → Nat} {z : Nat → Int} {F : Nat → Nat → Int} (hI : mI z F) (s r c : Int) (rs : -2147483648 ≤ s ∧ s < 2147483648) (rr : -2147483648 ≤ r ∧ r < 2147483648) (rc : -2147483648 ≤ c ∧ c < 2147483648) : mM l D base yX7_drawn cX7_drawn 4 (some Jvm.ClassFile.FieldType.char) 4 92 mo ad [vi (s), vi (r), vi (c)] z F (fun r' z' F' => r' = some (if (((inB s 0 (z 11 - 1) && (inB r 0 23 && inB c 0 39))) && (true) && true) = true then vi ((lay0 F s.toNat (z 3).toNat (z 0)).2 (40 * r + c).toNat) else vi 32) ∧ z' 27 = goesN ((inB s 0 (z 11 - 1) && (inB r 0 23 && inB c 0 39))) (true) true ∧ mSc z F z' F') := by
  obtain ⟨i0, i1, i3, i11, i22, iw, ip, inn, inm, ish⟩ := id hI
  refine mM.of hl (by decide) (by simp [Value.category]) (Nat.le_of_ble_eq_true rfl) [some (.ref mo), some (vi (s)), some (vi (r)), some (vi (c))] rfl (fun gh x hC hq => ?_)
  refine m_ald_n hC dX7_drawn_0 rfl ?_
  refine g_cut (A := gVM x D base 4 mo ad gh 22 [some (.ref mo), some (vi (s)), some (vi (r)), some (vi (c))] [vi (b2i ((inB s 0 (z 11 - 1) && (inB r 0 23 && inB c 0 39)))), .ref mo] (z) (F)) ?_ (fun j_22 => ?_)
  · refine m_iconst hC dX7_drawn_22 rfl ?_
    refine m_iconst hC dX7_drawn_23 rfl ?_
    refine m_callV (rest := []) hC (kX7_goes hl (inB s 0 (z 11 - 1) && (inB r 0 23 && inB c 0 39)) true true) gc_RX7_91 rfl rfl ⟨by decide, by decide⟩ (Nat.le_of_ble_eq_true rfl) rfl dX7_drawn_24 (fun r z' F' hp => ?_)
    obtain ⟨rfl, hz, hF⟩ := hp
    rw [hz, hF]
    clear hz hF
    refine gVM.eqs (st' := [vi (b2i (((inB s 0 (z 11 - 1) && (inB r 0 23 && inB c 0 39)) && true && true)))]) rfl rfl rfl rfl ?_
    refine m_ifne_b (tgt := 33) hC dX7_drawn_27 (by decide)  (fun hg => ?_) (fun hg => ?_)
    · have hg2 := hg
      simp only [Bool.and_eq_true, Bool.and_true, decide_eq_true_eq, inB_iff] at hg2
      obtain ⟨sn, rfl⟩ : ∃ sn : Nat, s = (sn : Int) := ⟨s.toNat, by omega⟩
      have hI2 : mI (gup z 27 (goesN (inB (sn : Int) 0 (z 11 - 1) && (inB r 0 23 && inB c 0 39)) true true)) F := hI
      refine m_ald_n hC dX7_drawn_33 rfl ?_
      refine m_iload_n hC dX7_drawn_34 rfl ?_
      refine m_callV (rest := []) hC (kX7_lays hl hI2 sn (by show (sn : Int) < z 11; omega)) gc_RX7_99 rfl rfl ⟨by decide, by decide⟩ (Nat.le_of_ble_eq_true rfl) rfl dX7_drawn_35 (fun r z' F' hp => ?_)
      obtain ⟨rfl, hz, hF⟩ := hp
      rw [hz, hF]
      clear hz hF
      refine gVM.eqs (st' := []) (F' := F4 F (upto (cN F sn) (F 15) (z 3).toNat) (upto (rN F sn) (F 16) (z 3).toNat) ((layA F sn (z 3).toNat (z 0) (F 17)).1) ((layA F sn (z 3).toNat (z 0) (F 17)).2)) rfl rfl rfl rfl ?_
      have hE := layA_E F sn (z 3).toNat (z 0) (F 17)
      have hok := lay0_ok hI (s := sn) (np := (z 3).toNat) (by omega) (on := z 0) (40 * r + c).toNat
      rw [← hE.1] at hok
      refine m_ald_n hC dX7_drawn_38 rfl ?_
      refine m_getA hC 18 dX7_drawn_39 gf_RX7_53 ⟨by decide, rfl⟩ ?_
      refine m_bipush (v := 40) hC dX7_drawn_42 rfl ?_
      refine m_iload_n hC dX7_drawn_44 rfl ?_
      refine m_imul hC dX7_drawn_45 ?_
      refine m_iload_n hC dX7_drawn_46 rfl ?_
      refine m_iadd hC dX7_drawn_47 ?_
      refine m_cald hC 18 ((40 * r + c).toNat) dX7_drawn_48 ⟨by decide, rfl, rfl⟩ (by omega) (by simp only [mK]; omega) ?_
      refine m_top (b := ((layA F sn (z 3).toNat (z 0) (F 17)).2) ((40 * r + c).toNat)) rfl ?_
      exact m_cret hC hq (by omega) dX7_drawn_49 ⟨by rw [if_pos hg]; show some (vi ((layA F sn (z 3).toNat (z 0) (F 17)).2 (40 * r + c).toNat)) = some (vi ((lay0 F sn (z 3).toNat (z 0)).2 (40 * r + c).toNat)); rw [hE.1], gup_eq, mSc.f4⟩
    · refine m_bipush (v := 32) hC dX7_drawn_30 rfl ?_
      exact m_cret hC hq (by decide) dX7_drawn_32 ⟨by rw [if_neg (by rw [hg]; decide)], gup_eq, mSc.rf⟩
  · refine m_ald_n hC dX7_drawn_1 rfl ?_
    refine m_iload_n hC dX7_drawn_2 rfl ?_
    refine m_callV (rest := [.ref mo]) hC (kX7_isSheet hl hI s (by omega)) gc_RX7_145 rfl rfl ⟨by decide, by decide⟩ (Nat.le_of_ble_eq_true rfl) rfl dX7_drawn_3 (fun r z' F' hp => ?_)
    obtain ⟨rfl, hz, hF⟩ := hp
    rw [hz, hF]
    clear hz hF
    refine gVM.eqs (st' := [vi (b2i (inB s 0 (z 11 - 1))), .ref mo]) rfl rfl rfl rfl ?_
    refine m_ifeq_b (tgt := 21) hC dX7_drawn_6 (by decide)  (fun c_6 => ?_) (fun c_6 => ?_)
    · refine m_iconst hC dX7_drawn_21 rfl ?_
      refine m_top (b := b2i ((inB s 0 (z 11 - 1) && (inB r 0 23 && inB c 0 39)))) (b2i_f (by simp only [c_6]; rfl)) ?_
      exact j_22
    · refine m_iload_n hC dX7_drawn_9 rfl ?_
      refine m_iload_n hC dX7_drawn_10 rfl ?_
      refine m_callS (rest := [.ref mo]) hC (fun gh => kX7_isCell hl r c (by omega) (by omega) gh) gc_RX7_148 rfl ⟨by decide, by decide⟩ (Nat.le_of_ble_eq_true rfl) rfl dX7_drawn_11 (fun r hp => ?_)
      subst hp
      refine m_ifeq_b (tgt := 21) hC dX7_drawn_14 (by decide)  (fun c_14 => ?_) (fun c_14 => ?_)
      · refine m_iconst hC dX7_drawn_21 rfl ?_
        refine m_top (b := b2i ((inB s 0 (z 11 - 1) && (inB r 0 23 && inB c 0 39)))) (b2i_f (by simp only [c_6, c_14]; rfl)) ?_
        exact j_22
      · refine m_iconst hC dX7_drawn_17 rfl ?_
        refine m_goto (tgt := 22) hC dX7_drawn_18 (by decide) ?_
        refine m_top (b := b2i ((inB s 0 (z 11 - 1) && (inB r 0 23 && inB c 0 39)))) (b2i_t (by simp only [c_6, c_14]; rfl)) ?_
        exact j_22

set_option maxHeartbeats 4000000 in
set_option maxRecDepth 100000 in
theorem kX7_worth {l : Launch} (hl : l.stackTraces = false) {D : gD} {base mo : Nat} {ad : Nat → Nat} {z : Nat → Int} {F : Nat → Nat → Int} (hI : mI z F) (s : Int) (rs : -2147483648 ≤ s ∧ s < 2147483648) : mM l D base yX7_worth cX7_worth 4 (some Jvm.ClassFile.FieldType.int) 4 92 mo ad [vi (s)] z F (fun r z' F' => r = some (if ((inB s 0 (z 11 - 1)) && (true) && true) = true then vi (sumW (lay0 F s.toNat (z 3).toNat (z 0)).1 (F 6) (z 3).toNat) else vi 0) ∧ z' 27 = goesN (inB s 0 (z 11 - 1)) (true) true ∧ mSc z F z' F') := by
  obtain ⟨i0, i1, i3, i11, i22, iw, ip, inn, inm, ish⟩ := id hI
  refine mM.of hl (by decide) (by simp [Value.category]) (Nat.le_of_ble_eq_true rfl) [some (.ref mo), some (vi (s)), none, none] rfl (fun gh x hC hq => ?_)
  refine m_ald_n hC dX7_worth_0 rfl ?_
  refine m_ald_n hC dX7_worth_1 rfl ?_
  refine m_iload_n hC dX7_worth_2 rfl ?_
  refine m_callV (rest := [.ref mo]) hC (kX7_isSheet hl hI s (by omega)) gc_RX7_145 rfl rfl ⟨by decide, by decide⟩ (Nat.le_of_ble_eq_true rfl) rfl dX7_worth_3 (fun r z' F' hp => ?_)
  obtain ⟨rfl, hz, hF⟩ := hp
  rw [hz, hF]
  clear hz hF
  refine gVM.eqs (st' := [vi (b2i (inB s 0 (z 11 - 1))), .ref mo]) rfl rfl rfl rfl ?_
  refine m_iconst hC dX7_worth_6 rfl ?_
  refine m_iconst hC dX7_worth_7 rfl ?_
  refine m_callV (rest := []) hC (kX7_goes hl (inB s 0 (z 11 - 1)) true true) gc_RX7_91 rfl rfl ⟨by decide, by decide⟩ (Nat.le_of_ble_eq_true rfl) rfl dX7_worth_8 (fun r z' F' hp => ?_)
  obtain ⟨rfl, hz, hF⟩ := hp
  rw [hz, hF]
  clear hz hF
  refine gVM.eqs (st' := [vi (b2i (((inB s 0 (z 11 - 1)) && true && true)))]) rfl rfl rfl rfl ?_
  refine m_ifne_b (tgt := 16) hC dX7_worth_11 (by decide)  (fun hg => ?_) (fun hg => ?_)
  · have hg2 := hg
    simp only [Bool.and_eq_true, Bool.and_true, decide_eq_true_eq, inB_iff] at hg2
    obtain ⟨sn, rfl⟩ : ∃ sn : Nat, s = (sn : Int) := ⟨s.toNat, by omega⟩
    have hI2 : mI (gup z 27 (goesN (inB (sn : Int) 0 (z 11 - 1)) true true)) F := hI
    refine m_ald_n hC dX7_worth_16 rfl ?_
    refine m_iload_n hC dX7_worth_17 rfl ?_
    refine m_callV (rest := []) hC (kX7_lays hl hI2 sn (by show (sn : Int) < z 11; omega)) gc_RX7_99 rfl rfl ⟨by decide, by decide⟩ (Nat.le_of_ble_eq_true rfl) rfl dX7_worth_18 (fun r z' F' hp => ?_)
    obtain ⟨rfl, hz, hF⟩ := hp
    rw [hz, hF]
    clear hz hF
    refine gVM.eqs (st' := []) (F' := F4 F (upto (cN F sn) (F 15) (z 3).toNat) (upto (rN F sn) (F 16) (z 3).toNat) ((layA F sn (z 3).toNat (z 0) (F 17)).1) ((layA F sn (z 3).toNat (z 0) (F 17)).2)) rfl rfl rfl rfl ?_
    obtain ⟨C, eC⟩ : ∃ C, C = (layA F sn (z 3).toNat (z 0) (F 17)).1 := ⟨_, rfl⟩
    have hCr : Sok (z 3).toNat C := by rw [eC]; exact layA_S _ _ _ _ _
    rw [← eC]
    refine m_iconst hC dX7_worth_21 rfl ?_
    refine m_istore_n (lv' := [some (.ref mo), some (vi ((sn : Int))), some (vi (0)), none]) hC dX7_worth_22 (by decide) rfl ?_
    refine m_iconst hC dX7_worth_23 rfl ?_
    refine m_istore_n (lv' := [some (.ref mo), some (vi ((sn : Int))), some (vi (0)), some (vi (0))]) hC dX7_worth_24 (by decide) rfl ?_
    have lp : ∀ n : Nat, n ≤ (z 3).toNat → gVM x D base 4 mo ad gh 25 [some (.ref mo), some (vi ((sn : Int))), some (vi (sumW C (F 6) n)), some (vi (((n : Nat) : Int)))] [] (gup (z) 27 (goesN (inB (sn : Int) 0 (z 11 - 1)) true true)) (F4 F (upto (cN F sn) (F 15) (z 3).toNat) (upto (rN F sn) (F 16) (z 3).toNat) (C) ((layA F sn (z 3).toNat (z 0) (F 17)).2)) := by
      refine g_for _ (fun n hn ih => ?_) ?_
      · have hw := sumW_rng (C := C) (R := F 6) (M := 5) (by decide) n (fun j hj => by have := ip j (by omega); omega)
        have hp := ip n (by omega)
        have hcr := hCr n hn
        refine m_iload_n hC dX7_worth_25 rfl ?_
        refine m_ald_n hC dX7_worth_26 rfl ?_
        refine m_getI hC 3 dX7_worth_27 gf_RX7_78 ⟨by decide, rfl⟩ ?_
        refine m_top (b := z 3) rfl ?_
        refine m_icmp_ge (tgt := 62) hC dX7_worth_30 (by decide) (by omega) (by omega) (fun c_30 => False.elim (by omega)) (fun c_30 => ?_)
        refine m_iload_n hC dX7_worth_33 rfl ?_
        refine m_ald_n hC dX7_worth_34 rfl ?_
        refine m_getA hC 17 dX7_worth_35 gf_RX7_50 ⟨by decide, rfl⟩ ?_
        refine m_iload_n hC dX7_worth_38 rfl ?_
        refine m_iald hC 17 (n) dX7_worth_39 ⟨by decide, rfl, rfl⟩ rfl (by simp only [mK]; omega) ?_
        refine m_top (b := C (n)) rfl ?_
        refine m_iconst hC dX7_worth_40 rfl ?_
        refine m_icmp_eq (tgt := 53) hC dX7_worth_41 (by decide) (by omega) (by omega) (fun hc => ?_) (fun hc => ?_)
        · refine m_iconst hC dX7_worth_53 rfl ?_
          refine m_iadd hC dX7_worth_54 ?_
          refine m_istore_n (lv' := [some (.ref mo), some (vi ((sn : Int))), some (vi ((sumW C (F 6) n) + (0))), some (vi (((n : Nat) : Int)))]) hC dX7_worth_55 (by decide) rfl ?_
          refine m_iinc (lv' := [some (.ref mo), some (vi ((sn : Int))), some (vi ((sumW C (F 6) n) + (0))), some (vi (((n : Nat) : Int) + 1))]) hC dX7_worth_56 (by decide) rfl rfl ?_
          refine m_goto (tgt := 25) hC dX7_worth_59 (by decide) ?_
          refine gVM.eqs (lv' := [some (.ref mo), some (vi ((sn : Int))), some (vi (sumW C (F 6) (n + 1))), some (vi ((((n + 1) : Nat) : Int)))]) (lcons rfl (lcons rfl (lcons (svi (by rw [sumW_s, if_pos hc])) (lcons (svi (by omega)) rfl)))) rfl rfl rfl ih
        · refine m_ald_n hC dX7_worth_44 rfl ?_
          refine m_getA hC 6 dX7_worth_45 gf_RX7_20 ⟨by decide, rfl⟩ ?_
          refine m_iload_n hC dX7_worth_48 rfl ?_
          refine m_iald hC 6 (n) dX7_worth_49 ⟨by decide, rfl, rfl⟩ rfl (by simp only [mK]; omega) ?_
          refine m_top (b := F 6 (n)) rfl ?_
          refine m_goto (tgt := 54) hC dX7_worth_50 (by decide) ?_
          refine m_iadd hC dX7_worth_54 ?_
          refine m_istore_n (lv' := [some (.ref mo), some (vi ((sn : Int))), some (vi ((sumW C (F 6) n) + (F 6 (n)))), some (vi (((n : Nat) : Int)))]) hC dX7_worth_55 (by decide) rfl ?_
          refine m_iinc (lv' := [some (.ref mo), some (vi ((sn : Int))), some (vi ((sumW C (F 6) n) + (F 6 (n)))), some (vi (((n : Nat) : Int) + 1))]) hC dX7_worth_56 (by decide) rfl rfl ?_
          refine m_goto (tgt := 25) hC dX7_worth_59 (by decide) ?_
          refine gVM.eqs (lv' := [some (.ref mo), some (vi ((sn : Int))), some (vi (sumW C (F 6) (n + 1))), some (vi ((((n + 1) : Nat) : Int)))]) (lcons rfl (lcons rfl (lcons (svi (by rw [sumW_s, if_neg hc])) (lcons (svi (by omega)) rfl)))) rfl rfl rfl ih
      · refine m_iload_n hC dX7_worth_25 rfl ?_
        refine m_ald_n hC dX7_worth_26 rfl ?_
        refine m_getI hC 3 dX7_worth_27 gf_RX7_78 ⟨by decide, rfl⟩ ?_
        refine m_top (b := z 3) rfl ?_
        refine m_icmp_ge (tgt := 62) hC dX7_worth_30 (by decide) (by omega) (by omega) (fun c_30 => ?_) (fun c_30 => False.elim (by omega))
        refine m_iload_n hC dX7_worth_62 rfl ?_
        exact m_iret hC hq dX7_worth_63 ⟨by rw [if_pos hg]; show some (vi (sumW C (F 6) (z 3).toNat)) = some (vi (sumW (lay0 F sn (z 3).toNat (z 0)).1 (F 6) (z 3).toNat)); exact congrArg (fun q => some (vi q)) (sumW_c (z 3).toNat (fun j hj => ⟨by rw [eC]; exact (layA_E F sn (z 3).toNat (z 0) (F 17)).2 j hj, rfl⟩)), gup_eq, mSc.f4⟩
    refine gVM.eqs (lv' := [some (.ref mo), some (vi ((sn : Int))), some (vi (sumW C (F 6) 0)), some (vi (((0 : Nat) : Int)))]) (lcons rfl (lcons rfl (lcons (svi (rfl)) (lcons (svi (by omega)) rfl)))) rfl rfl rfl (lp 0 (Nat.zero_le _))
  · refine m_iconst hC dX7_worth_14 rfl ?_
    exact m_iret hC hq dX7_worth_15 ⟨by rw [if_neg (by rw [hg]; decide)], gup_eq, mSc.rf⟩

end M7
