/-! the class: ranges, the signs of a sheet -/
section C2
def sgn (P : Nat → Int) (r c : Int) : Int := if (inB r 0 23 && inB c 0 39) = true then P (40 * r + c).toNat else 32
def setP (P : Nat → Int) (r c v : Int) : Nat → Int := if (inB r 0 23 && inB c 0 39) = true then gup P (40 * r + c).toNat v else P
theorem gridB {r c : Int} (h : (inB r 0 23 && inB c 0 39) = true) : (0 ≤ r ∧ r ≤ 23) ∧ 0 ≤ c ∧ c ≤ 39 := by
  rw [Bool.and_eq_true, inB_iff, inB_iff] at h
  exact h
theorem gridB' {r c : Int} (h : (0 ≤ r ∧ r ≤ 23) ∧ 0 ≤ c ∧ c ≤ 39) : (inB r 0 23 && inB c 0 39) = true := by
  rw [Bool.and_eq_true, inB_iff, inB_iff]
  exact h
theorem sgn_ok {P : Nat → Int} (h : Pok P) (r c : Int) : 0 ≤ sgn P r c ∧ sgn P r c ≤ 122 := by
  unfold sgn
  split
  · exact h _
  · decide
theorem sgn_46 {P : Nat → Int} {r c : Int} : sgn P r c = 46 ↔ ((0 ≤ r ∧ r ≤ 23) ∧ 0 ≤ c ∧ c ≤ 39) ∧ P (40 * r + c).toNat = 46 := by
  unfold sgn
  split
  · next h => exact Iff.intro (fun e => ⟨gridB h, e⟩) (fun e => e.2)
  · next h => exact Iff.intro (fun e => by cases e) (fun e => absurd (gridB' e.1) h)
def freeG (P : Nat → Int) (r c : Int) : Nat → Bool
  | 0 => true
  | n + 1 => freeG P r c n && decide (sgn P r (c + n) = 46)
theorem freeG_s (P : Nat → Int) (r c : Int) (n : Nat) : freeG P r c (n + 1) = (freeG P r c n && decide (sgn P r (c + n) = 46)) := rfl
theorem freeG_iff {P : Nat → Int} {r c : Int} : ∀ {n : Nat}, freeG P r c n = true ↔ ∀ t : Nat, t < n → sgn P r (c + t) = 46
  | 0 => by simp [freeG]
  | n + 1 => by
    rw [freeG_s, Bool.and_eq_true, freeG_iff, decide_eq_true_iff]
    constructor
    · intro h t ht
      by_cases e : t = n
      · rw [e]; exact h.2
      · exact h.1 t (by omega)
    · intro h
      exact ⟨fun t ht => h t (by omega), h n (by omega)⟩
theorem freeG_mono {P : Nat → Int} {r c : Int} {m n : Nat} (h : m ≤ n) (e : freeG P r c m = false) : freeG P r c n = false := by
  cases h2 : freeG P r c n with
  | false => rfl
  | true =>
    have := (freeG_iff (n := m)).mpr (fun t ht => freeG_iff.mp h2 t (by omega))
    rw [this] at e
    cases e
theorem freeG_may {P : Nat → Int} {r c : Int} {n : Nat} (hn : 1 ≤ n) : freeG P r c n = mayB P r c n := by
  rw [Bool.eq_iff_iff, freeG_iff]
  unfold mayB
  rw [Bool.and_eq_true, fitB_iff, freeN_iff]
  constructor
  · intro h
    have h0 := sgn_46.mp (h 0 (by omega))
    have h1 := sgn_46.mp (h (n - 1) (by omega))
    refine ⟨⟨h0.1.1, by omega, by omega⟩, fun t ht => ?_⟩
    have h2 := sgn_46.mp (h t (by omega))
    rw [← h2.2]
    congr 1
    omega
  · intro h t ht
    refine sgn_46.mpr ⟨⟨h.1.1, by omega, by omega⟩, ?_⟩
    rw [← h.2 t (by omega)]
    congr 1
    omega
theorem setP_fit {P : Nat → Int} {b : Nat} {L : Nat → Int} {r c : Int} {n t : Nat} (hf : fitB r c n = true) (hb : b = (40 * r + c).toNat) (ht : t < n) : setP (putN P b L t) r (c + t) (L t) = putN P b L (t + 1) := by
  have h := fitB_iff.mp hf
  unfold setP
  rw [if_pos (gridB' ⟨h.1, by omega, by omega⟩)]
  show gup _ _ _ = gup _ _ _
  congr 1
  omega
theorem gset_self {gh : gH} {a : Nat} {c : gC} (h : gh a = some c) : gset gh a c = gh := by
  funext q
  unfold gset
  split
  · next e => rw [e, h]
  · rfl
set_option maxHeartbeats 4000000 in
set_option maxRecDepth 100000 in
theorem kX6_isWithin {l : Launch} (hl : l.stackTraces = false) {D : gD} {base : Nat}  (a lo hi : Int) (ra_ : -2147483648 ≤ a ∧ a < 2147483648) (rlo_ : -2147483648 ≤ lo ∧ lo < 2147483648) (rhi_ : -2147483648 ≤ hi ∧ hi < 2147483648) (gh : gH)   : gM l D base yX6_isWithin cX6_isWithin 3 (some Jvm.ClassFile.FieldType.boolean) 0 0 0 0 [vi (a), vi (lo), vi (hi)] gh (fun r gh' => r = some (vi (b2i (inB a lo hi))) ∧ gh' = gh) gNo := by
  refine gM.of hl (by decide) (by simp [Value.category]) (Nat.le_of_ble_eq_true rfl) [some (vi (a)), some (vi (lo)), some (vi (hi))] rfl (fun x hC hq => ?_)
  refine g_iload_n hC dX6_isWithin_0 rfl ?_
  refine g_iload_n hC dX6_isWithin_1 rfl ?_
  refine g_icmp_lt (tgt := 14) hC dX6_isWithin_2 (by decide) (by omega) (by omega) (fun c_2 => ?_) (fun c_2 => ?_)
  · refine g_iconst hC dX6_isWithin_14 rfl ?_
    refine g_top (b := b2i (inB a lo hi)) (b2i_f (by first | rfl | (simp [c_2]; done) | (simp [inB, c_2]; done) | (simp only [inB, c_2]; simp; omega) | (simp [inB]; omega))) ?_
    exact g_bret hC hq dX6_isWithin_15 (by decide) (by decide) ⟨rfl, rfl⟩
  · refine g_iload_n hC dX6_isWithin_5 rfl ?_
    refine g_iload_n hC dX6_isWithin_6 rfl ?_
    refine g_icmp_gt (tgt := 14) hC dX6_isWithin_7 (by decide) (by omega) (by omega) (fun c_7 => ?_) (fun c_7 => ?_)
    · refine g_iconst hC dX6_isWithin_14 rfl ?_
      refine g_top (b := b2i (inB a lo hi)) (b2i_f (by first | rfl | (simp [c_2, c_7]; done) | (simp [inB, c_2, c_7]; done) | (simp only [inB, c_2, c_7]; simp; omega) | (simp [inB]; omega))) ?_
      exact g_bret hC hq dX6_isWithin_15 (by decide) (by decide) ⟨rfl, rfl⟩
    · refine g_iconst hC dX6_isWithin_10 rfl ?_
      refine g_goto (tgt := 15) hC dX6_isWithin_11 (by decide) ?_
      refine g_top (b := b2i (inB a lo hi)) (b2i_t (by first | rfl | (simp [c_2, c_7]; done) | (simp [inB, c_2, c_7]; done) | (simp only [inB, c_2, c_7]; simp; omega) | (simp [inB]; omega))) ?_
      exact g_bret hC hq dX6_isWithin_15 (by decide) (by decide) ⟨rfl, rfl⟩

set_option maxHeartbeats 4000000 in
set_option maxRecDepth 100000 in
theorem kX6_isOnGrid {l : Launch} (hl : l.stackTraces = false) {D : gD} {base : Nat}  (r c : Int) (rr_ : -2147483648 ≤ r ∧ r < 2147483648) (rc_ : -2147483648 ≤ c ∧ c < 2147483648) (gh : gH)   : gM l D base yX6_isOnGrid cX6_isOnGrid 2 (some Jvm.ClassFile.FieldType.boolean) 1 22 0 0 [vi (r), vi (c)] gh (fun r' gh' => r' = some (vi (b2i (inB r 0 23 && inB c 0 39))) ∧ gh' = gh) gNo := by
  refine gM.of hl (by decide) (by simp [Value.category]) (Nat.le_of_ble_eq_true rfl) [some (vi (r)), some (vi (c))] rfl (fun x hC hq => ?_)
  refine g_iload_n hC dX6_isOnGrid_0 rfl ?_
  refine g_if_lt (tgt := 24) hC dX6_isOnGrid_1 (by decide) (by omega) (fun c_1 => ?_) (fun c_1 => ?_)
  · refine g_iconst hC dX6_isOnGrid_24 rfl ?_
    refine g_top (b := b2i (inB r 0 23 && inB c 0 39)) (b2i_f (by first | rfl | (simp [c_1]; done) | (simp [inB, c_1]; done) | (simp only [inB, c_1]; simp; omega) | (simp [inB]; omega))) ?_
    exact g_bret hC hq dX6_isOnGrid_25 (by decide) (by decide) ⟨rfl, rfl⟩
  · refine g_iload_n hC dX6_isOnGrid_4 rfl ?_
    refine g_bipush (z := 24) hC dX6_isOnGrid_5 rfl ?_
    refine g_icmp_ge (tgt := 24) hC dX6_isOnGrid_7 (by decide) (by omega) (by omega) (fun c_7 => ?_) (fun c_7 => ?_)
    · refine g_iconst hC dX6_isOnGrid_24 rfl ?_
      refine g_top (b := b2i (inB r 0 23 && inB c 0 39)) (b2i_f (by first | rfl | (simp [c_1, c_7]; done) | (simp [inB, c_1, c_7]; done) | (simp only [inB, c_1, c_7]; simp; omega) | (simp [inB]; omega))) ?_
      exact g_bret hC hq dX6_isOnGrid_25 (by decide) (by decide) ⟨rfl, rfl⟩
    · refine g_iload_n hC dX6_isOnGrid_10 rfl ?_
      refine g_if_lt (tgt := 24) hC dX6_isOnGrid_11 (by decide) (by omega) (fun c_11 => ?_) (fun c_11 => ?_)
      · refine g_iconst hC dX6_isOnGrid_24 rfl ?_
        refine g_top (b := b2i (inB r 0 23 && inB c 0 39)) (b2i_f (by first | rfl | (simp [c_1, c_7, c_11]; done) | (simp [inB, c_1, c_7, c_11]; done) | (simp only [inB, c_1, c_7, c_11]; simp; omega) | (simp [inB]; omega))) ?_
        exact g_bret hC hq dX6_isOnGrid_25 (by decide) (by decide) ⟨rfl, rfl⟩
      · refine g_iload_n hC dX6_isOnGrid_14 rfl ?_
        refine g_bipush (z := 40) hC dX6_isOnGrid_15 rfl ?_
        refine g_icmp_ge (tgt := 24) hC dX6_isOnGrid_17 (by decide) (by omega) (by omega) (fun c_17 => ?_) (fun c_17 => ?_)
        · refine g_iconst hC dX6_isOnGrid_24 rfl ?_
          refine g_top (b := b2i (inB r 0 23 && inB c 0 39)) (b2i_f (by first | rfl | (simp [c_1, c_7, c_11, c_17]; done) | (simp [inB, c_1, c_7, c_11, c_17]; done) | (simp only [inB, c_1, c_7, c_11, c_17]; simp; omega) | (simp [inB]; omega))) ?_
          exact g_bret hC hq dX6_isOnGrid_25 (by decide) (by decide) ⟨rfl, rfl⟩
        · refine g_iconst hC dX6_isOnGrid_20 rfl ?_
          refine g_goto (tgt := 25) hC dX6_isOnGrid_21 (by decide) ?_
          refine g_top (b := b2i (inB r 0 23 && inB c 0 39)) (b2i_t (by first | rfl | (simp [c_1, c_7, c_11, c_17]; done) | (simp [inB, c_1, c_7, c_11, c_17]; done) | (simp only [inB, c_1, c_7, c_11, c_17]; simp; omega) | (simp [inB]; omega))) ?_
          exact g_bret hC hq dX6_isOnGrid_25 (by decide) (by decide) ⟨rfl, rfl⟩

set_option maxHeartbeats 4000000 in
set_option maxRecDepth 100000 in
theorem kX1_signAt {l : Launch} (hl : l.stackTraces = false) {D : gD} {base : Nat}  {g s : Nat} {P : Nat → Int} (hP : Pok P) (r c : Int) (rr_ : -2147483648 ≤ r ∧ r < 2147483648) (rc_ : -2147483648 ≤ c ∧ c < 2147483648) (gh : gH) (hg : gh g = some (gO 5 [.ref s])) (hs : gh s = some (gI 0 960 (P)))  : gM l D base yX1_signAt cX1_signAt 3 (some Jvm.ClassFile.FieldType.char) 2 43 0 0 [.ref g, vi (r), vi (c)] gh (fun r' gh' => r' = some (vi (sgn P r c)) ∧ gh' = gh) gNo := by
  refine gM.of hl (by decide) (by simp [Value.category]) (Nat.le_of_ble_eq_true rfl) [some (.ref g), some (vi (r)), some (vi (c))] rfl (fun x hC hq => ?_)
  refine g_iload_n hC dX1_signAt_0 rfl ?_
  refine g_iload_n hC dX1_signAt_1 rfl ?_
  refine g_callSN (rest := []) hC (kX6_isOnGrid hl r c (by omega) (by omega) gh ) gc_RX1_15 rfl ⟨by decide, by decide⟩ ⟨by decide, by decide⟩ (Nat.le_of_ble_eq_true rfl) rfl dX1_signAt_2 (fun r gh' hp => ?_)
  obtain ⟨rfl, hgh⟩ := hp
  rw [hgh]
  clear hgh
  refine gV.eqs (st' := [vi (b2i (inB r 0 23 && inB c 0 39))]) rfl rfl rfl ?_
  refine g_ifeq_b (tgt := 22) hC dX1_signAt_5 (by decide)  (fun hG => ?_) (fun hG => ?_)
  · refine g_bipush (z := 32) hC dX1_signAt_22 rfl ?_
    refine g_top (b := sgn P r c) (by unfold sgn; rw [hG]; rfl) ?_
    have hv := sgn_ok hP r c
    exact g_cret hC hq (by omega) dX1_signAt_24 (by decide) (by decide) ⟨rfl, rfl⟩
  · have hr := gridB hG
    refine g_ald_n hC dX1_signAt_8 rfl ?_
    refine g_get hC dX1_signAt_9 gf_RX1_9 hg rfl ?_
    refine g_iload_n hC dX1_signAt_12 rfl ?_
    refine g_bipush (z := 40) hC dX1_signAt_13 rfl ?_
    refine g_imul hC dX1_signAt_15 ?_
    refine g_iload_n hC dX1_signAt_16 rfl ?_
    refine g_iadd hC dX1_signAt_17 ?_
    refine g_caldK hC ((40 * r + c).toNat) dX1_signAt_18 hs (by omega) (by omega) (by omega) ?_
    refine g_goto (tgt := 24) hC dX1_signAt_19 (by decide) ?_
    refine g_top (b := sgn P r c) (by unfold sgn; rw [if_pos hG]) ?_
    have hv := sgn_ok hP r c
    exact g_cret hC hq (by omega) dX1_signAt_24 (by decide) (by decide) ⟨rfl, rfl⟩

set_option maxHeartbeats 4000000 in
set_option maxRecDepth 100000 in
theorem kX1_setSign {l : Launch} (hl : l.stackTraces = false) {D : gD} {base : Nat}  {g s : Nat} {P : Nat → Int} (r c v : Int) (hv : 0 ≤ v ∧ v < 65536) (rr_ : -2147483648 ≤ r ∧ r < 2147483648) (rc_ : -2147483648 ≤ c ∧ c < 2147483648) (gh : gH) (hg : gh g = some (gO 5 [.ref s])) (hs : gh s = some (gI 0 960 (P)))  : gM l D base yX1_setSign cX1_setSign 4 none 2 43 0 0 [.ref g, vi (r), vi (c), vi (v)] gh (fun r' gh' => r' = none ∧ gh' = gset gh s (gI 0 960 (setP P r c v))) gNo := by
  refine gM.of hl (by decide) (by simp [Value.category]) (Nat.le_of_ble_eq_true rfl) [some (.ref g), some (vi (r)), some (vi (c)), some (vi (v))] rfl (fun x hC hq => ?_)
  refine g_iload_n hC dX1_setSign_0 rfl ?_
  refine g_iload_n hC dX1_setSign_1 rfl ?_
  refine g_callSN (rest := []) hC (kX6_isOnGrid hl r c (by omega) (by omega) gh ) gc_RX1_15 rfl ⟨by decide, by decide⟩ ⟨by decide, by decide⟩ (Nat.le_of_ble_eq_true rfl) rfl dX1_setSign_2 (fun r gh' hp => ?_)
  obtain ⟨rfl, hgh⟩ := hp
  rw [hgh]
  clear hgh
  refine gV.eqs (st' := [vi (b2i (inB r 0 23 && inB c 0 39))]) rfl rfl rfl ?_
  refine g_ifeq_b (tgt := 20) hC dX1_setSign_5 (by decide)  (fun hG => ?_) (fun hG => ?_)
  · exact g_vret hC hq dX1_setSign_20 (by decide) (by decide) ⟨rfl, by unfold setP; rw [if_neg (by rw [hG]; decide), gset_self hs]⟩
  · have hr := gridB hG
    refine g_ald_n hC dX1_setSign_8 rfl ?_
    refine g_get hC dX1_setSign_9 gf_RX1_9 hg rfl ?_
    refine g_iload_n hC dX1_setSign_12 rfl ?_
    refine g_bipush (z := 40) hC dX1_setSign_13 rfl ?_
    refine g_imul hC dX1_setSign_15 ?_
    refine g_iload_n hC dX1_setSign_16 rfl ?_
    refine g_iadd hC dX1_setSign_17 ?_
    refine g_iload_n hC dX1_setSign_18 rfl ?_
    refine g_castK hC ((40 * r + c).toNat) dX1_setSign_19 hs (by omega) (by omega) (by omega) (by omega) ?_
    obtain ⟨gh1, egh1⟩ : ∃ g_, g_ = gset gh s (gI 0 960 (gup (P) ((40 * r + c).toNat) (v))) := ⟨_, rfl⟩
    rw [← egh1]
    have h2 : gh1 g = some (gO 5 [.ref s]) := by rw [egh1, gset_ne (gne hg hs (by simp))]; exact hg
    have h3 : gh1 s = some (gI 0 960 (gup (P) ((40 * r + c).toNat) (v))) := by rw [egh1]; exact gset_eq
    exact g_vret hC hq dX1_setSign_20 (by decide) (by decide) ⟨rfl, by rw [egh1]; unfold setP; rw [if_pos hG]⟩

set_option maxHeartbeats 4000000 in
set_option maxRecDepth 100000 in
theorem kX1_clear {l : Launch} (hl : l.stackTraces = false) {D : gD} {base : Nat}  {g s : Nat} {P : Nat → Int} (gh : gH) (hg : gh g = some (gO 5 [.ref s])) (hs : gh s = some (gI 0 960 (P)))  : gM l D base yX1_clear cX1_clear 2 none 0 0 0 0 [.ref g] gh (fun r gh' => r = none ∧ gh' = gset gh s (gI 0 960 (fun _ => 46))) gNo := by
  refine gM.of hl (by decide) (by simp [Value.category]) (Nat.le_of_ble_eq_true rfl) [some (.ref g), none] rfl (fun x hC hq => ?_)
  refine g_iconst hC dX1_clear_0 rfl ?_
  refine g_istore_n (lv' := [some (.ref g), some (vi (0))]) hC dX1_clear_1 (by decide) rfl ?_
  have lp : ∀ n : Nat, n ≤ 960 → gV x D base 2 2 [some (.ref g), some (vi ((n : Int)))] [] (gset gh s (gI 0 960 (upto (fun _ => 46) P n))) (0) (0) := by
    refine g_for _ (fun n hn ih => ?_) ?_
    · obtain ⟨gh1, egh1⟩ : ∃ g_, g_ = gset gh s (gI 0 960 (upto (fun _ => 46) P n)) := ⟨_, rfl⟩
      rw [← egh1]
      have h2 : gh1 g = some (gO 5 [.ref s]) := by rw [egh1, gset_ne (gne hg hs (by simp))]; exact hg
      have h3 : gh1 s = some (gI 0 960 (upto (fun _ => 46) P n)) := by rw [egh1]; exact gset_eq
      refine g_iload_n hC dX1_clear_2 rfl ?_
      refine g_ald_n hC dX1_clear_3 rfl ?_
      refine g_get hC dX1_clear_4 gf_RX1_9 h2 rfl ?_
      refine g_alenI hC dX1_clear_7 h3 (by decide) ?_
      refine g_top (b := 960) rfl ?_
      refine g_icmp_ge (tgt := 25) hC dX1_clear_8 (by decide) (by omega) (by omega) (fun c_8 => False.elim (by omega)) (fun c_8 => ?_)
      refine g_ald_n hC dX1_clear_11 rfl ?_
      refine g_get hC dX1_clear_12 gf_RX1_9 h2 rfl ?_
      refine g_iload_n hC dX1_clear_15 rfl ?_
      refine g_bipush (z := 46) hC dX1_clear_16 rfl ?_
      refine g_castK hC (n) dX1_clear_18 h3 (by omega) (by omega) (by omega) (by omega) ?_
      obtain ⟨gh4, egh4⟩ : ∃ g_, g_ = gset gh1 s (gI 0 960 (gup (upto (fun _ => 46) P n) (n) (46))) := ⟨_, rfl⟩
      rw [← egh4]
      have h5 : gh4 g = some (gO 5 [.ref s]) := by rw [egh4, gset_ne (gne h2 h3 (by simp))]; exact h2
      have h6 : gh4 s = some (gI 0 960 (gup (upto (fun _ => 46) P n) (n) (46))) := by rw [egh4]; exact gset_eq
      refine g_iinc (lv' := [some (.ref g), some (vi ((n : Int) + 1))]) hC dX1_clear_19 (by decide) rfl rfl ?_
      refine g_goto (tgt := 2) hC dX1_clear_22 (by decide) ?_
      refine gV.eqs (lv' := [some (.ref g), some (vi ((((n + 1) : Nat) : Int)))]) (lcons rfl (lcons (svi (by omega)) rfl)) rfl (by rw [egh4, egh1, gset_set, upto_s _ _ _ rfl]) ih
    · obtain ⟨gh7, egh7⟩ : ∃ g_, g_ = gset gh s (gI 0 960 (upto (fun _ => 46) P 960)) := ⟨_, rfl⟩
      rw [← egh7]
      have h8 : gh7 g = some (gO 5 [.ref s]) := by rw [egh7, gset_ne (gne hg hs (by simp))]; exact hg
      have h9 : gh7 s = some (gI 0 960 (upto (fun _ => 46) P 960)) := by rw [egh7]; exact gset_eq
      refine g_iload_n hC dX1_clear_2 rfl ?_
      refine g_ald_n hC dX1_clear_3 rfl ?_
      refine g_get hC dX1_clear_4 gf_RX1_9 h8 rfl ?_
      refine g_alenI hC dX1_clear_7 h9 (by decide) ?_
      refine g_top (b := 960) rfl ?_
      refine g_icmp_ge (tgt := 25) hC dX1_clear_8 (by decide) (by omega) (by omega) (fun c_8 => ?_) (fun c_8 => False.elim (by omega))
      refine gV.canon (fun _ => 46) h9 (fun j hj => upto_lt hj) ?_
      exact g_vret hC hq dX1_clear_25 (by decide) (by decide) ⟨rfl, by rw [egh7, gset_set]⟩
  refine gV.eqs (lv' := [some (.ref g), some (vi (((0 : Nat) : Int)))]) rfl rfl (by rw [upto_0, gset_self hs]) (lp 0 (Nat.zero_le _))

set_option maxHeartbeats 4000000 in
set_option maxRecDepth 100000 in
theorem kX1_copyFrom {l : Launch} (hl : l.stackTraces = false) {D : gD} {base : Nat}  {g s o so : Nat} {P Q : Nat → Int} (hQ : Pok Q) (hne : so ≠ s) (hgo : o ≠ s) (gh : gH) (hg : gh g = some (gO 5 [.ref s])) (hs : gh s = some (gI 0 960 (P))) (hgo : gh o = some (gO 5 [.ref so])) (hso : gh so = some (gI 0 960 (Q)))  : gM l D base yX1_copyFrom cX1_copyFrom 3 none 0 0 0 0 [.ref g, .ref o] gh (fun r gh' => r = none ∧ gh' = gset gh s (gI 0 960 Q)) gNo := by
  refine gM.of hl (by decide) (by simp [Value.category]) (Nat.le_of_ble_eq_true rfl) [some (.ref g), some (.ref o), none] rfl (fun x hC hq => ?_)
  refine g_iconst hC dX1_copyFrom_0 rfl ?_
  refine g_istore_n (lv' := [some (.ref g), some (.ref o), some (vi (0))]) hC dX1_copyFrom_1 (by decide) rfl ?_
  have lp : ∀ n : Nat, n ≤ 960 → gV x D base 3 2 [some (.ref g), some (.ref o), some (vi ((n : Int)))] [] (gset gh s (gI 0 960 (upto Q P n))) (0) (0) := by
    refine g_for _ (fun n hn ih => ?_) ?_
    · obtain ⟨gh1, egh1⟩ : ∃ g_, g_ = gset gh s (gI 0 960 (upto Q P n)) := ⟨_, rfl⟩
      rw [← egh1]
      have h2 : gh1 g = some (gO 5 [.ref s]) := by rw [egh1, gset_ne (gne hg hs (by simp))]; exact hg
      have h3 : gh1 o = some (gO 5 [.ref so]) := by rw [egh1, gset_ne (gne hgo hs (by simp))]; exact hgo
      have h4 : gh1 so = some (gI 0 960 (Q)) := by rw [egh1, gset_ne hne]; exact hso
      have h5 : gh1 s = some (gI 0 960 (upto Q P n)) := by rw [egh1]; exact gset_eq
      have hqn := hQ n
      refine g_iload_n hC dX1_copyFrom_2 rfl ?_
      refine g_ald_n hC dX1_copyFrom_3 rfl ?_
      refine g_get hC dX1_copyFrom_4 gf_RX1_9 h2 rfl ?_
      refine g_alenI hC dX1_copyFrom_7 h5 (by decide) ?_
      refine g_top (b := 960) rfl ?_
      refine g_icmp_ge (tgt := 38) hC dX1_copyFrom_8 (by decide) (by omega) (by omega) (fun c_8 => False.elim (by omega)) (fun c_8 => ?_)
      refine g_iload_n hC dX1_copyFrom_11 rfl ?_
      refine g_ald_n hC dX1_copyFrom_12 rfl ?_
      refine g_get hC dX1_copyFrom_13 gf_RX1_9 h3 rfl ?_
      refine g_alenI hC dX1_copyFrom_16 h4 (by decide) ?_
      refine g_top (b := 960) rfl ?_
      refine g_icmp_ge (tgt := 38) hC dX1_copyFrom_17 (by decide) (by omega) (by omega) (fun c_17 => False.elim (by omega)) (fun c_17 => ?_)
      refine g_ald_n hC dX1_copyFrom_20 rfl ?_
      refine g_get hC dX1_copyFrom_21 gf_RX1_9 h2 rfl ?_
      refine g_iload_n hC dX1_copyFrom_24 rfl ?_
      refine g_ald_n hC dX1_copyFrom_25 rfl ?_
      refine g_get hC dX1_copyFrom_26 gf_RX1_9 h3 rfl ?_
      refine g_iload_n hC dX1_copyFrom_29 rfl ?_
      refine g_caldK hC (n) dX1_copyFrom_30 h4 (by omega) (by omega) (by omega) ?_
      refine g_castK hC (n) dX1_copyFrom_31 h5 (by omega) (by omega) (by omega) (by omega) ?_
      obtain ⟨gh6, egh6⟩ : ∃ g_, g_ = gset gh1 s (gI 0 960 (gup (upto Q P n) (n) (Q (n)))) := ⟨_, rfl⟩
      rw [← egh6]
      have h7 : gh6 g = some (gO 5 [.ref s]) := by rw [egh6, gset_ne (gne h2 h5 (by simp))]; exact h2
      have h8 : gh6 o = some (gO 5 [.ref so]) := by rw [egh6, gset_ne (gne h3 h5 (by simp))]; exact h3
      have h9 : gh6 so = some (gI 0 960 (Q)) := by rw [egh6, gset_ne hne]; exact h4
      have h10 : gh6 s = some (gI 0 960 (gup (upto Q P n) (n) (Q (n)))) := by rw [egh6]; exact gset_eq
      refine g_iinc (lv' := [some (.ref g), some (.ref o), some (vi ((n : Int) + 1))]) hC dX1_copyFrom_32 (by decide) rfl rfl ?_
      refine g_goto (tgt := 2) hC dX1_copyFrom_35 (by decide) ?_
      refine gV.eqs (lv' := [some (.ref g), some (.ref o), some (vi ((((n + 1) : Nat) : Int)))]) (lcons rfl (lcons rfl (lcons (svi (by omega)) rfl))) rfl (by rw [egh6, egh1, gset_set, upto_s _ _ _ rfl]) ih
    · obtain ⟨gh11, egh11⟩ : ∃ g_, g_ = gset gh s (gI 0 960 (upto Q P 960)) := ⟨_, rfl⟩
      rw [← egh11]
      have h12 : gh11 g = some (gO 5 [.ref s]) := by rw [egh11, gset_ne (gne hg hs (by simp))]; exact hg
      have h13 : gh11 o = some (gO 5 [.ref so]) := by rw [egh11, gset_ne (gne hgo hs (by simp))]; exact hgo
      have h14 : gh11 so = some (gI 0 960 (Q)) := by rw [egh11, gset_ne hne]; exact hso
      have h15 : gh11 s = some (gI 0 960 (upto Q P 960)) := by rw [egh11]; exact gset_eq
      refine g_iload_n hC dX1_copyFrom_2 rfl ?_
      refine g_ald_n hC dX1_copyFrom_3 rfl ?_
      refine g_get hC dX1_copyFrom_4 gf_RX1_9 h12 rfl ?_
      refine g_alenI hC dX1_copyFrom_7 h15 (by decide) ?_
      refine g_top (b := 960) rfl ?_
      refine g_icmp_ge (tgt := 38) hC dX1_copyFrom_8 (by decide) (by omega) (by omega) (fun c_8 => ?_) (fun c_8 => False.elim (by omega))
      refine gV.canon Q h15 (fun j hj => upto_lt hj) ?_
      exact g_vret hC hq dX1_copyFrom_38 (by decide) (by decide) ⟨rfl, by rw [egh11, gset_set]⟩
  refine gV.eqs (lv' := [some (.ref g), some (.ref o), some (vi (((0 : Nat) : Int)))]) rfl rfl (by rw [upto_0, gset_self hs]) (lp 0 (Nat.zero_le _))

set_option maxHeartbeats 4000000 in
set_option maxRecDepth 100000 in
theorem kX1_isFree {l : Launch} (hl : l.stackTraces = false) {D : gD} {base : Nat}  {g s : Nat} {P : Nat → Int} (hP : Pok P) (r c : Int) (k : Nat) (rr : -100 ≤ r ∧ r ≤ 100) (rc : -100 ≤ c ∧ c ≤ 100) (hk : k ≤ 100) (gh : gH) (hg : gh g = some (gO 5 [.ref s])) (hs : gh s = some (gI 0 960 (P)))  : gM l D base yX1_isFree cX1_isFree 5 (some Jvm.ClassFile.FieldType.boolean) 3 65 0 0 [.ref g, vi (r), vi (c), vi ((k : Int))] gh (fun r' gh' => r' = some (vi (b2i (freeG P r c k))) ∧ gh' = gh) gNo := by
  refine gM.of hl (by decide) (by simp [Value.category]) (Nat.le_of_ble_eq_true rfl) [some (.ref g), some (vi (r)), some (vi (c)), some (vi ((k : Int))), none] rfl (fun x hC hq => ?_)
  refine g_iconst hC dX1_isFree_0 rfl ?_
  refine g_istore (lv' := [some (.ref g), some (vi (r)), some (vi (c)), some (vi ((k : Int))), some (vi (0))]) hC dX1_isFree_1 (by decide) rfl ?_
  have lp : ∀ n : Nat, n ≤ k → freeG P r c n = true → gV x D base 5 3 [some (.ref g), some (vi (r)), some (vi (c)), some (vi ((k : Int))), some (vi ((n : Int)))] [] (gh) (0) (0) := by
    refine g_for _ (fun n hn ih => ?_) ?_
    · intro hfr
      refine g_iload hC dX1_isFree_3 rfl ?_
      refine g_iload_n hC dX1_isFree_5 rfl ?_
      refine g_icmp_ge (tgt := 31) hC dX1_isFree_6 (by decide) (by omega) (by omega) (fun c_6 => False.elim (by omega)) (fun c_6 => ?_)
      refine g_ald_n hC dX1_isFree_9 rfl ?_
      refine g_iload_n hC dX1_isFree_10 rfl ?_
      refine g_iload_n hC dX1_isFree_11 rfl ?_
      refine g_iload hC dX1_isFree_12 rfl ?_
      refine g_iadd hC dX1_isFree_14 ?_
      refine g_callV (rest := []) hC (kX1_signAt hl hP r (c + n) (by omega) (by omega) gh hg hs) gc_RX1_33 rfl hg rfl ⟨by decide, by decide⟩ ⟨by decide, by decide⟩ (Nat.le_of_ble_eq_true rfl) rfl dX1_isFree_15 (fun r gh' hp => ?_)
      obtain ⟨rfl, hgh⟩ := hp
      rw [hgh]
      clear hgh
      refine gV.eqs (st' := [vi (sgn P r (c + n))]) rfl rfl rfl ?_
      have hv := sgn_ok hP r (c + n)
      refine g_bipush (z := 46) hC dX1_isFree_18 rfl ?_
      refine g_icmp_eq (tgt := 25) hC dX1_isFree_20 (by decide) (by omega) (by omega) (fun hE => ?_) (fun hE => ?_)
      · refine g_iinc (lv' := [some (.ref g), some (vi (r)), some (vi (c)), some (vi ((k : Int))), some (vi ((n : Int) + 1))]) hC dX1_isFree_25 (by decide) rfl rfl ?_
        refine g_goto (tgt := 3) hC dX1_isFree_28 (by decide) ?_
        refine gV.eqs (lv' := [some (.ref g), some (vi (r)), some (vi (c)), some (vi ((k : Int))), some (vi ((((n + 1) : Nat) : Int)))]) (lcons rfl (lcons rfl (lcons rfl (lcons rfl (lcons (svi (by omega)) rfl))))) rfl rfl (ih (by rw [freeG_s, hfr, hE]; rfl))
      · refine g_iconst hC dX1_isFree_23 rfl ?_
        exact g_bret (b := false) hC hq dX1_isFree_24 (by decide) (by decide) ⟨by rw [freeG_mono (m := n + 1) (by omega) (by rw [freeG_s, hfr, decide_eq_false hE]; rfl)], rfl⟩
    · intro hfr
      refine g_iload hC dX1_isFree_3 rfl ?_
      refine g_iload_n hC dX1_isFree_5 rfl ?_
      refine g_icmp_ge (tgt := 31) hC dX1_isFree_6 (by decide) (by omega) (by omega) (fun c_6 => ?_) (fun c_6 => False.elim (by omega))
      refine g_iconst hC dX1_isFree_31 rfl ?_
      exact g_bret (b := true) hC hq dX1_isFree_32 (by decide) (by decide) ⟨by rw [hfr], rfl⟩
  refine gV.eqs (lv' := [some (.ref g), some (vi (r)), some (vi (c)), some (vi ((k : Int))), some (vi (((0 : Nat) : Int)))]) rfl rfl rfl (lp 0 (Nat.zero_le _) rfl)

set_option maxHeartbeats 4000000 in
set_option maxRecDepth 100000 in
theorem kX1_write {l : Launch} (hl : l.stackTraces = false) {D : gD} {base : Nat}  {g s w b : Nat} {h0 z0 : Value} {P L : Nat → Int} (r c : Int) (k : Nat) (rr : -100 ≤ r ∧ r ≤ 100) (rc : -100 ≤ c ∧ c ≤ 100) (hk : k ≤ 100) (hlet : ∀ t, t < k → 97 ≤ L t ∧ L t ≤ 122) (hfit : fitB r c k = true) (gh : gH) (hg : gh g = some (gO 5 [.ref s])) (hs : gh s = some (gI 0 960 (P))) (hw : gh w = some (gO 0 [.ref b, vi (0), (h0), (z0)])) (hb : gh b = some (gI 2 k (L)))  : gM l D base yX1_write cX1_write 5 none 4 85 0 0 [.ref g, vi (r), vi (c), .ref w] gh (fun r' gh' => r' = none ∧ gh' = gset gh s (gI 0 960 (putN P (40 * r + c).toNat L k))) gNo := by
  refine gM.of hl (by decide) (by simp [Value.category]) (Nat.le_of_ble_eq_true rfl) [some (.ref g), some (vi (r)), some (vi (c)), some (.ref w), none] rfl (fun x hC hq => ?_)
  refine g_iconst hC dX1_write_0 rfl ?_
  refine g_istore (lv' := [some (.ref g), some (vi (r)), some (vi (c)), some (.ref w), some (vi (0))]) hC dX1_write_1 (by decide) rfl ?_
  have lp : ∀ n : Nat, n ≤ k → gV x D base 5 3 [some (.ref g), some (vi (r)), some (vi (c)), some (.ref w), some (vi ((n : Int)))] [] (gset gh s (gI 0 960 (putN P (40 * r + c).toNat L n))) (0) (0) := by
    refine g_for _ (fun n hn ih => ?_) ?_
    · obtain ⟨gh1, egh1⟩ : ∃ g_, g_ = gset gh s (gI 0 960 (putN P (40 * r + c).toNat L n)) := ⟨_, rfl⟩
      rw [← egh1]
      have h2 : gh1 g = some (gO 5 [.ref s]) := by rw [egh1, gset_ne (gne hg hs (by simp))]; exact hg
      have h3 : gh1 w = some (gO 0 [.ref b, vi (0), (h0), (z0)]) := by rw [egh1, gset_ne (gne hw hs (by simp))]; exact hw
      have h4 : gh1 b = some (gI 2 k (L)) := by rw [egh1, gset_ne (gne hb hs (by simp))]; exact hb
      have h5 : gh1 s = some (gI 0 960 (putN P (40 * r + c).toNat L n)) := by rw [egh1]; exact gset_eq
      refine g_iload hC dX1_write_3 rfl ?_
      refine g_ald_n hC dX1_write_5 rfl ?_
      refine g_callV (rest := [vi ((n : Int))]) hC (kJ0_length hl  gh1 h3 h4) gc_RX1_19 rfl h3 rfl ⟨by decide, by decide⟩ ⟨by decide, by decide⟩ (Nat.le_of_ble_eq_true rfl) rfl dX1_write_6 (fun r gh' hp => ?_)
      obtain ⟨rfl, hgh⟩ := hp
      rw [hgh]
      clear hgh
      refine gV.eqs (st' := [vi ((k : Int)), vi ((n : Int))]) rfl rfl rfl ?_
      refine g_icmp_ge (tgt := 33) hC dX1_write_9 (by decide) (by omega) (by omega) (fun c_9 => False.elim (by omega)) (fun c_9 => ?_)
      have hL := hlet n hn
      refine g_ald_n hC dX1_write_12 rfl ?_
      refine g_iload_n hC dX1_write_13 rfl ?_
      refine g_iload_n hC dX1_write_14 rfl ?_
      refine g_iload hC dX1_write_15 rfl ?_
      refine g_iadd hC dX1_write_17 ?_
      refine g_ald_n hC dX1_write_18 rfl ?_
      refine g_iload hC dX1_write_19 rfl ?_
      refine g_callV (rest := [vi ((c) + ((n : Int))), vi (r), .ref g]) hC (kJ0_charAt hl n hn (by omega) (by omega) gh1 h3 h4) gc_RX1_25 rfl h3 rfl ⟨by decide, by decide⟩ ⟨by decide, by decide⟩ (Nat.le_of_ble_eq_true rfl) rfl dX1_write_21 (fun r gh' hp => ?_)
      obtain ⟨rfl, hgh⟩ := hp
      rw [hgh]
      clear hgh
      refine gV.eqs (st' := [vi (L n), vi ((c) + ((n : Int))), vi (r), .ref g]) rfl rfl rfl ?_
      refine g_callV (rest := []) hC (kX1_setSign hl r (c + n) (L n) (by omega) (by omega) (by omega) gh1 h2 h5) gc_RX1_29 rfl h2 rfl ⟨by decide, by decide⟩ ⟨by decide, by decide⟩ (Nat.le_of_ble_eq_true rfl) rfl dX1_write_24 (fun r gh' hp => ?_)
      obtain ⟨rfl, hgh⟩ := hp
      rw [hgh]
      clear hgh
      refine gV.eqs (st' := []) rfl rfl rfl ?_
      refine g_iinc (lv' := [some (.ref g), some (vi (r)), some (vi (c)), some (.ref w), some (vi ((n : Int) + 1))]) hC dX1_write_27 (by decide) rfl rfl ?_
      refine g_goto (tgt := 3) hC dX1_write_30 (by decide) ?_
      refine gV.eqs (lv' := [some (.ref g), some (vi (r)), some (vi (c)), some (.ref w), some (vi ((((n + 1) : Nat) : Int)))]) (lcons rfl (lcons rfl (lcons rfl (lcons rfl (lcons (svi (by omega)) rfl))))) rfl (by rw [egh1, gset_set, setP_fit hfit rfl hn]) ih
    · obtain ⟨gh6, egh6⟩ : ∃ g_, g_ = gset gh s (gI 0 960 (putN P (40 * r + c).toNat L k)) := ⟨_, rfl⟩
      rw [← egh6]
      have h7 : gh6 g = some (gO 5 [.ref s]) := by rw [egh6, gset_ne (gne hg hs (by simp))]; exact hg
      have h8 : gh6 w = some (gO 0 [.ref b, vi (0), (h0), (z0)]) := by rw [egh6, gset_ne (gne hw hs (by simp))]; exact hw
      have h9 : gh6 b = some (gI 2 k (L)) := by rw [egh6, gset_ne (gne hb hs (by simp))]; exact hb
      have h10 : gh6 s = some (gI 0 960 (putN P (40 * r + c).toNat L k)) := by rw [egh6]; exact gset_eq
      refine g_iload hC dX1_write_3 rfl ?_
      refine g_ald_n hC dX1_write_5 rfl ?_
      refine g_callV (rest := [vi (((k : Nat) : Int))]) hC (kJ0_length hl  gh6 h8 h9) gc_RX1_19 rfl h8 rfl ⟨by decide, by decide⟩ ⟨by decide, by decide⟩ (Nat.le_of_ble_eq_true rfl) rfl dX1_write_6 (fun r gh' hp => ?_)
      obtain ⟨rfl, hgh⟩ := hp
      rw [hgh]
      clear hgh
      refine gV.eqs (st' := [vi ((k : Int)), vi (((k : Nat) : Int))]) rfl rfl rfl ?_
      refine g_icmp_ge (tgt := 33) hC dX1_write_9 (by decide) (by omega) (by omega) (fun c_9 => ?_) (fun c_9 => False.elim (by omega))
      exact g_vret hC hq dX1_write_33 (by decide) (by decide) ⟨rfl, by rw [egh6]⟩
  refine gV.eqs (lv' := [some (.ref g), some (vi (r)), some (vi (c)), some (.ref w), some (vi (((0 : Nat) : Int)))]) rfl rfl (by show gh = gset gh s (gI 0 960 P); rw [gset_self hs]) (lp 0 (Nat.zero_le _))

set_option maxHeartbeats 4000000 in
set_option maxRecDepth 100000 in
theorem kX1_erase {l : Launch} (hl : l.stackTraces = false) {D : gD} {base : Nat}  {g s : Nat} {P : Nat → Int} (r c : Int) (k : Nat) (rr : -100 ≤ r ∧ r ≤ 100) (rc : -100 ≤ c ∧ c ≤ 100) (hk : k ≤ 100) (hfit : fitB r c k = true) (gh : gH) (hg : gh g = some (gO 5 [.ref s])) (hs : gh s = some (gI 0 960 (P)))  : gM l D base yX1_erase cX1_erase 5 none 3 66 0 0 [.ref g, vi (r), vi (c), vi ((k : Int))] gh (fun r' gh' => r' = none ∧ gh' = gset gh s (gI 0 960 (putN P (40 * r + c).toNat (fun _ => 46) k))) gNo := by
  refine gM.of hl (by decide) (by simp [Value.category]) (Nat.le_of_ble_eq_true rfl) [some (.ref g), some (vi (r)), some (vi (c)), some (vi ((k : Int))), none] rfl (fun x hC hq => ?_)
  refine g_iconst hC dX1_erase_0 rfl ?_
  refine g_istore (lv' := [some (.ref g), some (vi (r)), some (vi (c)), some (vi ((k : Int))), some (vi (0))]) hC dX1_erase_1 (by decide) rfl ?_
  have lp : ∀ n : Nat, n ≤ k → gV x D base 5 3 [some (.ref g), some (vi (r)), some (vi (c)), some (vi ((k : Int))), some (vi ((n : Int)))] [] (gset gh s (gI 0 960 (putN P (40 * r + c).toNat (fun _ => 46) n))) (0) (0) := by
    refine g_for _ (fun n hn ih => ?_) ?_
    · obtain ⟨gh1, egh1⟩ : ∃ g_, g_ = gset gh s (gI 0 960 (putN P (40 * r + c).toNat (fun _ => 46) n)) := ⟨_, rfl⟩
      rw [← egh1]
      have h2 : gh1 g = some (gO 5 [.ref s]) := by rw [egh1, gset_ne (gne hg hs (by simp))]; exact hg
      have h3 : gh1 s = some (gI 0 960 (putN P (40 * r + c).toNat (fun _ => 46) n)) := by rw [egh1]; exact gset_eq
      refine g_iload hC dX1_erase_3 rfl ?_
      refine g_iload_n hC dX1_erase_5 rfl ?_
      refine g_icmp_ge (tgt := 26) hC dX1_erase_6 (by decide) (by omega) (by omega) (fun c_6 => False.elim (by omega)) (fun c_6 => ?_)
      refine g_ald_n hC dX1_erase_9 rfl ?_
      refine g_iload_n hC dX1_erase_10 rfl ?_
      refine g_iload_n hC dX1_erase_11 rfl ?_
      refine g_iload hC dX1_erase_12 rfl ?_
      refine g_iadd hC dX1_erase_14 ?_
      refine g_bipush (z := 46) hC dX1_erase_15 rfl ?_
      refine g_callV (rest := []) hC (kX1_setSign hl r (c + n) 46 (by decide) (by omega) (by omega) gh1 h2 h3) gc_RX1_29 rfl h2 rfl ⟨by decide, by decide⟩ ⟨by decide, by decide⟩ (Nat.le_of_ble_eq_true rfl) rfl dX1_erase_17 (fun r gh' hp => ?_)
      obtain ⟨rfl, hgh⟩ := hp
      rw [hgh]
      clear hgh
      refine gV.eqs (st' := []) rfl rfl rfl ?_
      refine g_iinc (lv' := [some (.ref g), some (vi (r)), some (vi (c)), some (vi ((k : Int))), some (vi ((n : Int) + 1))]) hC dX1_erase_20 (by decide) rfl rfl ?_
      refine g_goto (tgt := 3) hC dX1_erase_23 (by decide) ?_
      refine gV.eqs (lv' := [some (.ref g), some (vi (r)), some (vi (c)), some (vi ((k : Int))), some (vi ((((n + 1) : Nat) : Int)))]) (lcons rfl (lcons rfl (lcons rfl (lcons rfl (lcons (svi (by omega)) rfl))))) rfl (by rw [egh1, gset_set, setP_fit (L := fun _ => 46) hfit rfl hn]) ih
    · obtain ⟨gh4, egh4⟩ : ∃ g_, g_ = gset gh s (gI 0 960 (putN P (40 * r + c).toNat (fun _ => 46) k)) := ⟨_, rfl⟩
      rw [← egh4]
      have h5 : gh4 g = some (gO 5 [.ref s]) := by rw [egh4, gset_ne (gne hg hs (by simp))]; exact hg
      have h6 : gh4 s = some (gI 0 960 (putN P (40 * r + c).toNat (fun _ => 46) k)) := by rw [egh4]; exact gset_eq
      refine g_iload hC dX1_erase_3 rfl ?_
      refine g_iload_n hC dX1_erase_5 rfl ?_
      refine g_icmp_ge (tgt := 26) hC dX1_erase_6 (by decide) (by omega) (by omega) (fun c_6 => ?_) (fun c_6 => False.elim (by omega))
      exact g_vret hC hq dX1_erase_26 (by decide) (by decide) ⟨rfl, by rw [egh4]⟩
  refine gV.eqs (lv' := [some (.ref g), some (vi (r)), some (vi (c)), some (vi ((k : Int))), some (vi (((0 : Nat) : Int)))]) rfl rfl (by show gh = gset gh s (gI 0 960 P); rw [gset_self hs]) (lp 0 (Nat.zero_le _))

set_option maxHeartbeats 4000000 in
set_option maxRecDepth 100000 in
theorem kX1_init {l : Launch} (hl : l.stackTraces = false) {D : gD} {base : Nat}  {g : Nat} (gh : gH) (hg : gh g = some (gO 5 [.null]))  : gM l D base yX1_init cX1_init 1 none 1 12 1 960 [.ref g] gh (fun r gh' => r = none ∧ ∃ q, gh q = none ∧ gh' = gset (gset gh q (gI 0 960 (fun _ => 0))) g (gO 5 [.ref q])) gNo := by
  refine gM.of hl (by decide) (by simp [Value.category]) (Nat.le_of_ble_eq_true rfl) [some (.ref g)] rfl (fun x hC hq => ?_)
  refine g_ald_n hC dX1_init_0 rfl ?_
  refine g_objInit hC dX1_init_1 go_RX1 go_i go_c (by decide) (by decide) ?_
  refine g_ald_n hC dX1_init_4 rfl ?_
  refine g_sipush (z := 960) hC dX1_init_5 rfl ?_
  refine g_newC (n := 960) hC dX1_init_8 ga_char rfl (by decide) (by decide) (by decide) (fun q1 hnq1 => ?_)
  obtain ⟨gh2, egh2⟩ : ∃ g_, g_ = gset gh q1 (gI 0 960 (fun _ => 0)) := ⟨_, rfl⟩
  rw [← egh2]
  have h3 : gh2 g = some (gO 5 [.null]) := by rw [egh2, gset_ne (fun z => by rw [z, hnq1] at hg; cases hg)]; exact hg
  have h4 : gh2 q1 = some (gI 0 960 (fun _ => 0)) := by rw [egh2]; exact gset_eq
  refine g_putF hC hq (fs' := [.ref q1]) dX1_init_10 gp_RX1_9 h3 ⟨rfl, rfl⟩ rfl (Nat.le_of_ble_eq_true rfl) ?_
  obtain ⟨gh5, egh5⟩ : ∃ g_, g_ = gset gh2 g (gO 5 [.ref q1]) := ⟨_, rfl⟩
  rw [← egh5]
  have h6 : gh5 q1 = some (gI 0 960 (fun _ => 0)) := by rw [egh5, gset_ne (gne h4 h3 (by simp))]; exact h4
  have h7 : gh5 g = some (gO 5 [.ref q1]) := by rw [egh5]; exact gset_eq
  exact g_vret hC hq dX1_init_13 (by decide) (by decide) ⟨rfl, q1, hnq1, by rw [egh5, egh2]⟩

end C2
