/-! the class: the names of a sheet listed in the order in which they are placed -/
section C16
theorem gset4 {gh : gH} {a b : Nat} {x y x' y' : gC} (h : a ≠ b) : gset (gset (gset (gset gh a x) b y) a x') b y' = gset (gset gh a x') b y' := by
  funext q
  unfold gset
  by_cases h1 : q = b <;> by_cases h2 : q = a <;> simp [h1, h2]
def lsC (F : Nat → Nat → Int) (k : Nat) (wo : Nat → Option Nat) (h : Int) (i : Nat) : Bool := decide (F 6 i = h) && (decide (cN F k i ≠ -1) && (wo i).isSome)
def lsI (F : Nat → Nat → Int) (k : Nat) (wo : Nat → Option Nat) (h : Int) (A : List Nat) : Nat → List Nat
  | 0 => A
  | n + 1 => if lsC F k wo h n = true then lsI F k wo h A n ++ [n] else lsI F k wo h A n
/-- the named places by their ranks from 5 down, the first m ranks -/
def lsU (F : Nat → Nat → Int) (k : Nat) (wo : Nat → Option Nat) (np : Nat) : Nat → List Nat
  | 0 => []
  | m + 1 => lsI F k wo (5 - (m : Int)) (lsU F k wo np m) np
theorem lsI_s (F : Nat → Nat → Int) (k : Nat) (wo : Nat → Option Nat) (h : Int) (A : List Nat) (n : Nat) : lsI F k wo h A (n + 1) = if lsC F k wo h n = true then lsI F k wo h A n ++ [n] else lsI F k wo h A n := rfl
theorem lsU_s (F : Nat → Nat → Int) (k : Nat) (wo : Nat → Option Nat) (np m : Nat) : lsU F k wo np (m + 1) = lsI F k wo (5 - (m : Int)) (lsU F k wo np m) np := rfl
def eqc (R : Nat → Int) (h : Int) : Nat → Nat
  | 0 => 0
  | n + 1 => eqc R h n + (if R n = h then 1 else 0)
def gtc (R : Nat → Int) (h : Int) : Nat → Nat
  | 0 => 0
  | n + 1 => gtc R h n + (if h < R n then 1 else 0)
theorem gtc_eqc {R : Nat → Int} {h : Int} : ∀ n : Nat, gtc R h n + eqc R h n ≤ n
  | 0 => Nat.le_refl _
  | n + 1 => by
    have := gtc_eqc (R := R) (h := h) n
    unfold gtc eqc
    split <;> split <;> omega
theorem gtc_s {R : Nat → Int} {h : Int} : ∀ n : Nat, gtc R (h - 1) n = gtc R h n + eqc R h n
  | 0 => rfl
  | n + 1 => by
    have := gtc_s (R := R) (h := h) n
    unfold gtc eqc
    split <;> split <;> split <;> omega
theorem eqc_mono {R : Nat → Int} {h : Int} {a : Nat} : ∀ b : Nat, a ≤ b → eqc R h a ≤ eqc R h b
  | 0, hb => by rw [show a = 0 by omega]; exact Nat.le_refl _
  | b + 1, hb => by
    by_cases e : a = b + 1
    · rw [e]; exact Nat.le_refl _
    · have := eqc_mono (R := R) (h := h) b (by omega : a ≤ b)
      show _ ≤ eqc R h b + _
      omega
theorem lsC_iff {F : Nat → Nat → Int} {k : Nat} {wo : Nat → Option Nat} {h : Int} {i : Nat} : lsC F k wo h i = true ↔ F 6 i = h ∧ qOn F k i = true ∧ (wo i).isSome = true := by
  unfold lsC
  rw [cN_on, Bool.and_eq_true, Bool.and_eq_true, decide_eq_true_iff]
theorem lsI_len {F : Nat → Nat → Int} {k : Nat} {wo : Nat → Option Nat} {h : Int} {A : List Nat} : ∀ n : Nat, (lsI F k wo h A n).length ≤ A.length + eqc (F 6) h n
  | 0 => Nat.le_refl _
  | n + 1 => by
    have ih := lsI_len (F := F) (k := k) (wo := wo) (h := h) (A := A) n
    rw [lsI_s]
    show _ ≤ A.length + (eqc (F 6) h n + _)
    split
    · next hc => rw [List.length_append, List.length_singleton, if_pos (lsC_iff.mp hc).1]; omega
    · split <;> omega
theorem lsU_len {F : Nat → Nat → Int} {k : Nat} {wo : Nat → Option Nat} {np : Nat} : ∀ m : Nat, (lsU F k wo np m).length ≤ gtc (F 6) (5 - (m : Int)) np
  | 0 => Nat.zero_le _
  | m + 1 => by
    have ih := lsU_len (F := F) (k := k) (wo := wo) (np := np) m
    have h1 := lsI_len (F := F) (k := k) (wo := wo) (h := 5 - (m : Int)) (A := lsU F k wo np m) np
    have h2 := gtc_s (R := F 6) (h := 5 - (m : Int)) np
    rw [lsU_s, show (5 : Int) - ((m + 1 : Nat) : Int) = 5 - (m : Int) - 1 by omega, h2]
    omega
theorem ls_lt {F : Nat → Nat → Int} {k : Nat} {wo : Nat → Option Nat} {np m j : Nat} (hj : j < np) (hc : lsC F k wo (5 - (m : Int)) j = true) : (lsI F k wo (5 - (m : Int)) (lsU F k wo np m) j).length < np := by
  have h1 := lsI_len (F := F) (k := k) (wo := wo) (h := 5 - (m : Int)) (A := lsU F k wo np m) j
  have h2 := lsU_len (F := F) (k := k) (wo := wo) (np := np) m
  have h3 := gtc_eqc (R := F 6) (h := 5 - (m : Int)) np
  have h4 := eqc_mono (R := F 6) (h := 5 - (m : Int)) (a := j + 1) np hj
  have h5 : eqc (F 6) (5 - (m : Int)) (j + 1) = eqc (F 6) (5 - (m : Int)) j + 1 := by
    show eqc (F 6) (5 - (m : Int)) j + _ = _
    rw [if_pos (lsC_iff.mp hc).1]
  omega
theorem ls_le {F : Nat → Nat → Int} {k : Nat} {wo : Nat → Option Nat} {np : Nat} (m j : Nat) (hj : j ≤ np) : (lsI F k wo (5 - (m : Int)) (lsU F k wo np m) j).length ≤ np := by
  have h1 := lsI_len (F := F) (k := k) (wo := wo) (h := 5 - (m : Int)) (A := lsU F k wo np m) j
  have h2 := lsU_len (F := F) (k := k) (wo := wo) (np := np) m
  have h3 := gtc_eqc (R := F 6) (h := 5 - (m : Int)) np
  have h4 := eqc_mono (R := F 6) (h := 5 - (m : Int)) (a := j) np hj
  omega
/-- the array of the named spots: the first by the list, what stood there behind them -/
def NL (t : Nat → Nat) (N : Nat → Option Nat) (L : List Nat) : Nat → Option Nat := fun j => if j < L.length then some (t (L.getD j 0)) else N j
theorem NL_nil {t : Nat → Nat} {N : Nat → Option Nat} : NL t N [] = N := by funext j; exact if_neg (Nat.not_lt_zero j)
theorem NL_app {t : Nat → Nat} {N : Nat → Option Nat} {L : List Nat} {i : Nat} : gup (NL t N L) L.length (some (t i)) = NL t N (L ++ [i]) := by
  funext j
  unfold gup NL
  rw [List.length_append, List.length_singleton]
  by_cases h1 : j = L.length
  · rw [if_pos h1, if_pos (by omega), h1, List.getD_eq_getElem?_getD, List.getElem?_append_right (Nat.le_refl _), Nat.sub_self]
    rfl
  · rw [if_neg h1]
    by_cases h2 : j < L.length
    · rw [if_pos h2, if_pos (by omega), List.getD_eq_getElem?_getD, List.getD_eq_getElem?_getD, List.getElem?_append_left h2]
    · rw [if_neg h2, if_neg (by omega)]
set_option maxHeartbeats 4000000 in
set_option maxRecDepth 100000 in
theorem kX3_listNamed {l : Launch} (hl : l.stackTraces = false) {D : gD} {base : Nat}  {sh ar na s n : Nat} {f N : Nat → Option Nat} {t : Nat → Nat} {F : Nat → Nat → Int} {pv : Nat → Value} {wo : Nat → Option Nat} {sd ah : Nat → Int} {w0 w1 w2 w3 w4 : Value} {c0 : Int} (hn14 : n ≤ 14) (hne : ar ≠ na) (gh : gH) (hsh : gh sh = some (gO 7 [(w0), (w1), (w2), (w3), (w4), .ref ar, vi ((n : Int)), .ref na, vi (c0)])) (har : gh ar = some (gR 8 14 (f))) (hna : gh na = some (gR 8 14 (N))) (hsp : ∀ i : Nat, i < n → f i = some (t i) ∧ gh (t i) = some (gO 9 [vi (F 6 i), vi (cN F s i), vi (rN F s i), pv i, va_rf (wo i), vi (sd i), vi (ah i)]) ∧ 1 ≤ F 6 i ∧ F 6 i ≤ 5) : gM l D base yX3_listNamed cX3_listNamed 4 none 2 40 0 0 [.ref sh] gh (fun r gh' => r = none ∧ gh' = gset (gset gh na (gR 8 14 (NL t N (lsU F s wo n 5)))) sh (gO 7 [w0, w1, w2, w3, w4, .ref ar, vi (n : Int), .ref na, vi (((lsU F s wo n 5).length : Nat) : Int)])) gNo := by
  refine gM.of hl (by decide) (by simp [Value.category]) (Nat.le_of_ble_eq_true rfl) [some (.ref sh), none, none, none] rfl (fun x hC hq => ?_)
  refine g_ald_n hC dX3_listNamed_0 rfl ?_
  refine g_iconst hC dX3_listNamed_1 rfl ?_
  refine g_put hC (fs' := [(w0), (w1), (w2), (w3), (w4), .ref ar, vi ((n : Int)), .ref na, vi (0)]) dX3_listNamed_2 gp_RX3_43 hsh ⟨rfl, rfl⟩ rfl (Nat.le_of_ble_eq_true rfl) ?_
  obtain ⟨gh1, egh1⟩ : ∃ g_, g_ = gset gh sh (gO 7 [(w0), (w1), (w2), (w3), (w4), .ref ar, vi ((n : Int)), .ref na, vi (0)]) := ⟨_, rfl⟩
  rw [← egh1]
  have h2 : gh1 ar = some (gR 8 14 (f)) := by rw [egh1, gset_ne (gne har hsh (by simp))]; exact har
  have h3 : gh1 na = some (gR 8 14 (N)) := by rw [egh1, gset_ne (gne hna hsh (by simp))]; exact hna
  have h4 : gh1 sh = some (gO 7 [(w0), (w1), (w2), (w3), (w4), .ref ar, vi ((n : Int)), .ref na, vi (0)]) := by rw [egh1]; exact gset_eq
  refine g_iconst hC dX3_listNamed_5 rfl ?_
  refine g_istore_n (lv' := [some (.ref sh), some (vi (5)), none, none]) hC dX3_listNamed_6 (by decide) rfl ?_
  have hns : na ≠ sh := gne hna hsh (by simp)
  have lp : ∀ m : Nat, m ≤ 5 → gV x D base 4 7 [some (.ref sh), some (vi (5 - (m : Int))), none, none] [] (gset (gset gh na (gR 8 14 (NL t N (lsU F s wo n m)))) sh (gO 7 [w0, w1, w2, w3, w4, .ref ar, vi (n : Int), .ref na, vi (((lsU F s wo n m).length : Nat) : Int)])) (0) (0) := by
    refine g_for _ (fun m hn ih => ?_) ?_
    · refine g_iload_n hC dX3_listNamed_7 rfl ?_
      refine g_iconst hC dX3_listNamed_8 rfl ?_
      refine g_icmp_lt (tgt := 101) hC dX3_listNamed_9 (by decide) (by omega) (by omega) (fun c_9 => False.elim (by omega)) (fun c_9 => ?_)
      refine g_iconst hC dX3_listNamed_12 rfl ?_
      refine g_istore_n (lv' := [some (.ref sh), some (vi (5 - (m : Int))), some (vi (0)), none]) hC dX3_listNamed_13 (by decide) rfl ?_
      have li : ∀ j : Nat, j ≤ n → gV x D base 4 14 [some (.ref sh), some (vi (5 - (m : Int))), some (vi ((j : Int))), none] [] (gset (gset gh na (gR 8 14 (NL t N (lsI F s wo (5 - (m : Int)) (lsU F s wo n m) j)))) sh (gO 7 [w0, w1, w2, w3, w4, .ref ar, vi (n : Int), .ref na, vi (((lsI F s wo (5 - (m : Int)) (lsU F s wo n m) j).length : Nat) : Int)])) (0) (0) := by
        refine g_for _ (fun j hj ij => ?_) ?_
        · have hLn := ls_le (F := F) (k := s) (wo := wo) (np := n) m j (Nat.le_of_lt hj)
          obtain ⟨L, eL⟩ : ∃ L, L = lsI F s wo (5 - (m : Int)) (lsU F s wo n m) j := ⟨_, rfl⟩
          rw [← eL] at hLn ⊢
          obtain ⟨gh5, egh5⟩ : ∃ g_, g_ = gset gh na (gR 8 14 (NL t N L)) := ⟨_, rfl⟩
          rw [← egh5]
          have h6 : gh5 sh = some (gO 7 [(w0), (w1), (w2), (w3), (w4), .ref ar, vi ((n : Int)), .ref na, vi (c0)]) := by rw [egh5, gset_ne (gne hsh hna (by simp))]; exact hsh
          have h7 : gh5 ar = some (gR 8 14 (f)) := by rw [egh5, gset_ne hne]; exact har
          have h8 : gh5 na = some (gR 8 14 (NL t N L)) := by rw [egh5]; exact gset_eq
          obtain ⟨gh9, egh9⟩ : ∃ g_, g_ = gset gh5 sh (gO 7 [(w0), (w1), (w2), (w3), (w4), .ref ar, vi ((n : Int)), .ref na, vi (((L.length : Nat) : Int))]) := ⟨_, rfl⟩
          rw [← egh9]
          have h10 : gh9 ar = some (gR 8 14 (f)) := by rw [egh9, gset_ne (gne h7 h6 (by simp))]; exact h7
          have h11 : gh9 na = some (gR 8 14 (NL t N L)) := by rw [egh9, gset_ne (gne h8 h6 (by simp))]; exact h8
          have h12 : gh9 sh = some (gO 7 [(w0), (w1), (w2), (w3), (w4), .ref ar, vi ((n : Int)), .ref na, vi (((L.length : Nat) : Int))]) := by rw [egh9]; exact gset_eq
          have hqn := hsp j hj
          have htj : gh9 (t j) = some (gO 9 [vi (F 6 j), vi (cN F s j), vi (rN F s j), pv j, va_rf (wo j), vi (sd j), vi (ah j)]) := by rw [egh9, gset_ne (gne hqn.2.1 hsh (by simp)), egh5, gset_ne (gne hqn.2.1 hna (by simp))]; exact hqn.2.1
          refine g_iload_n hC dX3_listNamed_14 rfl ?_
          refine g_ald_n hC dX3_listNamed_15 rfl ?_
          refine g_get hC dX3_listNamed_16 gf_RX3_40 h12 rfl ?_
          refine g_icmp_ge (tgt := 95) hC dX3_listNamed_19 (by decide) (by omega) (by omega) (fun c_19 => False.elim (by omega)) (fun c_19 => ?_)
          refine g_iload_n hC dX3_listNamed_22 rfl ?_
          refine g_ald_n hC dX3_listNamed_23 rfl ?_
          refine g_get hC dX3_listNamed_24 gf_RX3_33 h12 rfl ?_
          refine g_alenR hC dX3_listNamed_27 h10 (by decide) ?_
          refine g_top (b := 14) rfl ?_
          refine g_icmp_ge (tgt := 95) hC dX3_listNamed_28 (by decide) (by omega) (by omega) (fun c_28 => False.elim (by omega)) (fun c_28 => ?_)
          refine g_ald_n hC dX3_listNamed_31 rfl ?_
          refine g_get hC dX3_listNamed_32 gf_RX3_33 h12 rfl ?_
          refine g_iload_n hC dX3_listNamed_35 rfl ?_
          refine g_aaldK (v := some (t j)) hC (j) dX3_listNamed_36 h10 (by decide) rfl (by omega) (by omega) (by decide) (hqn.1) ?_
          refine g_ast_n (lv' := [some (.ref sh), some (vi (5 - (m : Int))), some (vi ((j : Int))), some (.ref (t j))]) hC dX3_listNamed_37 (by decide) rfl ?_
          refine g_ald_n hC dX3_listNamed_38 rfl ?_
          refine g_ifnull_r hC dX3_listNamed_39 ?_
          refine g_ald_n hC dX3_listNamed_42 rfl ?_
          refine g_get hC dX3_listNamed_43 gf_RX3_87 htj rfl ?_
          refine g_iload_n hC dX3_listNamed_46 rfl ?_
          refine g_icmp_ne (tgt := 89) hC dX3_listNamed_47 (by decide) (by omega) (by omega) (fun hR => ?_) (fun hR => ?_)
          · refine g_iinc (lv' := [some (.ref sh), some (vi (5 - (m : Int))), some (vi ((j : Int) + 1)), some (.ref (t j))]) hC dX3_listNamed_89 (by decide) rfl rfl ?_
            refine g_goto (tgt := 14) hC dX3_listNamed_92 (by decide) ?_
            refine gV.drop (lv' := [some (.ref sh), some (vi (5 - (m : Int))), some (vi ((j : Int) + 1)), none]) (by intro k v hk; match k, hk with | 0, hk => exact hk | 1, hk => exact hk | 2, hk => exact hk | 3, hk => exact absurd hk (by simp) | k + 4, hk => exact absurd hk (by simp)) ?_
            refine gV.eqs (lv' := [some (.ref sh), some (vi (5 - (m : Int))), some (vi ((((j + 1) : Nat) : Int))), none]) (lcons rfl (lcons rfl (lcons (svi (by omega)) (lcons rfl rfl)))) rfl (by rw [lsI_s, if_neg (fun h => hR (lsC_iff.mp h).1), ← eL, egh9, egh5]) ij
          · refine g_ald_n hC dX3_listNamed_50 rfl ?_
            have hcr := cN_rng (F := F) (s := s) (i := j)
            refine g_callV (rest := []) hC (kX5_isNamed hl hcr gh9 htj) gc_RX3_90 rfl htj rfl ⟨by decide, by decide⟩ ⟨by decide, by decide⟩ (Nat.le_of_ble_eq_true rfl) rfl dX3_listNamed_51 (fun r gh' hp => ?_)
            obtain ⟨rfl, hgh⟩ := hp
            rw [hgh]
            clear hgh
            refine gV.eqs (st' := [vi (b2i (decide (cN F s j ≠ -1) && (wo j).isSome))]) rfl rfl rfl ?_
            refine g_ifeq_b (tgt := 89) hC dX3_listNamed_54 (by decide)  (fun hB => ?_) (fun hB => ?_)
            · refine g_iinc (lv' := [some (.ref sh), some (vi (5 - (m : Int))), some (vi ((j : Int) + 1)), some (.ref (t j))]) hC dX3_listNamed_89 (by decide) rfl rfl ?_
              refine g_goto (tgt := 14) hC dX3_listNamed_92 (by decide) ?_
              refine gV.drop (lv' := [some (.ref sh), some (vi (5 - (m : Int))), some (vi ((j : Int) + 1)), none]) (by intro k v hk; match k, hk with | 0, hk => exact hk | 1, hk => exact hk | 2, hk => exact hk | 3, hk => exact absurd hk (by simp) | k + 4, hk => exact absurd hk (by simp)) ?_
              refine gV.eqs (lv' := [some (.ref sh), some (vi (5 - (m : Int))), some (vi ((((j + 1) : Nat) : Int))), none]) (lcons rfl (lcons rfl (lcons (svi (by omega)) (lcons rfl rfl)))) rfl (by rw [lsI_s, if_neg (fun h => by unfold lsC at h; rw [hB, Bool.and_false] at h; cases h), ← eL, egh9, egh5]) ij
            · have hc : lsC F s wo (5 - (m : Int)) j = true := by unfold lsC; rw [hB, decide_eq_true hR]; rfl
              have hlt := ls_lt hj hc
              rw [← eL] at hlt
              refine g_ald_n hC dX3_listNamed_57 rfl ?_
              refine g_get hC dX3_listNamed_58 gf_RX3_43 h12 rfl ?_
              refine g_ald_n hC dX3_listNamed_61 rfl ?_
              refine g_get hC dX3_listNamed_62 gf_RX3_37 h12 rfl ?_
              refine g_alenR hC dX3_listNamed_65 h11 (by decide) ?_
              refine g_top (b := 14) rfl ?_
              refine g_icmp_ge (tgt := 89) hC dX3_listNamed_66 (by decide) (by omega) (by omega) (fun c_66 => False.elim (by omega)) (fun c_66 => ?_)
              refine g_ald_n hC dX3_listNamed_69 rfl ?_
              refine g_get hC dX3_listNamed_70 gf_RX3_37 h12 rfl ?_
              refine g_ald_n hC dX3_listNamed_73 rfl ?_
              refine g_get hC dX3_listNamed_74 gf_RX3_43 h12 rfl ?_
              refine g_ald_n hC dX3_listNamed_77 rfl ?_
              refine g_aastK hC (L.length) dX3_listNamed_78 h11 (by decide) rfl htj rfl (by omega) (by omega) (by decide) ?_
              obtain ⟨gh13, egh13⟩ : ∃ g_, g_ = gset gh9 na (gR 8 14 (gup (NL t N L) (L.length) (some (t j)))) := ⟨_, rfl⟩
              rw [← egh13]
              have h14 : gh13 ar = some (gR 8 14 (f)) := by rw [egh13, gset_ne hne]; exact h10
              have h15 : gh13 sh = some (gO 7 [(w0), (w1), (w2), (w3), (w4), .ref ar, vi ((n : Int)), .ref na, vi (((L.length : Nat) : Int))]) := by rw [egh13, gset_ne (gne h12 h11 (by simp))]; exact h12
              have h16 : gh13 (t j) = some (gO 9 [vi (F 6 j), vi (cN F s j), vi (rN F s j), (pv j), va_rf (wo j), vi (sd j), vi (ah j)]) := by rw [egh13, gset_ne (gne htj h11 (by simp))]; exact htj
              have h17 : gh13 na = some (gR 8 14 (gup (NL t N L) (L.length) (some (t j)))) := by rw [egh13]; exact gset_eq
              refine g_ald_n hC dX3_listNamed_79 rfl ?_
              refine g_dup hC dX3_listNamed_80 rfl ?_
              refine g_get hC dX3_listNamed_81 gf_RX3_43 h15 rfl ?_
              refine g_iconst hC dX3_listNamed_84 rfl ?_
              refine g_iadd hC dX3_listNamed_85 ?_
              refine g_put hC (fs' := [(w0), (w1), (w2), (w3), (w4), .ref ar, vi ((n : Int)), .ref na, vi ((((L.length : Nat) : Int)) + (1))]) dX3_listNamed_86 gp_RX3_43 h15 ⟨rfl, rfl⟩ rfl (Nat.le_of_ble_eq_true rfl) ?_
              obtain ⟨gh18, egh18⟩ : ∃ g_, g_ = gset gh13 sh (gO 7 [(w0), (w1), (w2), (w3), (w4), .ref ar, vi ((n : Int)), .ref na, vi ((((L.length : Nat) : Int)) + (1))]) := ⟨_, rfl⟩
              rw [← egh18]
              have h19 : gh18 ar = some (gR 8 14 (f)) := by rw [egh18, gset_ne (gne h14 h15 (by simp))]; exact h14
              have h20 : gh18 (t j) = some (gO 9 [vi (F 6 j), vi (cN F s j), vi (rN F s j), (pv j), va_rf (wo j), vi (sd j), vi (ah j)]) := by rw [egh18, gset_ne (gne h16 h15 (by simp))]; exact h16
              have h21 : gh18 na = some (gR 8 14 (gup (NL t N L) (L.length) (some (t j)))) := by rw [egh18, gset_ne (gne h17 h15 (by simp))]; exact h17
              have h22 : gh18 sh = some (gO 7 [(w0), (w1), (w2), (w3), (w4), .ref ar, vi ((n : Int)), .ref na, vi ((((L.length : Nat) : Int)) + (1))]) := by rw [egh18]; exact gset_eq
              refine g_iinc (lv' := [some (.ref sh), some (vi (5 - (m : Int))), some (vi ((j : Int) + 1)), some (.ref (t j))]) hC dX3_listNamed_89 (by decide) rfl rfl ?_
              refine g_goto (tgt := 14) hC dX3_listNamed_92 (by decide) ?_
              refine gV.drop (lv' := [some (.ref sh), some (vi (5 - (m : Int))), some (vi ((j : Int) + 1)), none]) (by intro k v hk; match k, hk with | 0, hk => exact hk | 1, hk => exact hk | 2, hk => exact hk | 3, hk => exact absurd hk (by simp) | k + 4, hk => exact absurd hk (by simp)) ?_
              refine gV.eqs (lv' := [some (.ref sh), some (vi (5 - (m : Int))), some (vi ((((j + 1) : Nat) : Int))), none]) (lcons rfl (lcons rfl (lcons (svi (by omega)) (lcons rfl rfl)))) rfl (by rw [lsI_s, if_pos hc, ← eL, egh18, egh13, egh9, egh5, gset4 hns, NL_app, List.length_append, List.length_singleton] <;> rfl) ij
        · obtain ⟨gh23, egh23⟩ : ∃ g_, g_ = gset gh na (gR 8 14 (NL t N (lsI F s wo (5 - (m : Int)) (lsU F s wo n m) n))) := ⟨_, rfl⟩
          rw [← egh23]
          have h24 : gh23 sh = some (gO 7 [(w0), (w1), (w2), (w3), (w4), .ref ar, vi ((n : Int)), .ref na, vi (c0)]) := by rw [egh23, gset_ne (gne hsh hna (by simp))]; exact hsh
          have h25 : gh23 ar = some (gR 8 14 (f)) := by rw [egh23, gset_ne hne]; exact har
          have h26 : gh23 na = some (gR 8 14 (NL t N (lsI F s wo (5 - (m : Int)) (lsU F s wo n m) n))) := by rw [egh23]; exact gset_eq
          obtain ⟨gh27, egh27⟩ : ∃ g_, g_ = gset gh23 sh (gO 7 [(w0), (w1), (w2), (w3), (w4), .ref ar, vi ((n : Int)), .ref na, vi ((((lsI F s wo (5 - (m : Int)) (lsU F s wo n m) n).length : Nat) : Int))]) := ⟨_, rfl⟩
          rw [← egh27]
          have h28 : gh27 ar = some (gR 8 14 (f)) := by rw [egh27, gset_ne (gne h25 h24 (by simp))]; exact h25
          have h29 : gh27 na = some (gR 8 14 (NL t N (lsI F s wo (5 - (m : Int)) (lsU F s wo n m) n))) := by rw [egh27, gset_ne (gne h26 h24 (by simp))]; exact h26
          have h30 : gh27 sh = some (gO 7 [(w0), (w1), (w2), (w3), (w4), .ref ar, vi ((n : Int)), .ref na, vi ((((lsI F s wo (5 - (m : Int)) (lsU F s wo n m) n).length : Nat) : Int))]) := by rw [egh27]; exact gset_eq
          refine g_iload_n hC dX3_listNamed_14 rfl ?_
          refine g_ald_n hC dX3_listNamed_15 rfl ?_
          refine g_get hC dX3_listNamed_16 gf_RX3_40 h30 rfl ?_
          refine g_icmp_ge (tgt := 95) hC dX3_listNamed_19 (by decide) (by omega) (by omega) (fun c_19 => ?_) (fun c_19 => False.elim (by omega))
          refine g_iinc (lv' := [some (.ref sh), some (vi (5 - (m : Int) + (-1))), some (vi ((n : Int))), none]) hC dX3_listNamed_95 (by decide) rfl rfl ?_
          refine g_goto (tgt := 7) hC dX3_listNamed_98 (by decide) ?_
          refine gV.drop (lv' := [some (.ref sh), some (vi (5 - (m : Int) + (-1))), none, none]) (by intro k v hk; match k, hk with | 0, hk => exact hk | 1, hk => exact hk | 2, hk => exact absurd hk (by simp) | 3, hk => exact absurd hk (by simp) | k + 4, hk => exact absurd hk (by simp)) ?_
          refine gV.eqs (lv' := [some (.ref sh), some (vi (5 - (((m + 1) : Nat) : Int))), none, none]) (lcons rfl (lcons (svi (by omega)) (lcons rfl (lcons rfl rfl)))) rfl (by rw [egh27, egh23, lsU_s]) ih
      refine gV.eqs (lv' := [some (.ref sh), some (vi (5 - (m : Int))), some (vi (((0 : Nat) : Int))), none]) (lcons rfl (lcons rfl (lcons (svi (rfl)) (lcons rfl rfl)))) rfl rfl (li 0 (Nat.zero_le _))
    · refine g_iload_n hC dX3_listNamed_7 rfl ?_
      refine g_iconst hC dX3_listNamed_8 rfl ?_
      refine g_icmp_lt (tgt := 101) hC dX3_listNamed_9 (by decide) (by omega) (by omega) (fun c_9 => ?_) (fun c_9 => False.elim (by omega))
      exact g_vret hC hq dX3_listNamed_101 (by decide) (by decide) ⟨rfl, rfl⟩
  refine gV.eqs (lv' := [some (.ref sh), some (vi (5 - ((0 : Nat) : Int))), none, none]) (lcons rfl (lcons (svi (by decide)) (lcons rfl (lcons rfl rfl)))) rfl (by rw [egh1]; show _ = gset (gset gh na (gR 8 14 (NL t N []))) sh _; rw [NL_nil, gset_self hna] <;> rfl) (lp 0 (Nat.zero_le _))

end C16
