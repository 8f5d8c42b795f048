/-! the class: the greatest worth of all placings of the names from one on -/
section C17
def sumL (F : Nat → Nat → Int) : List Nat → Int
  | [] => 0
  | i :: L => F 6 i + sumL F L
theorem sumL_app (F : Nat → Nat → Int) (i : Nat) : ∀ L : List Nat, sumL F (L ++ [i]) = sumL F L + F 6 i
  | [] => by show F 6 i + 0 = 0 + F 6 i; omega
  | j :: L => by show F 6 j + sumL F (L ++ [i]) = F 6 j + sumL F L + F 6 i; rw [sumL_app F i L]; omega
theorem rsN_take {F : Nat → Nat → Int} {L : List Nat} {nx : Nat} : ∀ n : Nat, nx + n ≤ L.length → rsN F (fun q => L.getD q 0) nx n = sumL F ((L.drop nx).take n)
  | 0, _ => rfl
  | n + 1, h => by
    have hl : n < (L.drop nx).length := by rw [List.length_drop]; omega
    rw [rsN_s, rsN_take n (by omega), takeT hl, sumL_app]
    congr 2
    rw [List.getD_eq_getElem?_getD, List.getD_eq_getElem?_getD, List.getElem?_drop]
theorem rsN_sum {F : Nat → Nat → Int} {L : List Nat} {nx : Nat} (h : nx ≤ L.length) : rsN F (fun q => L.getD q 0) nx (L.length - nx) = sumL F (L.drop nx) := by
  rw [rsN_take _ (by omega), List.take_of_length_le (by rw [List.length_drop]; omega)]
def gfS (F : Nat → Nat → Int) (s : Nat) (on : Int) (G : (Nat → Int) → Int) (P : Nat → Int) (i : Nat) (mo : Int) : Nat → Int
  | 0 => 0
  | w + 1 => if gfS F s on G P i mo w < mo then (if mayI F s on P i (w : Int) = true then max (gfS F s on G P i mo w) (F 6 i + G (wrtI F s on P i (w : Int))) else gfS F s on G P i mo w) else gfS F s on G P i mo w
theorem gfS_s (F : Nat → Nat → Int) (s : Nat) (on : Int) (G : (Nat → Int) → Int) (P : Nat → Int) (i : Nat) (mo : Int) (w : Nat) : gfS F s on G P i mo (w + 1) = if gfS F s on G P i mo w < mo then (if mayI F s on P i (w : Int) = true then max (gfS F s on G P i mo w) (F 6 i + G (wrtI F s on P i (w : Int))) else gfS F s on G P i mo w) else gfS F s on G P i mo w := rfl
theorem gfS_stop {F : Nat → Nat → Int} {s : Nat} {on : Int} {G : (Nat → Int) → Int} {P : Nat → Int} {i : Nat} {mo : Int} {w : Nat} (h : mo ≤ gfS F s on G P i mo w) : ∀ d : Nat, gfS F s on G P i mo (w + d) = gfS F s on G P i mo w
  | 0 => rfl
  | d + 1 => by
    have ih := gfS_stop h d
    rw [show w + (d + 1) = (w + d) + 1 by omega, gfS_s, ih, if_neg (by omega)]
def gfV (F : Nat → Nat → Int) (s : Nat) (on : Int) : List Nat → (Nat → Int) → Int
  | [], _ => 0
  | i :: L, P => if gfS F s on (gfV F s on L) P i (sumL F (i :: L)) 4 < sumL F (i :: L) then max (gfS F s on (gfV F s on L) P i (sumL F (i :: L)) 4) (gfV F s on L P) else gfS F s on (gfV F s on L) P i (sumL F (i :: L)) 4
theorem gfV_c (F : Nat → Nat → Int) (s : Nat) (on : Int) (i : Nat) (L : List Nat) (P : Nat → Int) : gfV F s on (i :: L) P = if gfS F s on (gfV F s on L) P i (sumL F (i :: L)) 4 < sumL F (i :: L) then max (gfS F s on (gfV F s on L) P i (sumL F (i :: L)) 4) (gfV F s on L P) else gfS F s on (gfV F s on L) P i (sumL F (i :: L)) 4 := rfl
theorem sumL_rng {F : Nat → Nat → Int} : ∀ L : List Nat, (∀ i ∈ L, 1 ≤ F 6 i ∧ F 6 i ≤ 5) → 0 ≤ sumL F L ∧ sumL F L ≤ 5 * (L.length : Int)
  | [], _ => by unfold sumL; simp
  | i :: L, h => by
    have h1 := h i List.mem_cons_self
    have h2 := sumL_rng L (fun j hj => h j (List.mem_cons_of_mem _ hj))
    unfold sumL
    rw [List.length_cons]
    omega
theorem gfS_rng {F : Nat → Nat → Int} {s : Nat} {on : Int} {G : (Nat → Int) → Int} {P : Nat → Int} {i : Nat} {mo M : Int} (hG : ∀ Q, 0 ≤ G Q ∧ G Q ≤ M) (h6 : 1 ≤ F 6 i ∧ F 6 i ≤ 5) : ∀ w : Nat, 0 ≤ gfS F s on G P i mo w ∧ gfS F s on G P i mo w ≤ M + 5
  | 0 => by have := hG P; unfold gfS; omega
  | w + 1 => by
    have ih := gfS_rng (s := s) (on := on) (P := P) (mo := mo) hG h6 w
    have hg := hG (wrtI F s on P i (w : Int))
    rw [gfS_s]
    split
    · split
      · omega
      · exact ih
    · exact ih
theorem gfV_rng {F : Nat → Nat → Int} {s : Nat} {on : Int} : ∀ (L : List Nat), (∀ i ∈ L, 1 ≤ F 6 i ∧ F 6 i ≤ 5) → ∀ P, 0 ≤ gfV F s on L P ∧ gfV F s on L P ≤ 5 * (L.length : Int)
  | [], _, P => by unfold gfV; simp
  | i :: L, h, P => by
    have h1 := h i List.mem_cons_self
    have h2 := gfV_rng (s := s) (on := on) L (fun j hj => h j (List.mem_cons_of_mem _ hj))
    have h3 := gfS_rng (s := s) (on := on) (P := P) (mo := sumL F (i :: L)) h2 h1 4
    have h4 := h2 P
    rw [gfV_c, List.length_cons]
    split <;> omega
/-- what was written into free cells is taken off again -/
theorem erase_back {P L : Nat → Int} {r c : Int} {k : Nat} (h : mayB P r c (k : Int) = true) : putN (putN P (40 * r + c).toNat L k) (40 * r + c).toNat (fun _ => 46) k = P := by
  funext j
  by_cases h1 : (40 * r + c).toNat ≤ j ∧ j < (40 * r + c).toNat + k
  · have e := @putN_in (putN P (40 * r + c).toNat L k) (40 * r + c).toNat (fun _ => 46) k (j - (40 * r + c).toNat) (by omega)
    rw [show (40 * r + c).toNat + (j - (40 * r + c).toNat) = j by omega] at e
    rw [e, mayB_free h h1.1 (by rw [Int.toNat_natCast]; exact h1.2)]
  · rw [putN_out (by omega), putN_out (by omega)]
/-- the named spots in a world: the array, each spot, its word and the letters of it -/
def grH (F : Nat → Nat → Int) (s : Nat) (on : Int) (N : Nat → Option Nat) (t wa bb : Nat → Nat) (pv : Nat → Value) (sd ah : Nat → Int) (L : List Nat) (gh : gH) : Prop := ∀ q : Nat, q < L.length → N q = some (t (L.getD q 0)) ∧ gh (t (L.getD q 0)) = some (gO 9 [vi (F 6 (L.getD q 0)), vi (cN F s (L.getD q 0)), vi (rN F s (L.getD q 0)), pv (L.getD q 0), .ref (wa (L.getD q 0)), vi (sd (L.getD q 0)), vi (ah (L.getD q 0))]) ∧ gh (wa (L.getD q 0)) = some (gO 0 [.ref (bb (L.getD q 0)), vi 0, vi 0, vi 0]) ∧ gh (bb (L.getD q 0)) = some (gI 2 (F 9 (nmOf F on (L.getD q 0)).toNat).toNat (fun t => F 10 (8 * (nmOf F on (L.getD q 0)).toNat + t))) ∧ qOn F s (L.getD q 0) = true ∧ (1 ≤ F 9 (nmOf F on (L.getD q 0)).toNat ∧ F 9 (nmOf F on (L.getD q 0)).toNat ≤ 8) ∧ (∀ t : Nat, (t : Int) < F 9 (nmOf F on (L.getD q 0)).toNat → 97 ≤ F 10 (8 * (nmOf F on (L.getD q 0)).toNat + t) ∧ F 10 (8 * (nmOf F on (L.getD q 0)).toNat + t) ≤ 122) ∧ (1 ≤ F 6 (L.getD q 0) ∧ F 6 (L.getD q 0) ≤ 5)
theorem grH.set {F : Nat → Nat → Int} {s : Nat} {on : Int} {N : Nat → Option Nat} {t wa bb : Nat → Nat} {pv : Nat → Value} {sd ah : Nat → Int} {L : List Nat} {gh : gH} (h : grH F s on N t wa bb pv sd ah L gh) {ss : Nat} {P : Nat → Int} {c : gC} (hs : gh ss = some (gI 0 960 P)) : grH F s on N t wa bb pv sd ah L (gset gh ss c) := fun q hq => by
  obtain ⟨h1, h2, h3, h4, h5⟩ := h q hq
  exact ⟨h1, by rw [gset_ne (gne h2 hs (by simp))]; exact h2, by rw [gset_ne (gne h3 hs (by simp))]; exact h3, by rw [gset_ne (gne h4 hs (by simp))]; exact h4, h5⟩
theorem getD_all {L : List Nat} {p : Nat → Prop} (h : ∀ q, q < L.length → p (L.getD q 0)) : ∀ i ∈ L, p i := fun i hi => by
  obtain ⟨q, hq, e⟩ := List.getElem_of_mem hi
  have := h q hq
  rw [List.getD_eq_getElem?_getD, List.getElem?_eq_getElem hq] at this
  rw [← e]; exact this
set_option maxHeartbeats 4000000 in
set_option maxRecDepth 100000 in
theorem kX3_gr4 {l : Launch} (hl : l.stackTraces = false) {D : gD} {base : Nat}  {na g ss s : Nat} {on : Int} {N : Nat → Option Nat} {t wa bb : Nat → Nat} {F : Nat → Nat → Int} {pv : Nat → Value} {sd ah : Nat → Int} {P : Nat → Int} {L : List Nat} (h4L : L.length ≤ 4) (hP : Pok P) (gh : gH) (hna : gh na = some (gR 8 14 (N))) (hg : gh g = some (gO 5 [.ref ss])) (hs : gh ss = some (gI 0 960 (P))) (hG : grH F s on N t wa bb pv sd ah L gh) : gM l D base yX3_greatestFrom cX3_greatestFrom 9 (some Jvm.ClassFile.FieldType.int) 0 0 0 0 [.ref na, vi (((L.length : Nat) : Int)), vi (4), .ref g] gh (fun r gh' => r = some (vi (gfV F s on (L.drop 4) P)) ∧ gh' = gh) gNo := by
  refine gM.of hl (by decide) (by simp [Value.category]) (Nat.le_of_ble_eq_true rfl) [some (.ref na), some (vi (((L.length : Nat) : Int))), some (vi (4)), some (.ref g), none, none, none, none, none] rfl (fun x hC hq => ?_)
  refine g_iload_n hC dX3_greatestFrom_0 rfl ?_
  refine g_if_lt (tgt := 26) hC dX3_greatestFrom_1 (by decide) (by omega) (fun c_1 => False.elim (by omega)) (fun c_1 => ?_)
  refine g_iload_n hC dX3_greatestFrom_4 rfl ?_
  refine g_iload_n hC dX3_greatestFrom_5 rfl ?_
  refine g_icmp_ge (tgt := 26) hC dX3_greatestFrom_6 (by decide) (by omega) (by omega) (fun hc => ?_) (fun hc => ?_)
  · refine g_iconst hC dX3_greatestFrom_26 rfl ?_
    refine g_top (b := gfV F s on (L.drop 4) P) (by rw [List.drop_eq_nil_of_le (by omega)]; rfl) ?_
    exact g_iret hC hq dX3_greatestFrom_27 (by decide) (by decide) ⟨rfl, rfl⟩
  · omega

set_option maxHeartbeats 4000000 in
set_option maxRecDepth 100000 in
theorem kX3_gr3 {l : Launch} (hl : l.stackTraces = false) {D : gD} {base : Nat}  {na g ss s : Nat} {on : Int} {N : Nat → Option Nat} {t wa bb : Nat → Nat} {F : Nat → Nat → Int} {pv : Nat → Value} {sd ah : Nat → Int} {P : Nat → Int} {L : List Nat} (h4L : L.length ≤ 4) (hP : Pok P) (gh : gH) (hna : gh na = some (gR 8 14 (N))) (hg : gh g = some (gO 5 [.ref ss])) (hs : gh ss = some (gI 0 960 (P))) (hG : grH F s on N t wa bb pv sd ah L gh) : gM l D base yX3_greatestFrom cX3_greatestFrom 9 (some Jvm.ClassFile.FieldType.int) 6 131 0 0 [.ref na, vi (((L.length : Nat) : Int)), vi (3), .ref g] gh (fun r gh' => r = some (vi (gfV F s on (L.drop 3) P)) ∧ gh' = gh) gNo := by
  refine gM.of hl (by decide) (by simp [Value.category]) (Nat.le_of_ble_eq_true rfl) [some (.ref na), some (vi (((L.length : Nat) : Int))), some (vi (3)), some (.ref g), none, none, none, none, none] rfl (fun x hC hq => ?_)
  refine g_iload_n hC dX3_greatestFrom_0 rfl ?_
  refine g_if_lt (tgt := 26) hC dX3_greatestFrom_1 (by decide) (by omega) (fun c_1 => False.elim (by omega)) (fun c_1 => ?_)
  refine g_iload_n hC dX3_greatestFrom_4 rfl ?_
  refine g_iload_n hC dX3_greatestFrom_5 rfl ?_
  refine g_icmp_ge (tgt := 26) hC dX3_greatestFrom_6 (by decide) (by omega) (by omega) (fun hc => ?_) (fun hc => ?_)
  · refine g_iconst hC dX3_greatestFrom_26 rfl ?_
    refine g_top (b := gfV F s on (L.drop 3) P) (by rw [List.drop_eq_nil_of_le (by omega)]; rfl) ?_
    exact g_iret hC hq dX3_greatestFrom_27 (by decide) (by decide) ⟨rfl, rfl⟩
  · have hlt : 3 < L.length := by omega
    have hG0 := hG 3 hlt
    have hr6 := getD_all (p := fun i => 1 ≤ F 6 i ∧ F 6 i ≤ 5) (fun q hq => (hG q hq).2.2.2.2.2.2.2)
    have hdr := dropT hlt
    obtain ⟨i, ei⟩ : ∃ i, i = L.getD 3 0 := ⟨_, rfl⟩
    rw [← ei] at hG0 hdr
    obtain ⟨hN, ht0, hwd, hb0, hon, h9, hlet, h6⟩ := hG0
    obtain ⟨k, hk⟩ : ∃ k : Nat, F 9 (nmOf F on i).toNat = (k : Int) := ⟨(F 9 (nmOf F on i).toNat).toNat, by omega⟩
    rw [hk] at h9 hb0 hlet
    rw [Int.toNat_natCast] at hb0
    rw [show cN F s i = qCol F s i from if_pos hon, show rN F s i = qRow F s i from if_pos hon] at ht0
    have hc0 := qCol_rng hon
    have hr0 := qRow_rng hon
    have hk8 : 1 ≤ k ∧ k ≤ 8 := by omega
    obtain ⟨L2, eL2⟩ : ∃ L2, L2 = L.drop (3 + 1) := ⟨_, rfl⟩
    rw [← eL2] at hdr
    have hr62 : ∀ j ∈ L2, 1 ≤ F 6 j ∧ F 6 j ≤ 5 := fun j hj => hr6 j (List.mem_of_mem_drop (by rw [← eL2]; exact hj))
    have hl2 : L2.length ≤ 4 := by rw [eL2, List.length_drop]; omega
    have hgr0 := gfV_rng (s := s) (on := on) L2 hr62
    have hgr : ∀ Q, 0 ≤ gfV F s on L2 Q ∧ gfV F s on L2 Q ≤ 20 := fun Q => by have := hgr0 Q; omega
    clear hgr0
    have hmr := sumL_rng (F := F) (i :: L2) (by rw [← hdr]; exact fun j hj => hr6 j (List.mem_of_mem_drop hj))
    rw [List.length_cons] at hmr
    obtain ⟨mo, emo⟩ : ∃ mo : Int, mo = sumL F (i :: L2) := ⟨_, rfl⟩
    rw [← emo] at hmr
    refine g_iload_n hC dX3_greatestFrom_9 rfl ?_
    refine g_ald_n hC dX3_greatestFrom_10 rfl ?_
    refine g_alenR hC dX3_greatestFrom_11 hna (by decide) ?_
    refine g_top (b := 14) rfl ?_
    refine g_icmp_ge (tgt := 26) hC dX3_greatestFrom_12 (by decide) (by omega) (by omega) (fun c_12 => False.elim (by omega)) (fun c_12 => ?_)
    refine g_iload_n hC dX3_greatestFrom_15 rfl ?_
    refine g_iconst hC dX3_greatestFrom_16 rfl ?_
    refine g_icmp_ge (tgt := 26) hC dX3_greatestFrom_17 (by decide) (by omega) (by omega) (fun c_17 => False.elim (by omega)) (fun c_17 => ?_)
    refine g_ald_n hC dX3_greatestFrom_20 rfl ?_
    refine g_iload_n hC dX3_greatestFrom_21 rfl ?_
    refine g_aaldK (v := some (t i)) hC (3) dX3_greatestFrom_22 hna (by decide) rfl (by omega) (by omega) (by decide) (hN) ?_
    refine g_ifnonnull_r (tgt := 28) hC dX3_greatestFrom_23 (by decide) ?_
    refine g_ald_n hC dX3_greatestFrom_28 rfl ?_
    refine g_iload_n hC dX3_greatestFrom_29 rfl ?_
    refine g_aaldK (v := some (t i)) hC (3) dX3_greatestFrom_30 hna (by decide) rfl (by omega) (by omega) (by decide) (hN) ?_
    refine g_ast (lv' := [some (.ref na), some (vi (((L.length : Nat) : Int))), some (vi (3)), some (.ref g), some (.ref (t i)), none, none, none, none]) hC dX3_greatestFrom_31 (by decide) rfl ?_
    refine g_ald_n hC dX3_greatestFrom_33 rfl ?_
    refine g_iload_n hC dX3_greatestFrom_34 rfl ?_
    refine g_iload_n hC dX3_greatestFrom_35 rfl ?_
    refine g_callS (rest := []) hC (kX3_ranksFrom (s := s) (F := F) (N := N) (lo := fun q => L.getD q 0) (t := t) (pv := pv) (wv := fun i => .ref (wa i)) (sd := sd) (ah := ah) (c := L.length) hl 3 (by omega) (by omega) gh hna (fun q hq => ⟨(hG q hq).1, (hG q hq).2.1⟩)) gc_RX3_120 rfl ⟨by decide, by decide⟩ ⟨by decide, by decide⟩ (Nat.le_of_ble_eq_true rfl) rfl dX3_greatestFrom_36 (fun r gh' hp => ?_)
    obtain ⟨rfl, hgh⟩ := hp
    rw [hgh]
    clear hgh
    refine gV.eqs (st' := [vi mo]) rfl (by rw [rsN_sum (by omega), hdr, ← emo]; rfl) rfl ?_
    refine g_istore (lv' := [some (.ref na), some (vi (((L.length : Nat) : Int))), some (vi (3)), some (.ref g), some (.ref (t i)), some (vi (mo)), none, none, none]) hC dX3_greatestFrom_39 (by decide) rfl ?_
    refine g_iconst hC dX3_greatestFrom_41 rfl ?_
    refine g_istore (lv' := [some (.ref na), some (vi (((L.length : Nat) : Int))), some (vi (3)), some (.ref g), some (.ref (t i)), some (vi (mo)), some (vi (0)), none, none]) hC dX3_greatestFrom_42 (by decide) rfl ?_
    refine g_iconst hC dX3_greatestFrom_44 rfl ?_
    refine g_istore (lv' := [some (.ref na), some (vi (((L.length : Nat) : Int))), some (vi (3)), some (.ref g), some (.ref (t i)), some (vi (mo)), some (vi (0)), some (vi (0)), none]) hC dX3_greatestFrom_45 (by decide) rfl ?_
    have hsr := gfS_rng (s := s) (on := on) (P := P) (mo := mo) hgr h6
    have aft : gV x D base 9 119 [some (.ref na), some (vi (((L.length : Nat) : Int))), some (vi (3)), some (.ref g), some (.ref (t i)), some (vi (mo)), some (vi (gfS F s on (gfV F s on L2) P i mo 4)), none, none] [] gh 0 0 := by
      have h4 := hsr 4
      refine g_iload hC dX3_greatestFrom_119 rfl ?_
      refine g_iload hC dX3_greatestFrom_121 rfl ?_
      refine g_icmp_ge (tgt := 142) hC dX3_greatestFrom_123 (by decide) (by omega) (by omega) (fun hm => ?_) (fun hm => ?_)
      · refine g_iload hC dX3_greatestFrom_142 rfl ?_
        refine g_top (b := gfV F s on (L.drop 3) P) (by rw [hdr, gfV_c, ← emo, if_neg (by omega)]) ?_
        exact g_iret hC hq dX3_greatestFrom_144 (by decide) (by decide) ⟨rfl, rfl⟩
      · have hq0 := hgr P
        refine g_iload hC dX3_greatestFrom_126 rfl ?_
        refine g_ald_n hC dX3_greatestFrom_128 rfl ?_
        refine g_iload_n hC dX3_greatestFrom_129 rfl ?_
        refine g_iload_n hC dX3_greatestFrom_130 rfl ?_
        refine g_iconst hC dX3_greatestFrom_131 rfl ?_
        refine g_iadd hC dX3_greatestFrom_132 ?_
        refine g_top (b := 4) rfl ?_
        refine g_ald_n hC dX3_greatestFrom_133 rfl ?_
        refine g_callS (rest := [vi (gfS F s on (gfV F s on L2) P i mo 4)]) hC (kX3_gr4 (s := s) (on := on) (F := F) (N := N) (t := t) (wa := wa) (bb := bb) (pv := pv) (sd := sd) (ah := ah) (L := L) hl h4L hP gh hna hg hs hG) gc_RX3_116 rfl ⟨by decide, by decide⟩ ⟨by decide, by decide⟩ (Nat.le_of_ble_eq_true rfl) rfl dX3_greatestFrom_134 (fun r gh' hp => ?_)
        obtain ⟨rfl, hgh⟩ := hp
        rw [hgh]
        clear hgh
        refine gV.eqs (st' := [vi (gfV F s on L2 (P)), vi (gfS F s on (gfV F s on L2) P i mo 4)]) rfl (by rw [eL2]; rfl) rfl ?_
        refine g_max hC gmx_RX3 gmx_s gmx_i gmx_c (by decide) (Nat.le_of_ble_eq_true rfl) (by decide) (by decide) (by omega) (by omega) dX3_greatestFrom_137 ?_
        refine g_istore (lv' := [some (.ref na), some (vi (((L.length : Nat) : Int))), some (vi (3)), some (.ref g), some (.ref (t i)), some (vi (mo)), some (vi (max (gfS F s on (gfV F s on L2) P i mo 4) (gfV F s on L2 P))), none, none]) hC dX3_greatestFrom_140 (by decide) rfl ?_
        refine g_iload hC dX3_greatestFrom_142 rfl ?_
        refine g_top (b := gfV F s on (L.drop 3) P) (by rw [hdr, gfV_c, ← emo, if_pos (by omega)]) ?_
        exact g_iret hC hq dX3_greatestFrom_144 (by decide) (by decide) ⟨rfl, rfl⟩
    have lp : ∀ m : Nat, m ≤ 4 → gV x D base 9 47 [some (.ref na), some (vi (((L.length : Nat) : Int))), some (vi (3)), some (.ref g), some (.ref (t i)), some (vi (mo)), some (vi (gfS F s on (gfV F s on L2) P i mo m)), some (vi ((m : Int))), none] [] (gh) (0) (0) := by
      refine g_for _ (fun m hn ih => ?_) ?_
      · have h4 := hsr m
        refine g_iload hC dX3_greatestFrom_47 rfl ?_
        refine g_iconst hC dX3_greatestFrom_49 rfl ?_
        refine g_icmp_ge (tgt := 119) hC dX3_greatestFrom_50 (by decide) (by omega) (by omega) (fun c_50 => False.elim (by omega)) (fun c_50 => ?_)
        refine g_iload hC dX3_greatestFrom_53 rfl ?_
        refine g_iload hC dX3_greatestFrom_55 rfl ?_
        refine g_icmp_ge (tgt := 119) hC dX3_greatestFrom_57 (by decide) (by omega) (by omega) (fun hm => ?_) (fun hm => ?_)
        · refine gV.drop (lv' := [some (.ref na), some (vi (((L.length : Nat) : Int))), some (vi (3)), some (.ref g), some (.ref (t i)), some (vi (mo)), some (vi (gfS F s on (gfV F s on L2) P i mo m)), none, none]) (by intro k v hk; match k, hk with | 0, hk => exact hk | 1, hk => exact hk | 2, hk => exact hk | 3, hk => exact hk | 4, hk => exact hk | 5, hk => exact hk | 6, hk => exact hk | 7, hk => exact absurd hk (by simp) | 8, hk => exact absurd hk (by simp) | k + 9, hk => exact absurd hk (by simp)) ?_
          refine gV.eqs (lv' := [some (.ref na), some (vi (((L.length : Nat) : Int))), some (vi (3)), some (.ref g), some (.ref (t i)), some (vi (mo)), some (vi (gfS F s on (gfV F s on L2) P i mo 4)), none, none]) (lcons rfl (lcons rfl (lcons rfl (lcons rfl (lcons rfl (lcons rfl (lcons (svi (by have h5 := gfS_stop hm (4 - m); rw [show m + (4 - m) = 4 by omega] at h5; exact h5.symm)) (lcons rfl (lcons rfl rfl))))))))) rfl rfl aft
        · refine g_ald hC dX3_greatestFrom_60 rfl ?_
          refine g_ald_n hC dX3_greatestFrom_62 rfl ?_
          refine g_iload hC dX3_greatestFrom_63 rfl ?_
          refine g_callV (rest := []) hC (kX5_mayStand hl k (m : Int) (by omega) hk8 (by omega) (by omega) hP gh ht0 hg hs hwd hb0) gc_RX3_124 rfl ht0 rfl ⟨by decide, by decide⟩ ⟨by decide, by decide⟩ (Nat.le_of_ble_eq_true rfl) rfl dX3_greatestFrom_65 (fun r gh' hp => ?_)
          obtain ⟨rfl, hgh⟩ := hp
          rw [hgh]
          clear hgh
          refine gV.eqs (st' := [vi (b2i (mayB P (rowAtN (qRow F s i) (m : Int)) (colAtN (qCol F s i) (m : Int) k) k))]) rfl rfl rfl ?_
          have emb : mayI F s on P i (m : Int) = mayB P (rowAtN (qRow F s i) (m : Int)) (colAtN (qCol F s i) (m : Int) k) k := by unfold mayI nmn; rw [hk]
          refine g_ifeq_b (tgt := 113) hC dX3_greatestFrom_68 (by decide)  (fun hB => ?_) (fun hB => ?_)
          · refine g_iinc (lv' := [some (.ref na), some (vi (((L.length : Nat) : Int))), some (vi (3)), some (.ref g), some (.ref (t i)), some (vi (mo)), some (vi (gfS F s on (gfV F s on L2) P i mo m)), some (vi ((m : Int) + 1)), none]) hC dX3_greatestFrom_113 (by decide) rfl rfl ?_
            refine g_goto (tgt := 47) hC dX3_greatestFrom_116 (by decide) ?_
            refine gV.drop (lv' := [some (.ref na), some (vi (((L.length : Nat) : Int))), some (vi (3)), some (.ref g), some (.ref (t i)), some (vi (mo)), some (vi (gfS F s on (gfV F s on L2) P i mo m)), some (vi ((m : Int) + 1)), none]) (by intro k v hk; match k, hk with | 0, hk => exact hk | 1, hk => exact hk | 2, hk => exact hk | 3, hk => exact hk | 4, hk => exact hk | 5, hk => exact hk | 6, hk => exact hk | 7, hk => exact hk | 8, hk => exact absurd hk (by simp) | k + 9, hk => exact absurd hk (by simp)) ?_
            refine gV.eqs (lv' := [some (.ref na), some (vi (((L.length : Nat) : Int))), some (vi (3)), some (.ref g), some (.ref (t i)), some (vi (mo)), some (vi (gfS F s on (gfV F s on L2) P i mo (m + 1))), some (vi ((((m + 1) : Nat) : Int))), none]) (lcons rfl (lcons rfl (lcons rfl (lcons rfl (lcons rfl (lcons rfl (lcons (svi (by rw [gfS_s, if_pos hm, if_neg (by rw [emb, hB]; decide)])) (lcons (svi (by omega)) (lcons rfl rfl))))))))) rfl rfl ih
          · have ewr : wrtI F s on P i (m : Int) = putN P (40 * rowAtN (qRow F s i) (m : Int) + colAtN (qCol F s i) (m : Int) k).toNat (fun t => F 10 (8 * (nmOf F on i).toNat + t)) k := by unfold wrtI wrt; rw [hk, Int.toNat_natCast]
            have hP2 : Pok (putN P (40 * rowAtN (qRow F s i) (m : Int) + colAtN (qCol F s i) (m : Int) k).toNat (fun t => F 10 (8 * (nmOf F on i).toNat + t)) k) := putN_ok hP (fun t ht => by have := hlet t (by omega); omega)
            have hq0 := hgr (putN P (40 * rowAtN (qRow F s i) (m : Int) + colAtN (qCol F s i) (m : Int) k).toNat (fun t => F 10 (8 * (nmOf F on i).toNat + t)) k)
            refine g_ald hC dX3_greatestFrom_71 rfl ?_
            refine g_ald_n hC dX3_greatestFrom_73 rfl ?_
            refine g_iload hC dX3_greatestFrom_74 rfl ?_
            refine g_callV (rest := []) hC (kX5_write hl k (m : Int) (by omega) hk8 (by omega) (by omega) (fun t ht => hlet t (by omega)) (mayB_fit hB) gh ht0 hg hs hwd hb0) gc_RX3_128 rfl ht0 rfl ⟨by decide, by decide⟩ ⟨by decide, by decide⟩ (Nat.le_of_ble_eq_true rfl) rfl dX3_greatestFrom_76 (fun r gh' hp => ?_)
            obtain ⟨rfl, hgh⟩ := hp
            rw [hgh]
            clear hgh
            refine gV.eqs (st' := []) rfl rfl rfl ?_
            obtain ⟨gh1, egh1⟩ : ∃ g_, g_ = gset gh ss (gI 0 960 (putN P (40 * rowAtN (qRow F s i) (m : Int) + colAtN (qCol F s i) (m : Int) k).toNat (fun t => F 10 (8 * (nmOf F on i).toNat + t)) k)) := ⟨_, rfl⟩
            rw [← egh1]
            have h2 : gh1 na = some (gR 8 14 (N)) := by rw [egh1, gset_ne (gne hna hs (by simp))]; exact hna
            have h3 : gh1 g = some (gO 5 [.ref ss]) := by rw [egh1, gset_ne (gne hg hs (by simp))]; exact hg
            have h4 : gh1 (t i) = some (gO 9 [vi (F 6 i), vi (qCol F s i), vi (qRow F s i), (pv i), .ref (wa i), vi (sd i), vi (ah i)]) := by rw [egh1, gset_ne (gne ht0 hs (by simp))]; exact ht0
            have h5 : gh1 (wa i) = some (gO 0 [.ref (bb i), vi (0), vi (0), vi (0)]) := by rw [egh1, gset_ne (gne hwd hs (by simp))]; exact hwd
            have h6 : gh1 (bb i) = some (gI 2 k (fun t => F 10 (8 * (nmOf F on i).toNat + t))) := by rw [egh1, gset_ne (gne hb0 hs (by simp))]; exact hb0
            have h7 : gh1 ss = some (gI 0 960 (putN P (40 * rowAtN (qRow F s i) (m : Int) + colAtN (qCol F s i) (m : Int) k).toNat (fun t => F 10 (8 * (nmOf F on i).toNat + t)) k)) := by rw [egh1]; exact gset_eq
            refine g_ald hC dX3_greatestFrom_79 rfl ?_
            refine g_get hC dX3_greatestFrom_81 gf_RX3_87 h4 rfl ?_
            refine g_ald_n hC dX3_greatestFrom_84 rfl ?_
            refine g_iload_n hC dX3_greatestFrom_85 rfl ?_
            refine g_iload_n hC dX3_greatestFrom_86 rfl ?_
            refine g_iconst hC dX3_greatestFrom_87 rfl ?_
            refine g_iadd hC dX3_greatestFrom_88 ?_
            refine g_top (b := 4) rfl ?_
            refine g_ald_n hC dX3_greatestFrom_89 rfl ?_
            refine g_callS (rest := [vi (F 6 i)]) hC (kX3_gr4 (s := s) (on := on) (F := F) (N := N) (t := t) (wa := wa) (bb := bb) (pv := pv) (sd := sd) (ah := ah) (L := L) hl h4L hP2 gh1 h2 h3 h7 (by rw [egh1]; exact hG.set hs)) gc_RX3_116 rfl ⟨by decide, by decide⟩ ⟨by decide, by decide⟩ (Nat.le_of_ble_eq_true rfl) rfl dX3_greatestFrom_90 (fun r gh' hp => ?_)
            obtain ⟨rfl, hgh⟩ := hp
            rw [hgh]
            clear hgh
            refine gV.eqs (st' := [vi (gfV F s on L2 (putN P (40 * rowAtN (qRow F s i) (m : Int) + colAtN (qCol F s i) (m : Int) k).toNat (fun t => F 10 (8 * (nmOf F on i).toNat + t)) k)), vi (F 6 i)]) rfl (by rw [eL2]; rfl) rfl ?_
            refine g_iadd hC dX3_greatestFrom_93 ?_
            refine g_istore (lv' := [some (.ref na), some (vi (((L.length : Nat) : Int))), some (vi (3)), some (.ref g), some (.ref (t i)), some (vi (mo)), some (vi (gfS F s on (gfV F s on L2) P i mo m)), some (vi ((m : Int))), some (vi ((F 6 i) + (gfV F s on L2 (putN P (40 * rowAtN (qRow F s i) (m : Int) + colAtN (qCol F s i) (m : Int) k).toNat (fun t => F 10 (8 * (nmOf F on i).toNat + t)) k))))]) hC dX3_greatestFrom_94 (by decide) rfl ?_
            refine g_iload hC dX3_greatestFrom_96 rfl ?_
            refine g_iload hC dX3_greatestFrom_98 rfl ?_
            refine g_max hC gmx_RX3 gmx_s gmx_i gmx_c (by decide) (Nat.le_of_ble_eq_true rfl) (by decide) (by decide) (by omega) (by omega) dX3_greatestFrom_100 ?_
            refine g_istore (lv' := [some (.ref na), some (vi (((L.length : Nat) : Int))), some (vi (3)), some (.ref g), some (.ref (t i)), some (vi (mo)), some (vi (max (gfS F s on (gfV F s on L2) P i mo m) (F 6 i + gfV F s on L2 (putN P (40 * rowAtN (qRow F s i) (m : Int) + colAtN (qCol F s i) (m : Int) k).toNat (fun t => F 10 (8 * (nmOf F on i).toNat + t)) k)))), some (vi ((m : Int))), some (vi ((F 6 i) + (gfV F s on L2 (putN P (40 * rowAtN (qRow F s i) (m : Int) + colAtN (qCol F s i) (m : Int) k).toNat (fun t => F 10 (8 * (nmOf F on i).toNat + t)) k))))]) hC dX3_greatestFrom_103 (by decide) rfl ?_
            refine g_ald hC dX3_greatestFrom_105 rfl ?_
            refine g_ald_n hC dX3_greatestFrom_107 rfl ?_
            refine g_iload hC dX3_greatestFrom_108 rfl ?_
            refine g_callV (rest := []) hC (kX5_erase hl k (m : Int) (by omega) hk8 (by omega) (by omega) (mayB_fit hB) gh1 h4 h3 h7 h5 h6) gc_RX3_138 rfl h4 rfl ⟨by decide, by decide⟩ ⟨by decide, by decide⟩ (Nat.le_of_ble_eq_true rfl) rfl dX3_greatestFrom_110 (fun r gh' hp => ?_)
            obtain ⟨rfl, hgh⟩ := hp
            rw [hgh]
            clear hgh
            refine gV.eqs (st' := []) rfl rfl rfl ?_
            refine g_iinc (lv' := [some (.ref na), some (vi (((L.length : Nat) : Int))), some (vi (3)), some (.ref g), some (.ref (t i)), some (vi (mo)), some (vi (max (gfS F s on (gfV F s on L2) P i mo m) (F 6 i + gfV F s on L2 (putN P (40 * rowAtN (qRow F s i) (m : Int) + colAtN (qCol F s i) (m : Int) k).toNat (fun t => F 10 (8 * (nmOf F on i).toNat + t)) k)))), some (vi ((m : Int) + 1)), some (vi ((F 6 i) + (gfV F s on L2 (putN P (40 * rowAtN (qRow F s i) (m : Int) + colAtN (qCol F s i) (m : Int) k).toNat (fun t => F 10 (8 * (nmOf F on i).toNat + t)) k))))]) hC dX3_greatestFrom_113 (by decide) rfl rfl ?_
            refine g_goto (tgt := 47) hC dX3_greatestFrom_116 (by decide) ?_
            refine gV.drop (lv' := [some (.ref na), some (vi (((L.length : Nat) : Int))), some (vi (3)), some (.ref g), some (.ref (t i)), some (vi (mo)), some (vi (max (gfS F s on (gfV F s on L2) P i mo m) (F 6 i + gfV F s on L2 (putN P (40 * rowAtN (qRow F s i) (m : Int) + colAtN (qCol F s i) (m : Int) k).toNat (fun t => F 10 (8 * (nmOf F on i).toNat + t)) k)))), some (vi ((m : Int) + 1)), none]) (by intro k v hk; match k, hk with | 0, hk => exact hk | 1, hk => exact hk | 2, hk => exact hk | 3, hk => exact hk | 4, hk => exact hk | 5, hk => exact hk | 6, hk => exact hk | 7, hk => exact hk | 8, hk => exact absurd hk (by simp) | k + 9, hk => exact absurd hk (by simp)) ?_
            refine gV.eqs (lv' := [some (.ref na), some (vi (((L.length : Nat) : Int))), some (vi (3)), some (.ref g), some (.ref (t i)), some (vi (mo)), some (vi (gfS F s on (gfV F s on L2) P i mo (m + 1))), some (vi ((((m + 1) : Nat) : Int))), none]) (lcons rfl (lcons rfl (lcons rfl (lcons rfl (lcons rfl (lcons rfl (lcons (svi (by rw [gfS_s, if_pos hm, if_pos (by rw [emb]; exact hB), ewr])) (lcons (svi (by omega)) (lcons rfl rfl))))))))) rfl (by rw [egh1, gset_set, erase_back hB, gset_self hs]) ih
      · refine g_iload hC dX3_greatestFrom_47 rfl ?_
        refine g_iconst hC dX3_greatestFrom_49 rfl ?_
        refine g_icmp_ge (tgt := 119) hC dX3_greatestFrom_50 (by decide) (by omega) (by omega) (fun c_50 => ?_) (fun c_50 => False.elim (by omega))
        refine gV.drop (lv' := [some (.ref na), some (vi (((L.length : Nat) : Int))), some (vi (3)), some (.ref g), some (.ref (t i)), some (vi (mo)), some (vi (gfS F s on (gfV F s on L2) P i mo 4)), none, none]) (by intro k v hk; match k, hk with | 0, hk => exact hk | 1, hk => exact hk | 2, hk => exact hk | 3, hk => exact hk | 4, hk => exact hk | 5, hk => exact hk | 6, hk => exact hk | 7, hk => exact absurd hk (by simp) | 8, hk => exact absurd hk (by simp) | k + 9, hk => exact absurd hk (by simp)) ?_
        refine gV.eqs (lv' := [some (.ref na), some (vi (((L.length : Nat) : Int))), some (vi (3)), some (.ref g), some (.ref (t i)), some (vi (mo)), some (vi (gfS F s on (gfV F s on L2) P i mo 4)), none, none]) (lcons rfl (lcons rfl (lcons rfl (lcons rfl (lcons rfl (lcons rfl (lcons rfl (lcons rfl (lcons rfl rfl))))))))) rfl rfl aft
    refine gV.eqs (lv' := [some (.ref na), some (vi (((L.length : Nat) : Int))), some (vi (3)), some (.ref g), some (.ref (t i)), some (vi (mo)), some (vi (gfS F s on (gfV F s on L2) P i mo 0)), some (vi (((0 : Nat) : Int))), none]) (lcons rfl (lcons rfl (lcons rfl (lcons rfl (lcons rfl (lcons rfl (lcons (svi (rfl)) (lcons (svi (rfl)) (lcons rfl rfl))))))))) rfl rfl (lp 0 (Nat.zero_le _))

set_option maxHeartbeats 4000000 in
set_option maxRecDepth 100000 in
theorem kX3_gr2 {l : Launch} (hl : l.stackTraces = false) {D : gD} {base : Nat}  {na g ss s : Nat} {on : Int} {N : Nat → Option Nat} {t wa bb : Nat → Nat} {F : Nat → Nat → Int} {pv : Nat → Value} {sd ah : Nat → Int} {P : Nat → Int} {L : List Nat} (h4L : L.length ≤ 4) (hP : Pok P) (gh : gH) (hna : gh na = some (gR 8 14 (N))) (hg : gh g = some (gO 5 [.ref ss])) (hs : gh ss = some (gI 0 960 (P))) (hG : grH F s on N t wa bb pv sd ah L gh) : gM l D base yX3_greatestFrom cX3_greatestFrom 9 (some Jvm.ClassFile.FieldType.int) 7 159 0 0 [.ref na, vi (((L.length : Nat) : Int)), vi (2), .ref g] gh (fun r gh' => r = some (vi (gfV F s on (L.drop 2) P)) ∧ gh' = gh) gNo := by
  refine gM.of hl (by decide) (by simp [Value.category]) (Nat.le_of_ble_eq_true rfl) [some (.ref na), some (vi (((L.length : Nat) : Int))), some (vi (2)), some (.ref g), none, none, none, none, none] rfl (fun x hC hq => ?_)
  refine g_iload_n hC dX3_greatestFrom_0 rfl ?_
  refine g_if_lt (tgt := 26) hC dX3_greatestFrom_1 (by decide) (by omega) (fun c_1 => False.elim (by omega)) (fun c_1 => ?_)
  refine g_iload_n hC dX3_greatestFrom_4 rfl ?_
  refine g_iload_n hC dX3_greatestFrom_5 rfl ?_
  refine g_icmp_ge (tgt := 26) hC dX3_greatestFrom_6 (by decide) (by omega) (by omega) (fun hc => ?_) (fun hc => ?_)
  · refine g_iconst hC dX3_greatestFrom_26 rfl ?_
    refine g_top (b := gfV F s on (L.drop 2) P) (by rw [List.drop_eq_nil_of_le (by omega)]; rfl) ?_
    exact g_iret hC hq dX3_greatestFrom_27 (by decide) (by decide) ⟨rfl, rfl⟩
  · have hlt : 2 < L.length := by omega
    have hG0 := hG 2 hlt
    have hr6 := getD_all (p := fun i => 1 ≤ F 6 i ∧ F 6 i ≤ 5) (fun q hq => (hG q hq).2.2.2.2.2.2.2)
    have hdr := dropT hlt
    obtain ⟨i, ei⟩ : ∃ i, i = L.getD 2 0 := ⟨_, rfl⟩
    rw [← ei] at hG0 hdr
    obtain ⟨hN, ht0, hwd, hb0, hon, h9, hlet, h6⟩ := hG0
    obtain ⟨k, hk⟩ : ∃ k : Nat, F 9 (nmOf F on i).toNat = (k : Int) := ⟨(F 9 (nmOf F on i).toNat).toNat, by omega⟩
    rw [hk] at h9 hb0 hlet
    rw [Int.toNat_natCast] at hb0
    rw [show cN F s i = qCol F s i from if_pos hon, show rN F s i = qRow F s i from if_pos hon] at ht0
    have hc0 := qCol_rng hon
    have hr0 := qRow_rng hon
    have hk8 : 1 ≤ k ∧ k ≤ 8 := by omega
    obtain ⟨L2, eL2⟩ : ∃ L2, L2 = L.drop (2 + 1) := ⟨_, rfl⟩
    rw [← eL2] at hdr
    have hr62 : ∀ j ∈ L2, 1 ≤ F 6 j ∧ F 6 j ≤ 5 := fun j hj => hr6 j (List.mem_of_mem_drop (by rw [← eL2]; exact hj))
    have hl2 : L2.length ≤ 4 := by rw [eL2, List.length_drop]; omega
    have hgr0 := gfV_rng (s := s) (on := on) L2 hr62
    have hgr : ∀ Q, 0 ≤ gfV F s on L2 Q ∧ gfV F s on L2 Q ≤ 20 := fun Q => by have := hgr0 Q; omega
    clear hgr0
    have hmr := sumL_rng (F := F) (i :: L2) (by rw [← hdr]; exact fun j hj => hr6 j (List.mem_of_mem_drop hj))
    rw [List.length_cons] at hmr
    obtain ⟨mo, emo⟩ : ∃ mo : Int, mo = sumL F (i :: L2) := ⟨_, rfl⟩
    rw [← emo] at hmr
    refine g_iload_n hC dX3_greatestFrom_9 rfl ?_
    refine g_ald_n hC dX3_greatestFrom_10 rfl ?_
    refine g_alenR hC dX3_greatestFrom_11 hna (by decide) ?_
    refine g_top (b := 14) rfl ?_
    refine g_icmp_ge (tgt := 26) hC dX3_greatestFrom_12 (by decide) (by omega) (by omega) (fun c_12 => False.elim (by omega)) (fun c_12 => ?_)
    refine g_iload_n hC dX3_greatestFrom_15 rfl ?_
    refine g_iconst hC dX3_greatestFrom_16 rfl ?_
    refine g_icmp_ge (tgt := 26) hC dX3_greatestFrom_17 (by decide) (by omega) (by omega) (fun c_17 => False.elim (by omega)) (fun c_17 => ?_)
    refine g_ald_n hC dX3_greatestFrom_20 rfl ?_
    refine g_iload_n hC dX3_greatestFrom_21 rfl ?_
    refine g_aaldK (v := some (t i)) hC (2) dX3_greatestFrom_22 hna (by decide) rfl (by omega) (by omega) (by decide) (hN) ?_
    refine g_ifnonnull_r (tgt := 28) hC dX3_greatestFrom_23 (by decide) ?_
    refine g_ald_n hC dX3_greatestFrom_28 rfl ?_
    refine g_iload_n hC dX3_greatestFrom_29 rfl ?_
    refine g_aaldK (v := some (t i)) hC (2) dX3_greatestFrom_30 hna (by decide) rfl (by omega) (by omega) (by decide) (hN) ?_
    refine g_ast (lv' := [some (.ref na), some (vi (((L.length : Nat) : Int))), some (vi (2)), some (.ref g), some (.ref (t i)), none, none, none, none]) hC dX3_greatestFrom_31 (by decide) rfl ?_
    refine g_ald_n hC dX3_greatestFrom_33 rfl ?_
    refine g_iload_n hC dX3_greatestFrom_34 rfl ?_
    refine g_iload_n hC dX3_greatestFrom_35 rfl ?_
    refine g_callS (rest := []) hC (kX3_ranksFrom (s := s) (F := F) (N := N) (lo := fun q => L.getD q 0) (t := t) (pv := pv) (wv := fun i => .ref (wa i)) (sd := sd) (ah := ah) (c := L.length) hl 2 (by omega) (by omega) gh hna (fun q hq => ⟨(hG q hq).1, (hG q hq).2.1⟩)) gc_RX3_120 rfl ⟨by decide, by decide⟩ ⟨by decide, by decide⟩ (Nat.le_of_ble_eq_true rfl) rfl dX3_greatestFrom_36 (fun r gh' hp => ?_)
    obtain ⟨rfl, hgh⟩ := hp
    rw [hgh]
    clear hgh
    refine gV.eqs (st' := [vi mo]) rfl (by rw [rsN_sum (by omega), hdr, ← emo]; rfl) rfl ?_
    refine g_istore (lv' := [some (.ref na), some (vi (((L.length : Nat) : Int))), some (vi (2)), some (.ref g), some (.ref (t i)), some (vi (mo)), none, none, none]) hC dX3_greatestFrom_39 (by decide) rfl ?_
    refine g_iconst hC dX3_greatestFrom_41 rfl ?_
    refine g_istore (lv' := [some (.ref na), some (vi (((L.length : Nat) : Int))), some (vi (2)), some (.ref g), some (.ref (t i)), some (vi (mo)), some (vi (0)), none, none]) hC dX3_greatestFrom_42 (by decide) rfl ?_
    refine g_iconst hC dX3_greatestFrom_44 rfl ?_
    refine g_istore (lv' := [some (.ref na), some (vi (((L.length : Nat) : Int))), some (vi (2)), some (.ref g), some (.ref (t i)), some (vi (mo)), some (vi (0)), some (vi (0)), none]) hC dX3_greatestFrom_45 (by decide) rfl ?_
    have hsr := gfS_rng (s := s) (on := on) (P := P) (mo := mo) hgr h6
    have aft : gV x D base 9 119 [some (.ref na), some (vi (((L.length : Nat) : Int))), some (vi (2)), some (.ref g), some (.ref (t i)), some (vi (mo)), some (vi (gfS F s on (gfV F s on L2) P i mo 4)), none, none] [] gh 0 0 := by
      have h4 := hsr 4
      refine g_iload hC dX3_greatestFrom_119 rfl ?_
      refine g_iload hC dX3_greatestFrom_121 rfl ?_
      refine g_icmp_ge (tgt := 142) hC dX3_greatestFrom_123 (by decide) (by omega) (by omega) (fun hm => ?_) (fun hm => ?_)
      · refine g_iload hC dX3_greatestFrom_142 rfl ?_
        refine g_top (b := gfV F s on (L.drop 2) P) (by rw [hdr, gfV_c, ← emo, if_neg (by omega)]) ?_
        exact g_iret hC hq dX3_greatestFrom_144 (by decide) (by decide) ⟨rfl, rfl⟩
      · have hq0 := hgr P
        refine g_iload hC dX3_greatestFrom_126 rfl ?_
        refine g_ald_n hC dX3_greatestFrom_128 rfl ?_
        refine g_iload_n hC dX3_greatestFrom_129 rfl ?_
        refine g_iload_n hC dX3_greatestFrom_130 rfl ?_
        refine g_iconst hC dX3_greatestFrom_131 rfl ?_
        refine g_iadd hC dX3_greatestFrom_132 ?_
        refine g_top (b := 3) rfl ?_
        refine g_ald_n hC dX3_greatestFrom_133 rfl ?_
        refine g_callS (rest := [vi (gfS F s on (gfV F s on L2) P i mo 4)]) hC (kX3_gr3 (s := s) (on := on) (F := F) (N := N) (t := t) (wa := wa) (bb := bb) (pv := pv) (sd := sd) (ah := ah) (L := L) hl h4L hP gh hna hg hs hG) gc_RX3_116 rfl ⟨by decide, by decide⟩ ⟨by decide, by decide⟩ (Nat.le_of_ble_eq_true rfl) rfl dX3_greatestFrom_134 (fun r gh' hp => ?_)
        obtain ⟨rfl, hgh⟩ := hp
        rw [hgh]
        clear hgh
        refine gV.eqs (st' := [vi (gfV F s on L2 (P)), vi (gfS F s on (gfV F s on L2) P i mo 4)]) rfl (by rw [eL2]; rfl) rfl ?_
        refine g_max hC gmx_RX3 gmx_s gmx_i gmx_c (by decide) (Nat.le_of_ble_eq_true rfl) (by decide) (by decide) (by omega) (by omega) dX3_greatestFrom_137 ?_
        refine g_istore (lv' := [some (.ref na), some (vi (((L.length : Nat) : Int))), some (vi (2)), some (.ref g), some (.ref (t i)), some (vi (mo)), some (vi (max (gfS F s on (gfV F s on L2) P i mo 4) (gfV F s on L2 P))), none, none]) hC dX3_greatestFrom_140 (by decide) rfl ?_
        refine g_iload hC dX3_greatestFrom_142 rfl ?_
        refine g_top (b := gfV F s on (L.drop 2) P) (by rw [hdr, gfV_c, ← emo, if_pos (by omega)]) ?_
        exact g_iret hC hq dX3_greatestFrom_144 (by decide) (by decide) ⟨rfl, rfl⟩
    have lp : ∀ m : Nat, m ≤ 4 → gV x D base 9 47 [some (.ref na), some (vi (((L.length : Nat) : Int))), some (vi (2)), some (.ref g), some (.ref (t i)), some (vi (mo)), some (vi (gfS F s on (gfV F s on L2) P i mo m)), some (vi ((m : Int))), none] [] (gh) (0) (0) := by
      refine g_for _ (fun m hn ih => ?_) ?_
      · have h4 := hsr m
        refine g_iload hC dX3_greatestFrom_47 rfl ?_
        refine g_iconst hC dX3_greatestFrom_49 rfl ?_
        refine g_icmp_ge (tgt := 119) hC dX3_greatestFrom_50 (by decide) (by omega) (by omega) (fun c_50 => False.elim (by omega)) (fun c_50 => ?_)
        refine g_iload hC dX3_greatestFrom_53 rfl ?_
        refine g_iload hC dX3_greatestFrom_55 rfl ?_
        refine g_icmp_ge (tgt := 119) hC dX3_greatestFrom_57 (by decide) (by omega) (by omega) (fun hm => ?_) (fun hm => ?_)
        · refine gV.drop (lv' := [some (.ref na), some (vi (((L.length : Nat) : Int))), some (vi (2)), some (.ref g), some (.ref (t i)), some (vi (mo)), some (vi (gfS F s on (gfV F s on L2) P i mo m)), none, none]) (by intro k v hk; match k, hk with | 0, hk => exact hk | 1, hk => exact hk | 2, hk => exact hk | 3, hk => exact hk | 4, hk => exact hk | 5, hk => exact hk | 6, hk => exact hk | 7, hk => exact absurd hk (by simp) | 8, hk => exact absurd hk (by simp) | k + 9, hk => exact absurd hk (by simp)) ?_
          refine gV.eqs (lv' := [some (.ref na), some (vi (((L.length : Nat) : Int))), some (vi (2)), some (.ref g), some (.ref (t i)), some (vi (mo)), some (vi (gfS F s on (gfV F s on L2) P i mo 4)), none, none]) (lcons rfl (lcons rfl (lcons rfl (lcons rfl (lcons rfl (lcons rfl (lcons (svi (by have h5 := gfS_stop hm (4 - m); rw [show m + (4 - m) = 4 by omega] at h5; exact h5.symm)) (lcons rfl (lcons rfl rfl))))))))) rfl rfl aft
        · refine g_ald hC dX3_greatestFrom_60 rfl ?_
          refine g_ald_n hC dX3_greatestFrom_62 rfl ?_
          refine g_iload hC dX3_greatestFrom_63 rfl ?_
          refine g_callV (rest := []) hC (kX5_mayStand hl k (m : Int) (by omega) hk8 (by omega) (by omega) hP gh ht0 hg hs hwd hb0) gc_RX3_124 rfl ht0 rfl ⟨by decide, by decide⟩ ⟨by decide, by decide⟩ (Nat.le_of_ble_eq_true rfl) rfl dX3_greatestFrom_65 (fun r gh' hp => ?_)
          obtain ⟨rfl, hgh⟩ := hp
          rw [hgh]
          clear hgh
          refine gV.eqs (st' := [vi (b2i (mayB P (rowAtN (qRow F s i) (m : Int)) (colAtN (qCol F s i) (m : Int) k) k))]) rfl rfl rfl ?_
          have emb : mayI F s on P i (m : Int) = mayB P (rowAtN (qRow F s i) (m : Int)) (colAtN (qCol F s i) (m : Int) k) k := by unfold mayI nmn; rw [hk]
          refine g_ifeq_b (tgt := 113) hC dX3_greatestFrom_68 (by decide)  (fun hB => ?_) (fun hB => ?_)
          · refine g_iinc (lv' := [some (.ref na), some (vi (((L.length : Nat) : Int))), some (vi (2)), some (.ref g), some (.ref (t i)), some (vi (mo)), some (vi (gfS F s on (gfV F s on L2) P i mo m)), some (vi ((m : Int) + 1)), none]) hC dX3_greatestFrom_113 (by decide) rfl rfl ?_
            refine g_goto (tgt := 47) hC dX3_greatestFrom_116 (by decide) ?_
            refine gV.drop (lv' := [some (.ref na), some (vi (((L.length : Nat) : Int))), some (vi (2)), some (.ref g), some (.ref (t i)), some (vi (mo)), some (vi (gfS F s on (gfV F s on L2) P i mo m)), some (vi ((m : Int) + 1)), none]) (by intro k v hk; match k, hk with | 0, hk => exact hk | 1, hk => exact hk | 2, hk => exact hk | 3, hk => exact hk | 4, hk => exact hk | 5, hk => exact hk | 6, hk => exact hk | 7, hk => exact hk | 8, hk => exact absurd hk (by simp) | k + 9, hk => exact absurd hk (by simp)) ?_
            refine gV.eqs (lv' := [some (.ref na), some (vi (((L.length : Nat) : Int))), some (vi (2)), some (.ref g), some (.ref (t i)), some (vi (mo)), some (vi (gfS F s on (gfV F s on L2) P i mo (m + 1))), some (vi ((((m + 1) : Nat) : Int))), none]) (lcons rfl (lcons rfl (lcons rfl (lcons rfl (lcons rfl (lcons rfl (lcons (svi (by rw [gfS_s, if_pos hm, if_neg (by rw [emb, hB]; decide)])) (lcons (svi (by omega)) (lcons rfl rfl))))))))) rfl rfl ih
          · have ewr : wrtI F s on P i (m : Int) = putN P (40 * rowAtN (qRow F s i) (m : Int) + colAtN (qCol F s i) (m : Int) k).toNat (fun t => F 10 (8 * (nmOf F on i).toNat + t)) k := by unfold wrtI wrt; rw [hk, Int.toNat_natCast]
            have hP2 : Pok (putN P (40 * rowAtN (qRow F s i) (m : Int) + colAtN (qCol F s i) (m : Int) k).toNat (fun t => F 10 (8 * (nmOf F on i).toNat + t)) k) := putN_ok hP (fun t ht => by have := hlet t (by omega); omega)
            have hq0 := hgr (putN P (40 * rowAtN (qRow F s i) (m : Int) + colAtN (qCol F s i) (m : Int) k).toNat (fun t => F 10 (8 * (nmOf F on i).toNat + t)) k)
            refine g_ald hC dX3_greatestFrom_71 rfl ?_
            refine g_ald_n hC dX3_greatestFrom_73 rfl ?_
            refine g_iload hC dX3_greatestFrom_74 rfl ?_
            refine g_callV (rest := []) hC (kX5_write hl k (m : Int) (by omega) hk8 (by omega) (by omega) (fun t ht => hlet t (by omega)) (mayB_fit hB) gh ht0 hg hs hwd hb0) gc_RX3_128 rfl ht0 rfl ⟨by decide, by decide⟩ ⟨by decide, by decide⟩ (Nat.le_of_ble_eq_true rfl) rfl dX3_greatestFrom_76 (fun r gh' hp => ?_)
            obtain ⟨rfl, hgh⟩ := hp
            rw [hgh]
            clear hgh
            refine gV.eqs (st' := []) rfl rfl rfl ?_
            obtain ⟨gh1, egh1⟩ : ∃ g_, g_ = gset gh ss (gI 0 960 (putN P (40 * rowAtN (qRow F s i) (m : Int) + colAtN (qCol F s i) (m : Int) k).toNat (fun t => F 10 (8 * (nmOf F on i).toNat + t)) k)) := ⟨_, rfl⟩
            rw [← egh1]
            have h2 : gh1 na = some (gR 8 14 (N)) := by rw [egh1, gset_ne (gne hna hs (by simp))]; exact hna
            have h3 : gh1 g = some (gO 5 [.ref ss]) := by rw [egh1, gset_ne (gne hg hs (by simp))]; exact hg
            have h4 : gh1 (t i) = some (gO 9 [vi (F 6 i), vi (qCol F s i), vi (qRow F s i), (pv i), .ref (wa i), vi (sd i), vi (ah i)]) := by rw [egh1, gset_ne (gne ht0 hs (by simp))]; exact ht0
            have h5 : gh1 (wa i) = some (gO 0 [.ref (bb i), vi (0), vi (0), vi (0)]) := by rw [egh1, gset_ne (gne hwd hs (by simp))]; exact hwd
            have h6 : gh1 (bb i) = some (gI 2 k (fun t => F 10 (8 * (nmOf F on i).toNat + t))) := by rw [egh1, gset_ne (gne hb0 hs (by simp))]; exact hb0
            have h7 : gh1 ss = some (gI 0 960 (putN P (40 * rowAtN (qRow F s i) (m : Int) + colAtN (qCol F s i) (m : Int) k).toNat (fun t => F 10 (8 * (nmOf F on i).toNat + t)) k)) := by rw [egh1]; exact gset_eq
            refine g_ald hC dX3_greatestFrom_79 rfl ?_
            refine g_get hC dX3_greatestFrom_81 gf_RX3_87 h4 rfl ?_
            refine g_ald_n hC dX3_greatestFrom_84 rfl ?_
            refine g_iload_n hC dX3_greatestFrom_85 rfl ?_
            refine g_iload_n hC dX3_greatestFrom_86 rfl ?_
            refine g_iconst hC dX3_greatestFrom_87 rfl ?_
            refine g_iadd hC dX3_greatestFrom_88 ?_
            refine g_top (b := 3) rfl ?_
            refine g_ald_n hC dX3_greatestFrom_89 rfl ?_
            refine g_callS (rest := [vi (F 6 i)]) hC (kX3_gr3 (s := s) (on := on) (F := F) (N := N) (t := t) (wa := wa) (bb := bb) (pv := pv) (sd := sd) (ah := ah) (L := L) hl h4L hP2 gh1 h2 h3 h7 (by rw [egh1]; exact hG.set hs)) gc_RX3_116 rfl ⟨by decide, by decide⟩ ⟨by decide, by decide⟩ (Nat.le_of_ble_eq_true rfl) rfl dX3_greatestFrom_90 (fun r gh' hp => ?_)
            obtain ⟨rfl, hgh⟩ := hp
            rw [hgh]
            clear hgh
            refine gV.eqs (st' := [vi (gfV F s on L2 (putN P (40 * rowAtN (qRow F s i) (m : Int) + colAtN (qCol F s i) (m : Int) k).toNat (fun t => F 10 (8 * (nmOf F on i).toNat + t)) k)), vi (F 6 i)]) rfl (by rw [eL2]; rfl) rfl ?_
            refine g_iadd hC dX3_greatestFrom_93 ?_
            refine g_istore (lv' := [some (.ref na), some (vi (((L.length : Nat) : Int))), some (vi (2)), some (.ref g), some (.ref (t i)), some (vi (mo)), some (vi (gfS F s on (gfV F s on L2) P i mo m)), some (vi ((m : Int))), some (vi ((F 6 i) + (gfV F s on L2 (putN P (40 * rowAtN (qRow F s i) (m : Int) + colAtN (qCol F s i) (m : Int) k).toNat (fun t => F 10 (8 * (nmOf F on i).toNat + t)) k))))]) hC dX3_greatestFrom_94 (by decide) rfl ?_
            refine g_iload hC dX3_greatestFrom_96 rfl ?_
            refine g_iload hC dX3_greatestFrom_98 rfl ?_
            refine g_max hC gmx_RX3 gmx_s gmx_i gmx_c (by decide) (Nat.le_of_ble_eq_true rfl) (by decide) (by decide) (by omega) (by omega) dX3_greatestFrom_100 ?_
            refine g_istore (lv' := [some (.ref na), some (vi (((L.length : Nat) : Int))), some (vi (2)), some (.ref g), some (.ref (t i)), some (vi (mo)), some (vi (max (gfS F s on (gfV F s on L2) P i mo m) (F 6 i + gfV F s on L2 (putN P (40 * rowAtN (qRow F s i) (m : Int) + colAtN (qCol F s i) (m : Int) k).toNat (fun t => F 10 (8 * (nmOf F on i).toNat + t)) k)))), some (vi ((m : Int))), some (vi ((F 6 i) + (gfV F s on L2 (putN P (40 * rowAtN (qRow F s i) (m : Int) + colAtN (qCol F s i) (m : Int) k).toNat (fun t => F 10 (8 * (nmOf F on i).toNat + t)) k))))]) hC dX3_greatestFrom_103 (by decide) rfl ?_
            refine g_ald hC dX3_greatestFrom_105 rfl ?_
            refine g_ald_n hC dX3_greatestFrom_107 rfl ?_
            refine g_iload hC dX3_greatestFrom_108 rfl ?_
            refine g_callV (rest := []) hC (kX5_erase hl k (m : Int) (by omega) hk8 (by omega) (by omega) (mayB_fit hB) gh1 h4 h3 h7 h5 h6) gc_RX3_138 rfl h4 rfl ⟨by decide, by decide⟩ ⟨by decide, by decide⟩ (Nat.le_of_ble_eq_true rfl) rfl dX3_greatestFrom_110 (fun r gh' hp => ?_)
            obtain ⟨rfl, hgh⟩ := hp
            rw [hgh]
            clear hgh
            refine gV.eqs (st' := []) rfl rfl rfl ?_
            refine g_iinc (lv' := [some (.ref na), some (vi (((L.length : Nat) : Int))), some (vi (2)), some (.ref g), some (.ref (t i)), some (vi (mo)), some (vi (max (gfS F s on (gfV F s on L2) P i mo m) (F 6 i + gfV F s on L2 (putN P (40 * rowAtN (qRow F s i) (m : Int) + colAtN (qCol F s i) (m : Int) k).toNat (fun t => F 10 (8 * (nmOf F on i).toNat + t)) k)))), some (vi ((m : Int) + 1)), some (vi ((F 6 i) + (gfV F s on L2 (putN P (40 * rowAtN (qRow F s i) (m : Int) + colAtN (qCol F s i) (m : Int) k).toNat (fun t => F 10 (8 * (nmOf F on i).toNat + t)) k))))]) hC dX3_greatestFrom_113 (by decide) rfl rfl ?_
            refine g_goto (tgt := 47) hC dX3_greatestFrom_116 (by decide) ?_
            refine gV.drop (lv' := [some (.ref na), some (vi (((L.length : Nat) : Int))), some (vi (2)), some (.ref g), some (.ref (t i)), some (vi (mo)), some (vi (max (gfS F s on (gfV F s on L2) P i mo m) (F 6 i + gfV F s on L2 (putN P (40 * rowAtN (qRow F s i) (m : Int) + colAtN (qCol F s i) (m : Int) k).toNat (fun t => F 10 (8 * (nmOf F on i).toNat + t)) k)))), some (vi ((m : Int) + 1)), none]) (by intro k v hk; match k, hk with | 0, hk => exact hk | 1, hk => exact hk | 2, hk => exact hk | 3, hk => exact hk | 4, hk => exact hk | 5, hk => exact hk | 6, hk => exact hk | 7, hk => exact hk | 8, hk => exact absurd hk (by simp) | k + 9, hk => exact absurd hk (by simp)) ?_
            refine gV.eqs (lv' := [some (.ref na), some (vi (((L.length : Nat) : Int))), some (vi (2)), some (.ref g), some (.ref (t i)), some (vi (mo)), some (vi (gfS F s on (gfV F s on L2) P i mo (m + 1))), some (vi ((((m + 1) : Nat) : Int))), none]) (lcons rfl (lcons rfl (lcons rfl (lcons rfl (lcons rfl (lcons rfl (lcons (svi (by rw [gfS_s, if_pos hm, if_pos (by rw [emb]; exact hB), ewr])) (lcons (svi (by omega)) (lcons rfl rfl))))))))) rfl (by rw [egh1, gset_set, erase_back hB, gset_self hs]) ih
      · refine g_iload hC dX3_greatestFrom_47 rfl ?_
        refine g_iconst hC dX3_greatestFrom_49 rfl ?_
        refine g_icmp_ge (tgt := 119) hC dX3_greatestFrom_50 (by decide) (by omega) (by omega) (fun c_50 => ?_) (fun c_50 => False.elim (by omega))
        refine gV.drop (lv' := [some (.ref na), some (vi (((L.length : Nat) : Int))), some (vi (2)), some (.ref g), some (.ref (t i)), some (vi (mo)), some (vi (gfS F s on (gfV F s on L2) P i mo 4)), none, none]) (by intro k v hk; match k, hk with | 0, hk => exact hk | 1, hk => exact hk | 2, hk => exact hk | 3, hk => exact hk | 4, hk => exact hk | 5, hk => exact hk | 6, hk => exact hk | 7, hk => exact absurd hk (by simp) | 8, hk => exact absurd hk (by simp) | k + 9, hk => exact absurd hk (by simp)) ?_
        refine gV.eqs (lv' := [some (.ref na), some (vi (((L.length : Nat) : Int))), some (vi (2)), some (.ref g), some (.ref (t i)), some (vi (mo)), some (vi (gfS F s on (gfV F s on L2) P i mo 4)), none, none]) (lcons rfl (lcons rfl (lcons rfl (lcons rfl (lcons rfl (lcons rfl (lcons rfl (lcons rfl (lcons rfl rfl))))))))) rfl rfl aft
    refine gV.eqs (lv' := [some (.ref na), some (vi (((L.length : Nat) : Int))), some (vi (2)), some (.ref g), some (.ref (t i)), some (vi (mo)), some (vi (gfS F s on (gfV F s on L2) P i mo 0)), some (vi (((0 : Nat) : Int))), none]) (lcons rfl (lcons rfl (lcons rfl (lcons rfl (lcons rfl (lcons rfl (lcons (svi (rfl)) (lcons (svi (rfl)) (lcons rfl rfl))))))))) rfl rfl (lp 0 (Nat.zero_le _))

set_option maxHeartbeats 4000000 in
set_option maxRecDepth 100000 in
theorem kX3_gr1 {l : Launch} (hl : l.stackTraces = false) {D : gD} {base : Nat}  {na g ss s : Nat} {on : Int} {N : Nat → Option Nat} {t wa bb : Nat → Nat} {F : Nat → Nat → Int} {pv : Nat → Value} {sd ah : Nat → Int} {P : Nat → Int} {L : List Nat} (h4L : L.length ≤ 4) (hP : Pok P) (gh : gH) (hna : gh na = some (gR 8 14 (N))) (hg : gh g = some (gO 5 [.ref ss])) (hs : gh ss = some (gI 0 960 (P))) (hG : grH F s on N t wa bb pv sd ah L gh) : gM l D base yX3_greatestFrom cX3_greatestFrom 9 (some Jvm.ClassFile.FieldType.int) 8 187 0 0 [.ref na, vi (((L.length : Nat) : Int)), vi (1), .ref g] gh (fun r gh' => r = some (vi (gfV F s on (L.drop 1) P)) ∧ gh' = gh) gNo := by
  refine gM.of hl (by decide) (by simp [Value.category]) (Nat.le_of_ble_eq_true rfl) [some (.ref na), some (vi (((L.length : Nat) : Int))), some (vi (1)), some (.ref g), none, none, none, none, none] rfl (fun x hC hq => ?_)
  refine g_iload_n hC dX3_greatestFrom_0 rfl ?_
  refine g_if_lt (tgt := 26) hC dX3_greatestFrom_1 (by decide) (by omega) (fun c_1 => False.elim (by omega)) (fun c_1 => ?_)
  refine g_iload_n hC dX3_greatestFrom_4 rfl ?_
  refine g_iload_n hC dX3_greatestFrom_5 rfl ?_
  refine g_icmp_ge (tgt := 26) hC dX3_greatestFrom_6 (by decide) (by omega) (by omega) (fun hc => ?_) (fun hc => ?_)
  · refine g_iconst hC dX3_greatestFrom_26 rfl ?_
    refine g_top (b := gfV F s on (L.drop 1) P) (by rw [List.drop_eq_nil_of_le (by omega)]; rfl) ?_
    exact g_iret hC hq dX3_greatestFrom_27 (by decide) (by decide) ⟨rfl, rfl⟩
  · have hlt : 1 < L.length := by omega
    have hG0 := hG 1 hlt
    have hr6 := getD_all (p := fun i => 1 ≤ F 6 i ∧ F 6 i ≤ 5) (fun q hq => (hG q hq).2.2.2.2.2.2.2)
    have hdr := dropT hlt
    obtain ⟨i, ei⟩ : ∃ i, i = L.getD 1 0 := ⟨_, rfl⟩
    rw [← ei] at hG0 hdr
    obtain ⟨hN, ht0, hwd, hb0, hon, h9, hlet, h6⟩ := hG0
    obtain ⟨k, hk⟩ : ∃ k : Nat, F 9 (nmOf F on i).toNat = (k : Int) := ⟨(F 9 (nmOf F on i).toNat).toNat, by omega⟩
    rw [hk] at h9 hb0 hlet
    rw [Int.toNat_natCast] at hb0
    rw [show cN F s i = qCol F s i from if_pos hon, show rN F s i = qRow F s i from if_pos hon] at ht0
    have hc0 := qCol_rng hon
    have hr0 := qRow_rng hon
    have hk8 : 1 ≤ k ∧ k ≤ 8 := by omega
    obtain ⟨L2, eL2⟩ : ∃ L2, L2 = L.drop (1 + 1) := ⟨_, rfl⟩
    rw [← eL2] at hdr
    have hr62 : ∀ j ∈ L2, 1 ≤ F 6 j ∧ F 6 j ≤ 5 := fun j hj => hr6 j (List.mem_of_mem_drop (by rw [← eL2]; exact hj))
    have hl2 : L2.length ≤ 4 := by rw [eL2, List.length_drop]; omega
    have hgr0 := gfV_rng (s := s) (on := on) L2 hr62
    have hgr : ∀ Q, 0 ≤ gfV F s on L2 Q ∧ gfV F s on L2 Q ≤ 20 := fun Q => by have := hgr0 Q; omega
    clear hgr0
    have hmr := sumL_rng (F := F) (i :: L2) (by rw [← hdr]; exact fun j hj => hr6 j (List.mem_of_mem_drop hj))
    rw [List.length_cons] at hmr
    obtain ⟨mo, emo⟩ : ∃ mo : Int, mo = sumL F (i :: L2) := ⟨_, rfl⟩
    rw [← emo] at hmr
    refine g_iload_n hC dX3_greatestFrom_9 rfl ?_
    refine g_ald_n hC dX3_greatestFrom_10 rfl ?_
    refine g_alenR hC dX3_greatestFrom_11 hna (by decide) ?_
    refine g_top (b := 14) rfl ?_
    refine g_icmp_ge (tgt := 26) hC dX3_greatestFrom_12 (by decide) (by omega) (by omega) (fun c_12 => False.elim (by omega)) (fun c_12 => ?_)
    refine g_iload_n hC dX3_greatestFrom_15 rfl ?_
    refine g_iconst hC dX3_greatestFrom_16 rfl ?_
    refine g_icmp_ge (tgt := 26) hC dX3_greatestFrom_17 (by decide) (by omega) (by omega) (fun c_17 => False.elim (by omega)) (fun c_17 => ?_)
    refine g_ald_n hC dX3_greatestFrom_20 rfl ?_
    refine g_iload_n hC dX3_greatestFrom_21 rfl ?_
    refine g_aaldK (v := some (t i)) hC (1) dX3_greatestFrom_22 hna (by decide) rfl (by omega) (by omega) (by decide) (hN) ?_
    refine g_ifnonnull_r (tgt := 28) hC dX3_greatestFrom_23 (by decide) ?_
    refine g_ald_n hC dX3_greatestFrom_28 rfl ?_
    refine g_iload_n hC dX3_greatestFrom_29 rfl ?_
    refine g_aaldK (v := some (t i)) hC (1) dX3_greatestFrom_30 hna (by decide) rfl (by omega) (by omega) (by decide) (hN) ?_
    refine g_ast (lv' := [some (.ref na), some (vi (((L.length : Nat) : Int))), some (vi (1)), some (.ref g), some (.ref (t i)), none, none, none, none]) hC dX3_greatestFrom_31 (by decide) rfl ?_
    refine g_ald_n hC dX3_greatestFrom_33 rfl ?_
    refine g_iload_n hC dX3_greatestFrom_34 rfl ?_
    refine g_iload_n hC dX3_greatestFrom_35 rfl ?_
    refine g_callS (rest := []) hC (kX3_ranksFrom (s := s) (F := F) (N := N) (lo := fun q => L.getD q 0) (t := t) (pv := pv) (wv := fun i => .ref (wa i)) (sd := sd) (ah := ah) (c := L.length) hl 1 (by omega) (by omega) gh hna (fun q hq => ⟨(hG q hq).1, (hG q hq).2.1⟩)) gc_RX3_120 rfl ⟨by decide, by decide⟩ ⟨by decide, by decide⟩ (Nat.le_of_ble_eq_true rfl) rfl dX3_greatestFrom_36 (fun r gh' hp => ?_)
    obtain ⟨rfl, hgh⟩ := hp
    rw [hgh]
    clear hgh
    refine gV.eqs (st' := [vi mo]) rfl (by rw [rsN_sum (by omega), hdr, ← emo]; rfl) rfl ?_
    refine g_istore (lv' := [some (.ref na), some (vi (((L.length : Nat) : Int))), some (vi (1)), some (.ref g), some (.ref (t i)), some (vi (mo)), none, none, none]) hC dX3_greatestFrom_39 (by decide) rfl ?_
    refine g_iconst hC dX3_greatestFrom_41 rfl ?_
    refine g_istore (lv' := [some (.ref na), some (vi (((L.length : Nat) : Int))), some (vi (1)), some (.ref g), some (.ref (t i)), some (vi (mo)), some (vi (0)), none, none]) hC dX3_greatestFrom_42 (by decide) rfl ?_
    refine g_iconst hC dX3_greatestFrom_44 rfl ?_
    refine g_istore (lv' := [some (.ref na), some (vi (((L.length : Nat) : Int))), some (vi (1)), some (.ref g), some (.ref (t i)), some (vi (mo)), some (vi (0)), some (vi (0)), none]) hC dX3_greatestFrom_45 (by decide) rfl ?_
    have hsr := gfS_rng (s := s) (on := on) (P := P) (mo := mo) hgr h6
    have aft : gV x D base 9 119 [some (.ref na), some (vi (((L.length : Nat) : Int))), some (vi (1)), some (.ref g), some (.ref (t i)), some (vi (mo)), some (vi (gfS F s on (gfV F s on L2) P i mo 4)), none, none] [] gh 0 0 := by
      have h4 := hsr 4
      refine g_iload hC dX3_greatestFrom_119 rfl ?_
      refine g_iload hC dX3_greatestFrom_121 rfl ?_
      refine g_icmp_ge (tgt := 142) hC dX3_greatestFrom_123 (by decide) (by omega) (by omega) (fun hm => ?_) (fun hm => ?_)
      · refine g_iload hC dX3_greatestFrom_142 rfl ?_
        refine g_top (b := gfV F s on (L.drop 1) P) (by rw [hdr, gfV_c, ← emo, if_neg (by omega)]) ?_
        exact g_iret hC hq dX3_greatestFrom_144 (by decide) (by decide) ⟨rfl, rfl⟩
      · have hq0 := hgr P
        refine g_iload hC dX3_greatestFrom_126 rfl ?_
        refine g_ald_n hC dX3_greatestFrom_128 rfl ?_
        refine g_iload_n hC dX3_greatestFrom_129 rfl ?_
        refine g_iload_n hC dX3_greatestFrom_130 rfl ?_
        refine g_iconst hC dX3_greatestFrom_131 rfl ?_
        refine g_iadd hC dX3_greatestFrom_132 ?_
        refine g_top (b := 2) rfl ?_
        refine g_ald_n hC dX3_greatestFrom_133 rfl ?_
        refine g_callS (rest := [vi (gfS F s on (gfV F s on L2) P i mo 4)]) hC (kX3_gr2 (s := s) (on := on) (F := F) (N := N) (t := t) (wa := wa) (bb := bb) (pv := pv) (sd := sd) (ah := ah) (L := L) hl h4L hP gh hna hg hs hG) gc_RX3_116 rfl ⟨by decide, by decide⟩ ⟨by decide, by decide⟩ (Nat.le_of_ble_eq_true rfl) rfl dX3_greatestFrom_134 (fun r gh' hp => ?_)
        obtain ⟨rfl, hgh⟩ := hp
        rw [hgh]
        clear hgh
        refine gV.eqs (st' := [vi (gfV F s on L2 (P)), vi (gfS F s on (gfV F s on L2) P i mo 4)]) rfl (by rw [eL2]; rfl) rfl ?_
        refine g_max hC gmx_RX3 gmx_s gmx_i gmx_c (by decide) (Nat.le_of_ble_eq_true rfl) (by decide) (by decide) (by omega) (by omega) dX3_greatestFrom_137 ?_
        refine g_istore (lv' := [some (.ref na), some (vi (((L.length : Nat) : Int))), some (vi (1)), some (.ref g), some (.ref (t i)), some (vi (mo)), some (vi (max (gfS F s on (gfV F s on L2) P i mo 4) (gfV F s on L2 P))), none, none]) hC dX3_greatestFrom_140 (by decide) rfl ?_
        refine g_iload hC dX3_greatestFrom_142 rfl ?_
        refine g_top (b := gfV F s on (L.drop 1) P) (by rw [hdr, gfV_c, ← emo, if_pos (by omega)]) ?_
        exact g_iret hC hq dX3_greatestFrom_144 (by decide) (by decide) ⟨rfl, rfl⟩
    have lp : ∀ m : Nat, m ≤ 4 → gV x D base 9 47 [some (.ref na), some (vi (((L.length : Nat) : Int))), some (vi (1)), some (.ref g), some (.ref (t i)), some (vi (mo)), some (vi (gfS F s on (gfV F s on L2) P i mo m)), some (vi ((m : Int))), none] [] (gh) (0) (0) := by
      refine g_for _ (fun m hn ih => ?_) ?_
      · have h4 := hsr m
        refine g_iload hC dX3_greatestFrom_47 rfl ?_
        refine g_iconst hC dX3_greatestFrom_49 rfl ?_
        refine g_icmp_ge (tgt := 119) hC dX3_greatestFrom_50 (by decide) (by omega) (by omega) (fun c_50 => False.elim (by omega)) (fun c_50 => ?_)
        refine g_iload hC dX3_greatestFrom_53 rfl ?_
        refine g_iload hC dX3_greatestFrom_55 rfl ?_
        refine g_icmp_ge (tgt := 119) hC dX3_greatestFrom_57 (by decide) (by omega) (by omega) (fun hm => ?_) (fun hm => ?_)
        · refine gV.drop (lv' := [some (.ref na), some (vi (((L.length : Nat) : Int))), some (vi (1)), some (.ref g), some (.ref (t i)), some (vi (mo)), some (vi (gfS F s on (gfV F s on L2) P i mo m)), none, none]) (by intro k v hk; match k, hk with | 0, hk => exact hk | 1, hk => exact hk | 2, hk => exact hk | 3, hk => exact hk | 4, hk => exact hk | 5, hk => exact hk | 6, hk => exact hk | 7, hk => exact absurd hk (by simp) | 8, hk => exact absurd hk (by simp) | k + 9, hk => exact absurd hk (by simp)) ?_
          refine gV.eqs (lv' := [some (.ref na), some (vi (((L.length : Nat) : Int))), some (vi (1)), some (.ref g), some (.ref (t i)), some (vi (mo)), some (vi (gfS F s on (gfV F s on L2) P i mo 4)), none, none]) (lcons rfl (lcons rfl (lcons rfl (lcons rfl (lcons rfl (lcons rfl (lcons (svi (by have h5 := gfS_stop hm (4 - m); rw [show m + (4 - m) = 4 by omega] at h5; exact h5.symm)) (lcons rfl (lcons rfl rfl))))))))) rfl rfl aft
        · refine g_ald hC dX3_greatestFrom_60 rfl ?_
          refine g_ald_n hC dX3_greatestFrom_62 rfl ?_
          refine g_iload hC dX3_greatestFrom_63 rfl ?_
          refine g_callV (rest := []) hC (kX5_mayStand hl k (m : Int) (by omega) hk8 (by omega) (by omega) hP gh ht0 hg hs hwd hb0) gc_RX3_124 rfl ht0 rfl ⟨by decide, by decide⟩ ⟨by decide, by decide⟩ (Nat.le_of_ble_eq_true rfl) rfl dX3_greatestFrom_65 (fun r gh' hp => ?_)
          obtain ⟨rfl, hgh⟩ := hp
          rw [hgh]
          clear hgh
          refine gV.eqs (st' := [vi (b2i (mayB P (rowAtN (qRow F s i) (m : Int)) (colAtN (qCol F s i) (m : Int) k) k))]) rfl rfl rfl ?_
          have emb : mayI F s on P i (m : Int) = mayB P (rowAtN (qRow F s i) (m : Int)) (colAtN (qCol F s i) (m : Int) k) k := by unfold mayI nmn; rw [hk]
          refine g_ifeq_b (tgt := 113) hC dX3_greatestFrom_68 (by decide)  (fun hB => ?_) (fun hB => ?_)
          · refine g_iinc (lv' := [some (.ref na), some (vi (((L.length : Nat) : Int))), some (vi (1)), some (.ref g), some (.ref (t i)), some (vi (mo)), some (vi (gfS F s on (gfV F s on L2) P i mo m)), some (vi ((m : Int) + 1)), none]) hC dX3_greatestFrom_113 (by decide) rfl rfl ?_
            refine g_goto (tgt := 47) hC dX3_greatestFrom_116 (by decide) ?_
            refine gV.drop (lv' := [some (.ref na), some (vi (((L.length : Nat) : Int))), some (vi (1)), some (.ref g), some (.ref (t i)), some (vi (mo)), some (vi (gfS F s on (gfV F s on L2) P i mo m)), some (vi ((m : Int) + 1)), none]) (by intro k v hk; match k, hk with | 0, hk => exact hk | 1, hk => exact hk | 2, hk => exact hk | 3, hk => exact hk | 4, hk => exact hk | 5, hk => exact hk | 6, hk => exact hk | 7, hk => exact hk | 8, hk => exact absurd hk (by simp) | k + 9, hk => exact absurd hk (by simp)) ?_
            refine gV.eqs (lv' := [some (.ref na), some (vi (((L.length : Nat) : Int))), some (vi (1)), some (.ref g), some (.ref (t i)), some (vi (mo)), some (vi (gfS F s on (gfV F s on L2) P i mo (m + 1))), some (vi ((((m + 1) : Nat) : Int))), none]) (lcons rfl (lcons rfl (lcons rfl (lcons rfl (lcons rfl (lcons rfl (lcons (svi (by rw [gfS_s, if_pos hm, if_neg (by rw [emb, hB]; decide)])) (lcons (svi (by omega)) (lcons rfl rfl))))))))) rfl rfl ih
          · have ewr : wrtI F s on P i (m : Int) = putN P (40 * rowAtN (qRow F s i) (m : Int) + colAtN (qCol F s i) (m : Int) k).toNat (fun t => F 10 (8 * (nmOf F on i).toNat + t)) k := by unfold wrtI wrt; rw [hk, Int.toNat_natCast]
            have hP2 : Pok (putN P (40 * rowAtN (qRow F s i) (m : Int) + colAtN (qCol F s i) (m : Int) k).toNat (fun t => F 10 (8 * (nmOf F on i).toNat + t)) k) := putN_ok hP (fun t ht => by have := hlet t (by omega); omega)
            have hq0 := hgr (putN P (40 * rowAtN (qRow F s i) (m : Int) + colAtN (qCol F s i) (m : Int) k).toNat (fun t => F 10 (8 * (nmOf F on i).toNat + t)) k)
            refine g_ald hC dX3_greatestFrom_71 rfl ?_
            refine g_ald_n hC dX3_greatestFrom_73 rfl ?_
            refine g_iload hC dX3_greatestFrom_74 rfl ?_
            refine g_callV (rest := []) hC (kX5_write hl k (m : Int) (by omega) hk8 (by omega) (by omega) (fun t ht => hlet t (by omega)) (mayB_fit hB) gh ht0 hg hs hwd hb0) gc_RX3_128 rfl ht0 rfl ⟨by decide, by decide⟩ ⟨by decide, by decide⟩ (Nat.le_of_ble_eq_true rfl) rfl dX3_greatestFrom_76 (fun r gh' hp => ?_)
            obtain ⟨rfl, hgh⟩ := hp
            rw [hgh]
            clear hgh
            refine gV.eqs (st' := []) rfl rfl rfl ?_
            obtain ⟨gh1, egh1⟩ : ∃ g_, g_ = gset gh ss (gI 0 960 (putN P (40 * rowAtN (qRow F s i) (m : Int) + colAtN (qCol F s i) (m : Int) k).toNat (fun t => F 10 (8 * (nmOf F on i).toNat + t)) k)) := ⟨_, rfl⟩
            rw [← egh1]
            have h2 : gh1 na = some (gR 8 14 (N)) := by rw [egh1, gset_ne (gne hna hs (by simp))]; exact hna
            have h3 : gh1 g = some (gO 5 [.ref ss]) := by rw [egh1, gset_ne (gne hg hs (by simp))]; exact hg
            have h4 : gh1 (t i) = some (gO 9 [vi (F 6 i), vi (qCol F s i), vi (qRow F s i), (pv i), .ref (wa i), vi (sd i), vi (ah i)]) := by rw [egh1, gset_ne (gne ht0 hs (by simp))]; exact ht0
            have h5 : gh1 (wa i) = some (gO 0 [.ref (bb i), vi (0), vi (0), vi (0)]) := by rw [egh1, gset_ne (gne hwd hs (by simp))]; exact hwd
            have h6 : gh1 (bb i) = some (gI 2 k (fun t => F 10 (8 * (nmOf F on i).toNat + t))) := by rw [egh1, gset_ne (gne hb0 hs (by simp))]; exact hb0
            have h7 : gh1 ss = some (gI 0 960 (putN P (40 * rowAtN (qRow F s i) (m : Int) + colAtN (qCol F s i) (m : Int) k).toNat (fun t => F 10 (8 * (nmOf F on i).toNat + t)) k)) := by rw [egh1]; exact gset_eq
            refine g_ald hC dX3_greatestFrom_79 rfl ?_
            refine g_get hC dX3_greatestFrom_81 gf_RX3_87 h4 rfl ?_
            refine g_ald_n hC dX3_greatestFrom_84 rfl ?_
            refine g_iload_n hC dX3_greatestFrom_85 rfl ?_
            refine g_iload_n hC dX3_greatestFrom_86 rfl ?_
            refine g_iconst hC dX3_greatestFrom_87 rfl ?_
            refine g_iadd hC dX3_greatestFrom_88 ?_
            refine g_top (b := 2) rfl ?_
            refine g_ald_n hC dX3_greatestFrom_89 rfl ?_
            refine g_callS (rest := [vi (F 6 i)]) hC (kX3_gr2 (s := s) (on := on) (F := F) (N := N) (t := t) (wa := wa) (bb := bb) (pv := pv) (sd := sd) (ah := ah) (L := L) hl h4L hP2 gh1 h2 h3 h7 (by rw [egh1]; exact hG.set hs)) gc_RX3_116 rfl ⟨by decide, by decide⟩ ⟨by decide, by decide⟩ (Nat.le_of_ble_eq_true rfl) rfl dX3_greatestFrom_90 (fun r gh' hp => ?_)
            obtain ⟨rfl, hgh⟩ := hp
            rw [hgh]
            clear hgh
            refine gV.eqs (st' := [vi (gfV F s on L2 (putN P (40 * rowAtN (qRow F s i) (m : Int) + colAtN (qCol F s i) (m : Int) k).toNat (fun t => F 10 (8 * (nmOf F on i).toNat + t)) k)), vi (F 6 i)]) rfl (by rw [eL2]; rfl) rfl ?_
            refine g_iadd hC dX3_greatestFrom_93 ?_
            refine g_istore (lv' := [some (.ref na), some (vi (((L.length : Nat) : Int))), some (vi (1)), some (.ref g), some (.ref (t i)), some (vi (mo)), some (vi (gfS F s on (gfV F s on L2) P i mo m)), some (vi ((m : Int))), some (vi ((F 6 i) + (gfV F s on L2 (putN P (40 * rowAtN (qRow F s i) (m : Int) + colAtN (qCol F s i) (m : Int) k).toNat (fun t => F 10 (8 * (nmOf F on i).toNat + t)) k))))]) hC dX3_greatestFrom_94 (by decide) rfl ?_
            refine g_iload hC dX3_greatestFrom_96 rfl ?_
            refine g_iload hC dX3_greatestFrom_98 rfl ?_
            refine g_max hC gmx_RX3 gmx_s gmx_i gmx_c (by decide) (Nat.le_of_ble_eq_true rfl) (by decide) (by decide) (by omega) (by omega) dX3_greatestFrom_100 ?_
            refine g_istore (lv' := [some (.ref na), some (vi (((L.length : Nat) : Int))), some (vi (1)), some (.ref g), some (.ref (t i)), some (vi (mo)), some (vi (max (gfS F s on (gfV F s on L2) P i mo m) (F 6 i + gfV F s on L2 (putN P (40 * rowAtN (qRow F s i) (m : Int) + colAtN (qCol F s i) (m : Int) k).toNat (fun t => F 10 (8 * (nmOf F on i).toNat + t)) k)))), some (vi ((m : Int))), some (vi ((F 6 i) + (gfV F s on L2 (putN P (40 * rowAtN (qRow F s i) (m : Int) + colAtN (qCol F s i) (m : Int) k).toNat (fun t => F 10 (8 * (nmOf F on i).toNat + t)) k))))]) hC dX3_greatestFrom_103 (by decide) rfl ?_
            refine g_ald hC dX3_greatestFrom_105 rfl ?_
            refine g_ald_n hC dX3_greatestFrom_107 rfl ?_
            refine g_iload hC dX3_greatestFrom_108 rfl ?_
            refine g_callV (rest := []) hC (kX5_erase hl k (m : Int) (by omega) hk8 (by omega) (by omega) (mayB_fit hB) gh1 h4 h3 h7 h5 h6) gc_RX3_138 rfl h4 rfl ⟨by decide, by decide⟩ ⟨by decide, by decide⟩ (Nat.le_of_ble_eq_true rfl) rfl dX3_greatestFrom_110 (fun r gh' hp => ?_)
            obtain ⟨rfl, hgh⟩ := hp
            rw [hgh]
            clear hgh
            refine gV.eqs (st' := []) rfl rfl rfl ?_
            refine g_iinc (lv' := [some (.ref na), some (vi (((L.length : Nat) : Int))), some (vi (1)), some (.ref g), some (.ref (t i)), some (vi (mo)), some (vi (max (gfS F s on (gfV F s on L2) P i mo m) (F 6 i + gfV F s on L2 (putN P (40 * rowAtN (qRow F s i) (m : Int) + colAtN (qCol F s i) (m : Int) k).toNat (fun t => F 10 (8 * (nmOf F on i).toNat + t)) k)))), some (vi ((m : Int) + 1)), some (vi ((F 6 i) + (gfV F s on L2 (putN P (40 * rowAtN (qRow F s i) (m : Int) + colAtN (qCol F s i) (m : Int) k).toNat (fun t => F 10 (8 * (nmOf F on i).toNat + t)) k))))]) hC dX3_greatestFrom_113 (by decide) rfl rfl ?_
            refine g_goto (tgt := 47) hC dX3_greatestFrom_116 (by decide) ?_
            refine gV.drop (lv' := [some (.ref na), some (vi (((L.length : Nat) : Int))), some (vi (1)), some (.ref g), some (.ref (t i)), some (vi (mo)), some (vi (max (gfS F s on (gfV F s on L2) P i mo m) (F 6 i + gfV F s on L2 (putN P (40 * rowAtN (qRow F s i) (m : Int) + colAtN (qCol F s i) (m : Int) k).toNat (fun t => F 10 (8 * (nmOf F on i).toNat + t)) k)))), some (vi ((m : Int) + 1)), none]) (by intro k v hk; match k, hk with | 0, hk => exact hk | 1, hk => exact hk | 2, hk => exact hk | 3, hk => exact hk | 4, hk => exact hk | 5, hk => exact hk | 6, hk => exact hk | 7, hk => exact hk | 8, hk => exact absurd hk (by simp) | k + 9, hk => exact absurd hk (by simp)) ?_
            refine gV.eqs (lv' := [some (.ref na), some (vi (((L.length : Nat) : Int))), some (vi (1)), some (.ref g), some (.ref (t i)), some (vi (mo)), some (vi (gfS F s on (gfV F s on L2) P i mo (m + 1))), some (vi ((((m + 1) : Nat) : Int))), none]) (lcons rfl (lcons rfl (lcons rfl (lcons rfl (lcons rfl (lcons rfl (lcons (svi (by rw [gfS_s, if_pos hm, if_pos (by rw [emb]; exact hB), ewr])) (lcons (svi (by omega)) (lcons rfl rfl))))))))) rfl (by rw [egh1, gset_set, erase_back hB, gset_self hs]) ih
      · refine g_iload hC dX3_greatestFrom_47 rfl ?_
        refine g_iconst hC dX3_greatestFrom_49 rfl ?_
        refine g_icmp_ge (tgt := 119) hC dX3_greatestFrom_50 (by decide) (by omega) (by omega) (fun c_50 => ?_) (fun c_50 => False.elim (by omega))
        refine gV.drop (lv' := [some (.ref na), some (vi (((L.length : Nat) : Int))), some (vi (1)), some (.ref g), some (.ref (t i)), some (vi (mo)), some (vi (gfS F s on (gfV F s on L2) P i mo 4)), none, none]) (by intro k v hk; match k, hk with | 0, hk => exact hk | 1, hk => exact hk | 2, hk => exact hk | 3, hk => exact hk | 4, hk => exact hk | 5, hk => exact hk | 6, hk => exact hk | 7, hk => exact absurd hk (by simp) | 8, hk => exact absurd hk (by simp) | k + 9, hk => exact absurd hk (by simp)) ?_
        refine gV.eqs (lv' := [some (.ref na), some (vi (((L.length : Nat) : Int))), some (vi (1)), some (.ref g), some (.ref (t i)), some (vi (mo)), some (vi (gfS F s on (gfV F s on L2) P i mo 4)), none, none]) (lcons rfl (lcons rfl (lcons rfl (lcons rfl (lcons rfl (lcons rfl (lcons rfl (lcons rfl (lcons rfl rfl))))))))) rfl rfl aft
    refine gV.eqs (lv' := [some (.ref na), some (vi (((L.length : Nat) : Int))), some (vi (1)), some (.ref g), some (.ref (t i)), some (vi (mo)), some (vi (gfS F s on (gfV F s on L2) P i mo 0)), some (vi (((0 : Nat) : Int))), none]) (lcons rfl (lcons rfl (lcons rfl (lcons rfl (lcons rfl (lcons rfl (lcons (svi (rfl)) (lcons (svi (rfl)) (lcons rfl rfl))))))))) rfl rfl (lp 0 (Nat.zero_le _))

set_option maxHeartbeats 4000000 in
set_option maxRecDepth 100000 in
theorem kX3_gr0 {l : Launch} (hl : l.stackTraces = false) {D : gD} {base : Nat}  {na g ss s : Nat} {on : Int} {N : Nat → Option Nat} {t wa bb : Nat → Nat} {F : Nat → Nat → Int} {pv : Nat → Value} {sd ah : Nat → Int} {P : Nat → Int} {L : List Nat} (h4L : L.length ≤ 4) (hP : Pok P) (gh : gH) (hna : gh na = some (gR 8 14 (N))) (hg : gh g = some (gO 5 [.ref ss])) (hs : gh ss = some (gI 0 960 (P))) (hG : grH F s on N t wa bb pv sd ah L gh) : gM l D base yX3_greatestFrom cX3_greatestFrom 9 (some Jvm.ClassFile.FieldType.int) 9 215 0 0 [.ref na, vi (((L.length : Nat) : Int)), vi (0), .ref g] gh (fun r gh' => r = some (vi (gfV F s on (L.drop 0) P)) ∧ gh' = gh) gNo := by
  refine gM.of hl (by decide) (by simp [Value.category]) (Nat.le_of_ble_eq_true rfl) [some (.ref na), some (vi (((L.length : Nat) : Int))), some (vi (0)), some (.ref g), none, none, none, none, none] rfl (fun x hC hq => ?_)
  refine g_iload_n hC dX3_greatestFrom_0 rfl ?_
  refine g_if_lt (tgt := 26) hC dX3_greatestFrom_1 (by decide) (by omega) (fun c_1 => False.elim (by omega)) (fun c_1 => ?_)
  refine g_iload_n hC dX3_greatestFrom_4 rfl ?_
  refine g_iload_n hC dX3_greatestFrom_5 rfl ?_
  refine g_icmp_ge (tgt := 26) hC dX3_greatestFrom_6 (by decide) (by omega) (by omega) (fun hc => ?_) (fun hc => ?_)
  · refine g_iconst hC dX3_greatestFrom_26 rfl ?_
    refine g_top (b := gfV F s on (L.drop 0) P) (by rw [List.drop_eq_nil_of_le (by omega)]; rfl) ?_
    exact g_iret hC hq dX3_greatestFrom_27 (by decide) (by decide) ⟨rfl, rfl⟩
  · have hlt : 0 < L.length := by omega
    have hG0 := hG 0 hlt
    have hr6 := getD_all (p := fun i => 1 ≤ F 6 i ∧ F 6 i ≤ 5) (fun q hq => (hG q hq).2.2.2.2.2.2.2)
    have hdr := dropT hlt
    obtain ⟨i, ei⟩ : ∃ i, i = L.getD 0 0 := ⟨_, rfl⟩
    rw [← ei] at hG0 hdr
    obtain ⟨hN, ht0, hwd, hb0, hon, h9, hlet, h6⟩ := hG0
    obtain ⟨k, hk⟩ : ∃ k : Nat, F 9 (nmOf F on i).toNat = (k : Int) := ⟨(F 9 (nmOf F on i).toNat).toNat, by omega⟩
    rw [hk] at h9 hb0 hlet
    rw [Int.toNat_natCast] at hb0
    rw [show cN F s i = qCol F s i from if_pos hon, show rN F s i = qRow F s i from if_pos hon] at ht0
    have hc0 := qCol_rng hon
    have hr0 := qRow_rng hon
    have hk8 : 1 ≤ k ∧ k ≤ 8 := by omega
    obtain ⟨L2, eL2⟩ : ∃ L2, L2 = L.drop (0 + 1) := ⟨_, rfl⟩
    rw [← eL2] at hdr
    have hr62 : ∀ j ∈ L2, 1 ≤ F 6 j ∧ F 6 j ≤ 5 := fun j hj => hr6 j (List.mem_of_mem_drop (by rw [← eL2]; exact hj))
    have hl2 : L2.length ≤ 4 := by rw [eL2, List.length_drop]; omega
    have hgr0 := gfV_rng (s := s) (on := on) L2 hr62
    have hgr : ∀ Q, 0 ≤ gfV F s on L2 Q ∧ gfV F s on L2 Q ≤ 20 := fun Q => by have := hgr0 Q; omega
    clear hgr0
    have hmr := sumL_rng (F := F) (i :: L2) (by rw [← hdr]; exact fun j hj => hr6 j (List.mem_of_mem_drop hj))
    rw [List.length_cons] at hmr
    obtain ⟨mo, emo⟩ : ∃ mo : Int, mo = sumL F (i :: L2) := ⟨_, rfl⟩
    rw [← emo] at hmr
    refine g_iload_n hC dX3_greatestFrom_9 rfl ?_
    refine g_ald_n hC dX3_greatestFrom_10 rfl ?_
    refine g_alenR hC dX3_greatestFrom_11 hna (by decide) ?_
    refine g_top (b := 14) rfl ?_
    refine g_icmp_ge (tgt := 26) hC dX3_greatestFrom_12 (by decide) (by omega) (by omega) (fun c_12 => False.elim (by omega)) (fun c_12 => ?_)
    refine g_iload_n hC dX3_greatestFrom_15 rfl ?_
    refine g_iconst hC dX3_greatestFrom_16 rfl ?_
    refine g_icmp_ge (tgt := 26) hC dX3_greatestFrom_17 (by decide) (by omega) (by omega) (fun c_17 => False.elim (by omega)) (fun c_17 => ?_)
    refine g_ald_n hC dX3_greatestFrom_20 rfl ?_
    refine g_iload_n hC dX3_greatestFrom_21 rfl ?_
    refine g_aaldK (v := some (t i)) hC (0) dX3_greatestFrom_22 hna (by decide) rfl (by omega) (by omega) (by decide) (hN) ?_
    refine g_ifnonnull_r (tgt := 28) hC dX3_greatestFrom_23 (by decide) ?_
    refine g_ald_n hC dX3_greatestFrom_28 rfl ?_
    refine g_iload_n hC dX3_greatestFrom_29 rfl ?_
    refine g_aaldK (v := some (t i)) hC (0) dX3_greatestFrom_30 hna (by decide) rfl (by omega) (by omega) (by decide) (hN) ?_
    refine g_ast (lv' := [some (.ref na), some (vi (((L.length : Nat) : Int))), some (vi (0)), some (.ref g), some (.ref (t i)), none, none, none, none]) hC dX3_greatestFrom_31 (by decide) rfl ?_
    refine g_ald_n hC dX3_greatestFrom_33 rfl ?_
    refine g_iload_n hC dX3_greatestFrom_34 rfl ?_
    refine g_iload_n hC dX3_greatestFrom_35 rfl ?_
    refine g_callS (rest := []) hC (kX3_ranksFrom (s := s) (F := F) (N := N) (lo := fun q => L.getD q 0) (t := t) (pv := pv) (wv := fun i => .ref (wa i)) (sd := sd) (ah := ah) (c := L.length) hl 0 (by omega) (by omega) gh hna (fun q hq => ⟨(hG q hq).1, (hG q hq).2.1⟩)) gc_RX3_120 rfl ⟨by decide, by decide⟩ ⟨by decide, by decide⟩ (Nat.le_of_ble_eq_true rfl) rfl dX3_greatestFrom_36 (fun r gh' hp => ?_)
    obtain ⟨rfl, hgh⟩ := hp
    rw [hgh]
    clear hgh
    refine gV.eqs (st' := [vi mo]) rfl (by rw [rsN_sum (by omega), hdr, ← emo]; rfl) rfl ?_
    refine g_istore (lv' := [some (.ref na), some (vi (((L.length : Nat) : Int))), some (vi (0)), some (.ref g), some (.ref (t i)), some (vi (mo)), none, none, none]) hC dX3_greatestFrom_39 (by decide) rfl ?_
    refine g_iconst hC dX3_greatestFrom_41 rfl ?_
    refine g_istore (lv' := [some (.ref na), some (vi (((L.length : Nat) : Int))), some (vi (0)), some (.ref g), some (.ref (t i)), some (vi (mo)), some (vi (0)), none, none]) hC dX3_greatestFrom_42 (by decide) rfl ?_
    refine g_iconst hC dX3_greatestFrom_44 rfl ?_
    refine g_istore (lv' := [some (.ref na), some (vi (((L.length : Nat) : Int))), some (vi (0)), some (.ref g), some (.ref (t i)), some (vi (mo)), some (vi (0)), some (vi (0)), none]) hC dX3_greatestFrom_45 (by decide) rfl ?_
    have hsr := gfS_rng (s := s) (on := on) (P := P) (mo := mo) hgr h6
    have aft : gV x D base 9 119 [some (.ref na), some (vi (((L.length : Nat) : Int))), some (vi (0)), some (.ref g), some (.ref (t i)), some (vi (mo)), some (vi (gfS F s on (gfV F s on L2) P i mo 4)), none, none] [] gh 0 0 := by
      have h4 := hsr 4
      refine g_iload hC dX3_greatestFrom_119 rfl ?_
      refine g_iload hC dX3_greatestFrom_121 rfl ?_
      refine g_icmp_ge (tgt := 142) hC dX3_greatestFrom_123 (by decide) (by omega) (by omega) (fun hm => ?_) (fun hm => ?_)
      · refine g_iload hC dX3_greatestFrom_142 rfl ?_
        refine g_top (b := gfV F s on (L.drop 0) P) (by rw [hdr, gfV_c, ← emo, if_neg (by omega)]) ?_
        exact g_iret hC hq dX3_greatestFrom_144 (by decide) (by decide) ⟨rfl, rfl⟩
      · have hq0 := hgr P
        refine g_iload hC dX3_greatestFrom_126 rfl ?_
        refine g_ald_n hC dX3_greatestFrom_128 rfl ?_
        refine g_iload_n hC dX3_greatestFrom_129 rfl ?_
        refine g_iload_n hC dX3_greatestFrom_130 rfl ?_
        refine g_iconst hC dX3_greatestFrom_131 rfl ?_
        refine g_iadd hC dX3_greatestFrom_132 ?_
        refine g_top (b := 1) rfl ?_
        refine g_ald_n hC dX3_greatestFrom_133 rfl ?_
        refine g_callS (rest := [vi (gfS F s on (gfV F s on L2) P i mo 4)]) hC (kX3_gr1 (s := s) (on := on) (F := F) (N := N) (t := t) (wa := wa) (bb := bb) (pv := pv) (sd := sd) (ah := ah) (L := L) hl h4L hP gh hna hg hs hG) gc_RX3_116 rfl ⟨by decide, by decide⟩ ⟨by decide, by decide⟩ (Nat.le_of_ble_eq_true rfl) rfl dX3_greatestFrom_134 (fun r gh' hp => ?_)
        obtain ⟨rfl, hgh⟩ := hp
        rw [hgh]
        clear hgh
        refine gV.eqs (st' := [vi (gfV F s on L2 (P)), vi (gfS F s on (gfV F s on L2) P i mo 4)]) rfl (by rw [eL2]; rfl) rfl ?_
        refine g_max hC gmx_RX3 gmx_s gmx_i gmx_c (by decide) (Nat.le_of_ble_eq_true rfl) (by decide) (by decide) (by omega) (by omega) dX3_greatestFrom_137 ?_
        refine g_istore (lv' := [some (.ref na), some (vi (((L.length : Nat) : Int))), some (vi (0)), some (.ref g), some (.ref (t i)), some (vi (mo)), some (vi (max (gfS F s on (gfV F s on L2) P i mo 4) (gfV F s on L2 P))), none, none]) hC dX3_greatestFrom_140 (by decide) rfl ?_
        refine g_iload hC dX3_greatestFrom_142 rfl ?_
        refine g_top (b := gfV F s on (L.drop 0) P) (by rw [hdr, gfV_c, ← emo, if_pos (by omega)]) ?_
        exact g_iret hC hq dX3_greatestFrom_144 (by decide) (by decide) ⟨rfl, rfl⟩
    have lp : ∀ m : Nat, m ≤ 4 → gV x D base 9 47 [some (.ref na), some (vi (((L.length : Nat) : Int))), some (vi (0)), some (.ref g), some (.ref (t i)), some (vi (mo)), some (vi (gfS F s on (gfV F s on L2) P i mo m)), some (vi ((m : Int))), none] [] (gh) (0) (0) := by
      refine g_for _ (fun m hn ih => ?_) ?_
      · have h4 := hsr m
        refine g_iload hC dX3_greatestFrom_47 rfl ?_
        refine g_iconst hC dX3_greatestFrom_49 rfl ?_
        refine g_icmp_ge (tgt := 119) hC dX3_greatestFrom_50 (by decide) (by omega) (by omega) (fun c_50 => False.elim (by omega)) (fun c_50 => ?_)
        refine g_iload hC dX3_greatestFrom_53 rfl ?_
        refine g_iload hC dX3_greatestFrom_55 rfl ?_
        refine g_icmp_ge (tgt := 119) hC dX3_greatestFrom_57 (by decide) (by omega) (by omega) (fun hm => ?_) (fun hm => ?_)
        · refine gV.drop (lv' := [some (.ref na), some (vi (((L.length : Nat) : Int))), some (vi (0)), some (.ref g), some (.ref (t i)), some (vi (mo)), some (vi (gfS F s on (gfV F s on L2) P i mo m)), none, none]) (by intro k v hk; match k, hk with | 0, hk => exact hk | 1, hk => exact hk | 2, hk => exact hk | 3, hk => exact hk | 4, hk => exact hk | 5, hk => exact hk | 6, hk => exact hk | 7, hk => exact absurd hk (by simp) | 8, hk => exact absurd hk (by simp) | k + 9, hk => exact absurd hk (by simp)) ?_
          refine gV.eqs (lv' := [some (.ref na), some (vi (((L.length : Nat) : Int))), some (vi (0)), some (.ref g), some (.ref (t i)), some (vi (mo)), some (vi (gfS F s on (gfV F s on L2) P i mo 4)), none, none]) (lcons rfl (lcons rfl (lcons rfl (lcons rfl (lcons rfl (lcons rfl (lcons (svi (by have h5 := gfS_stop hm (4 - m); rw [show m + (4 - m) = 4 by omega] at h5; exact h5.symm)) (lcons rfl (lcons rfl rfl))))))))) rfl rfl aft
        · refine g_ald hC dX3_greatestFrom_60 rfl ?_
          refine g_ald_n hC dX3_greatestFrom_62 rfl ?_
          refine g_iload hC dX3_greatestFrom_63 rfl ?_
          refine g_callV (rest := []) hC (kX5_mayStand hl k (m : Int) (by omega) hk8 (by omega) (by omega) hP gh ht0 hg hs hwd hb0) gc_RX3_124 rfl ht0 rfl ⟨by decide, by decide⟩ ⟨by decide, by decide⟩ (Nat.le_of_ble_eq_true rfl) rfl dX3_greatestFrom_65 (fun r gh' hp => ?_)
          obtain ⟨rfl, hgh⟩ := hp
          rw [hgh]
          clear hgh
          refine gV.eqs (st' := [vi (b2i (mayB P (rowAtN (qRow F s i) (m : Int)) (colAtN (qCol F s i) (m : Int) k) k))]) rfl rfl rfl ?_
          have emb : mayI F s on P i (m : Int) = mayB P (rowAtN (qRow F s i) (m : Int)) (colAtN (qCol F s i) (m : Int) k) k := by unfold mayI nmn; rw [hk]
          refine g_ifeq_b (tgt := 113) hC dX3_greatestFrom_68 (by decide)  (fun hB => ?_) (fun hB => ?_)
          · refine g_iinc (lv' := [some (.ref na), some (vi (((L.length : Nat) : Int))), some (vi (0)), some (.ref g), some (.ref (t i)), some (vi (mo)), some (vi (gfS F s on (gfV F s on L2) P i mo m)), some (vi ((m : Int) + 1)), none]) hC dX3_greatestFrom_113 (by decide) rfl rfl ?_
            refine g_goto (tgt := 47) hC dX3_greatestFrom_116 (by decide) ?_
            refine gV.drop (lv' := [some (.ref na), some (vi (((L.length : Nat) : Int))), some (vi (0)), some (.ref g), some (.ref (t i)), some (vi (mo)), some (vi (gfS F s on (gfV F s on L2) P i mo m)), some (vi ((m : Int) + 1)), none]) (by intro k v hk; match k, hk with | 0, hk => exact hk | 1, hk => exact hk | 2, hk => exact hk | 3, hk => exact hk | 4, hk => exact hk | 5, hk => exact hk | 6, hk => exact hk | 7, hk => exact hk | 8, hk => exact absurd hk (by simp) | k + 9, hk => exact absurd hk (by simp)) ?_
            refine gV.eqs (lv' := [some (.ref na), some (vi (((L.length : Nat) : Int))), some (vi (0)), some (.ref g), some (.ref (t i)), some (vi (mo)), some (vi (gfS F s on (gfV F s on L2) P i mo (m + 1))), some (vi ((((m + 1) : Nat) : Int))), none]) (lcons rfl (lcons rfl (lcons rfl (lcons rfl (lcons rfl (lcons rfl (lcons (svi (by rw [gfS_s, if_pos hm, if_neg (by rw [emb, hB]; decide)])) (lcons (svi (by omega)) (lcons rfl rfl))))))))) rfl rfl ih
          · have ewr : wrtI F s on P i (m : Int) = putN P (40 * rowAtN (qRow F s i) (m : Int) + colAtN (qCol F s i) (m : Int) k).toNat (fun t => F 10 (8 * (nmOf F on i).toNat + t)) k := by unfold wrtI wrt; rw [hk, Int.toNat_natCast]
            have hP2 : Pok (putN P (40 * rowAtN (qRow F s i) (m : Int) + colAtN (qCol F s i) (m : Int) k).toNat (fun t => F 10 (8 * (nmOf F on i).toNat + t)) k) := putN_ok hP (fun t ht => by have := hlet t (by omega); omega)
            have hq0 := hgr (putN P (40 * rowAtN (qRow F s i) (m : Int) + colAtN (qCol F s i) (m : Int) k).toNat (fun t => F 10 (8 * (nmOf F on i).toNat + t)) k)
            refine g_ald hC dX3_greatestFrom_71 rfl ?_
            refine g_ald_n hC dX3_greatestFrom_73 rfl ?_
            refine g_iload hC dX3_greatestFrom_74 rfl ?_
            refine g_callV (rest := []) hC (kX5_write hl k (m : Int) (by omega) hk8 (by omega) (by omega) (fun t ht => hlet t (by omega)) (mayB_fit hB) gh ht0 hg hs hwd hb0) gc_RX3_128 rfl ht0 rfl ⟨by decide, by decide⟩ ⟨by decide, by decide⟩ (Nat.le_of_ble_eq_true rfl) rfl dX3_greatestFrom_76 (fun r gh' hp => ?_)
            obtain ⟨rfl, hgh⟩ := hp
            rw [hgh]
            clear hgh
            refine gV.eqs (st' := []) rfl rfl rfl ?_
            obtain ⟨gh1, egh1⟩ : ∃ g_, g_ = gset gh ss (gI 0 960 (putN P (40 * rowAtN (qRow F s i) (m : Int) + colAtN (qCol F s i) (m : Int) k).toNat (fun t => F 10 (8 * (nmOf F on i).toNat + t)) k)) := ⟨_, rfl⟩
            rw [← egh1]
            have h2 : gh1 na = some (gR 8 14 (N)) := by rw [egh1, gset_ne (gne hna hs (by simp))]; exact hna
            have h3 : gh1 g = some (gO 5 [.ref ss]) := by rw [egh1, gset_ne (gne hg hs (by simp))]; exact hg
            have h4 : gh1 (t i) = some (gO 9 [vi (F 6 i), vi (qCol F s i), vi (qRow F s i), (pv i), .ref (wa i), vi (sd i), vi (ah i)]) := by rw [egh1, gset_ne (gne ht0 hs (by simp))]; exact ht0
            have h5 : gh1 (wa i) = some (gO 0 [.ref (bb i), vi (0), vi (0), vi (0)]) := by rw [egh1, gset_ne (gne hwd hs (by simp))]; exact hwd
            have h6 : gh1 (bb i) = some (gI 2 k (fun t => F 10 (8 * (nmOf F on i).toNat + t))) := by rw [egh1, gset_ne (gne hb0 hs (by simp))]; exact hb0
            have h7 : gh1 ss = some (gI 0 960 (putN P (40 * rowAtN (qRow F s i) (m : Int) + colAtN (qCol F s i) (m : Int) k).toNat (fun t => F 10 (8 * (nmOf F on i).toNat + t)) k)) := by rw [egh1]; exact gset_eq
            refine g_ald hC dX3_greatestFrom_79 rfl ?_
            refine g_get hC dX3_greatestFrom_81 gf_RX3_87 h4 rfl ?_
            refine g_ald_n hC dX3_greatestFrom_84 rfl ?_
            refine g_iload_n hC dX3_greatestFrom_85 rfl ?_
            refine g_iload_n hC dX3_greatestFrom_86 rfl ?_
            refine g_iconst hC dX3_greatestFrom_87 rfl ?_
            refine g_iadd hC dX3_greatestFrom_88 ?_
            refine g_top (b := 1) rfl ?_
            refine g_ald_n hC dX3_greatestFrom_89 rfl ?_
            refine g_callS (rest := [vi (F 6 i)]) hC (kX3_gr1 (s := s) (on := on) (F := F) (N := N) (t := t) (wa := wa) (bb := bb) (pv := pv) (sd := sd) (ah := ah) (L := L) hl h4L hP2 gh1 h2 h3 h7 (by rw [egh1]; exact hG.set hs)) gc_RX3_116 rfl ⟨by decide, by decide⟩ ⟨by decide, by decide⟩ (Nat.le_of_ble_eq_true rfl) rfl dX3_greatestFrom_90 (fun r gh' hp => ?_)
            obtain ⟨rfl, hgh⟩ := hp
            rw [hgh]
            clear hgh
            refine gV.eqs (st' := [vi (gfV F s on L2 (putN P (40 * rowAtN (qRow F s i) (m : Int) + colAtN (qCol F s i) (m : Int) k).toNat (fun t => F 10 (8 * (nmOf F on i).toNat + t)) k)), vi (F 6 i)]) rfl (by rw [eL2]; rfl) rfl ?_
            refine g_iadd hC dX3_greatestFrom_93 ?_
            refine g_istore (lv' := [some (.ref na), some (vi (((L.length : Nat) : Int))), some (vi (0)), some (.ref g), some (.ref (t i)), some (vi (mo)), some (vi (gfS F s on (gfV F s on L2) P i mo m)), some (vi ((m : Int))), some (vi ((F 6 i) + (gfV F s on L2 (putN P (40 * rowAtN (qRow F s i) (m : Int) + colAtN (qCol F s i) (m : Int) k).toNat (fun t => F 10 (8 * (nmOf F on i).toNat + t)) k))))]) hC dX3_greatestFrom_94 (by decide) rfl ?_
            refine g_iload hC dX3_greatestFrom_96 rfl ?_
            refine g_iload hC dX3_greatestFrom_98 rfl ?_
            refine g_max hC gmx_RX3 gmx_s gmx_i gmx_c (by decide) (Nat.le_of_ble_eq_true rfl) (by decide) (by decide) (by omega) (by omega) dX3_greatestFrom_100 ?_
            refine g_istore (lv' := [some (.ref na), some (vi (((L.length : Nat) : Int))), some (vi (0)), some (.ref g), some (.ref (t i)), some (vi (mo)), some (vi (max (gfS F s on (gfV F s on L2) P i mo m) (F 6 i + gfV F s on L2 (putN P (40 * rowAtN (qRow F s i) (m : Int) + colAtN (qCol F s i) (m : Int) k).toNat (fun t => F 10 (8 * (nmOf F on i).toNat + t)) k)))), some (vi ((m : Int))), some (vi ((F 6 i) + (gfV F s on L2 (putN P (40 * rowAtN (qRow F s i) (m : Int) + colAtN (qCol F s i) (m : Int) k).toNat (fun t => F 10 (8 * (nmOf F on i).toNat + t)) k))))]) hC dX3_greatestFrom_103 (by decide) rfl ?_
            refine g_ald hC dX3_greatestFrom_105 rfl ?_
            refine g_ald_n hC dX3_greatestFrom_107 rfl ?_
            refine g_iload hC dX3_greatestFrom_108 rfl ?_
            refine g_callV (rest := []) hC (kX5_erase hl k (m : Int) (by omega) hk8 (by omega) (by omega) (mayB_fit hB) gh1 h4 h3 h7 h5 h6) gc_RX3_138 rfl h4 rfl ⟨by decide, by decide⟩ ⟨by decide, by decide⟩ (Nat.le_of_ble_eq_true rfl) rfl dX3_greatestFrom_110 (fun r gh' hp => ?_)
            obtain ⟨rfl, hgh⟩ := hp
            rw [hgh]
            clear hgh
            refine gV.eqs (st' := []) rfl rfl rfl ?_
            refine g_iinc (lv' := [some (.ref na), some (vi (((L.length : Nat) : Int))), some (vi (0)), some (.ref g), some (.ref (t i)), some (vi (mo)), some (vi (max (gfS F s on (gfV F s on L2) P i mo m) (F 6 i + gfV F s on L2 (putN P (40 * rowAtN (qRow F s i) (m : Int) + colAtN (qCol F s i) (m : Int) k).toNat (fun t => F 10 (8 * (nmOf F on i).toNat + t)) k)))), some (vi ((m : Int) + 1)), some (vi ((F 6 i) + (gfV F s on L2 (putN P (40 * rowAtN (qRow F s i) (m : Int) + colAtN (qCol F s i) (m : Int) k).toNat (fun t => F 10 (8 * (nmOf F on i).toNat + t)) k))))]) hC dX3_greatestFrom_113 (by decide) rfl rfl ?_
            refine g_goto (tgt := 47) hC dX3_greatestFrom_116 (by decide) ?_
            refine gV.drop (lv' := [some (.ref na), some (vi (((L.length : Nat) : Int))), some (vi (0)), some (.ref g), some (.ref (t i)), some (vi (mo)), some (vi (max (gfS F s on (gfV F s on L2) P i mo m) (F 6 i + gfV F s on L2 (putN P (40 * rowAtN (qRow F s i) (m : Int) + colAtN (qCol F s i) (m : Int) k).toNat (fun t => F 10 (8 * (nmOf F on i).toNat + t)) k)))), some (vi ((m : Int) + 1)), none]) (by intro k v hk; match k, hk with | 0, hk => exact hk | 1, hk => exact hk | 2, hk => exact hk | 3, hk => exact hk | 4, hk => exact hk | 5, hk => exact hk | 6, hk => exact hk | 7, hk => exact hk | 8, hk => exact absurd hk (by simp) | k + 9, hk => exact absurd hk (by simp)) ?_
            refine gV.eqs (lv' := [some (.ref na), some (vi (((L.length : Nat) : Int))), some (vi (0)), some (.ref g), some (.ref (t i)), some (vi (mo)), some (vi (gfS F s on (gfV F s on L2) P i mo (m + 1))), some (vi ((((m + 1) : Nat) : Int))), none]) (lcons rfl (lcons rfl (lcons rfl (lcons rfl (lcons rfl (lcons rfl (lcons (svi (by rw [gfS_s, if_pos hm, if_pos (by rw [emb]; exact hB), ewr])) (lcons (svi (by omega)) (lcons rfl rfl))))))))) rfl (by rw [egh1, gset_set, erase_back hB, gset_self hs]) ih
      · refine g_iload hC dX3_greatestFrom_47 rfl ?_
        refine g_iconst hC dX3_greatestFrom_49 rfl ?_
        refine g_icmp_ge (tgt := 119) hC dX3_greatestFrom_50 (by decide) (by omega) (by omega) (fun c_50 => ?_) (fun c_50 => False.elim (by omega))
        refine gV.drop (lv' := [some (.ref na), some (vi (((L.length : Nat) : Int))), some (vi (0)), some (.ref g), some (.ref (t i)), some (vi (mo)), some (vi (gfS F s on (gfV F s on L2) P i mo 4)), none, none]) (by intro k v hk; match k, hk with | 0, hk => exact hk | 1, hk => exact hk | 2, hk => exact hk | 3, hk => exact hk | 4, hk => exact hk | 5, hk => exact hk | 6, hk => exact hk | 7, hk => exact absurd hk (by simp) | 8, hk => exact absurd hk (by simp) | k + 9, hk => exact absurd hk (by simp)) ?_
        refine gV.eqs (lv' := [some (.ref na), some (vi (((L.length : Nat) : Int))), some (vi (0)), some (.ref g), some (.ref (t i)), some (vi (mo)), some (vi (gfS F s on (gfV F s on L2) P i mo 4)), none, none]) (lcons rfl (lcons rfl (lcons rfl (lcons rfl (lcons rfl (lcons rfl (lcons rfl (lcons rfl (lcons rfl rfl))))))))) rfl rfl aft
    refine gV.eqs (lv' := [some (.ref na), some (vi (((L.length : Nat) : Int))), some (vi (0)), some (.ref g), some (.ref (t i)), some (vi (mo)), some (vi (gfS F s on (gfV F s on L2) P i mo 0)), some (vi (((0 : Nat) : Int))), none]) (lcons rfl (lcons rfl (lcons rfl (lcons rfl (lcons rfl (lcons rfl (lcons (svi (rfl)) (lcons (svi (rfl)) (lcons rfl rfl))))))))) rfl rfl (lp 0 (Nat.zero_le _))

end C17
