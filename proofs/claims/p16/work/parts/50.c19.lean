/-! the class: the best of all placings of a sheet; a new sheet -/
section C19
theorem wdA_get {ad : Tg → Nat} {F : Nat → Nat → Int} {day : Int} {i : Nat} (h : (wdA ad F day i).isSome = true) : wdA ad F day i = some (ad (6, i, (nmOf F day i).toNat - 6 * i)) := by
  rcases wdA_nm ad F day i with ⟨h1, h2⟩ | ⟨j, h1, h2, h3, h4⟩
  · rw [h2] at h; cases h
  · rw [h4, h3, Nat.add_sub_cancel_left]
set_option maxHeartbeats 4000000 in
set_option maxRecDepth 100000 in
theorem kX3_best {l : Launch} (hl : l.stackTraces = false) {D : gD} {base : Nat}  {ad : Tg → Nat} {F : Nat → Nat → Int} {z : Nat → Int} {k n : Nat} {sd ah : Nat → Int} {N : Nat → Option Nat} {P T : Nat → Int} {ct : Tg → Option gC} {L : List Nat} (hI : mI z F) (hn : (n : Int) ≤ z 3) (eL : L = lsU F k (wdA ad F (z 0)) n 5) (h4L : L.length ≤ 4) (hS : SHP ad F k n sd ah (wdA ad F (z 0)) L.length (fun q => L.getD q 0) N P T ct) (hPL : ∀ i : Nat, i < n → PLP ad F i ct) (gh : gH)  (hR : cR ad ct gh) : gM l D base yX3_greatestWorth cX3_greatestWorth 1 (some Jvm.ClassFile.FieldType.int) 10 243 0 0 [.ref (ad (10, k, 0))] gh (fun r gh' => r = some (vi (gfV F k (z 0) L (dotP F k n))) ∧ ∃ ct', cR ad ct' gh' ∧ (∀ t, ¬ tS k t → ct' t = ct t) ∧ SHP ad F k n sd ah (wdA ad F (z 0)) L.length (fun q => L.getD q 0) N P (dotP F k n) ct') gNo := by
  refine gM.of hl (by decide) (by simp [Value.category]) (Nat.le_of_ble_eq_true rfl) [some (.ref (ad (10, k, 0)))] rfl (fun x hC hq => ?_)
  obtain ⟨i0, i1, i3, i11, i22, iw, ip, inn, inm, ish⟩ := id hI
  obtain ⟨s1, s2, s3, s4, s5, s6, s7, s8, s9⟩ := id hS
  have hn14 : n ≤ 14 := by omega
  have hLm : ∀ i ∈ L, i < n ∧ qOn F k i = true ∧ (wdA ad F (z 0) i).isSome = true := fun i hi => by rw [eL] at hi; have := (lsU_mem 5 (Nat.le_refl 5)).mp hi; exact ⟨this.1, this.2.2.2⟩
  have f1 : gh (ad (10, k, 0)) = some (gO 7 [.ref (ad (13, k, 0)), .ref (ad (15, k, 0)), vi (F 12 k), vi (F 13 k), vi (F 14 k), .ref (ad (11, k, 0)), vi ((n : Int)), .ref (ad (12, k, 0)), vi (((L.length : Nat) : Int))]) := hR.1 _ _ (s1)
  have f2 : gh (ad (11, k, 0)) = some (gR 8 14 (fun i => if i < n then some (ad (17, k, i)) else none)) := hR.1 _ _ (s2)
  have f3 : gh (ad (12, k, 0)) = some (gR 8 14 (N)) := hR.1 _ _ (s3)
  have f4 : gh (ad (15, k, 0)) = some (gO 5 [.ref (ad (16, k, 0))]) := hR.1 _ _ (s6)
  have f5 : gh (ad (16, k, 0)) = some (gI 0 960 (T)) := hR.1 _ _ (s7)
  refine g_ald_n hC dX3_greatestWorth_0 rfl ?_
  refine g_ald_n hC dX3_greatestWorth_1 rfl ?_
  refine g_get hC dX3_greatestWorth_2 gf_RX3_28 f1 rfl ?_
  refine g_callV (rest := []) hC (kX3_drawDots (t := fun i => ad (17, k, i)) (pv := fun i => .ref (ad (3, i, 0))) (s := k) (F := F) (wv := fun i => va_rf (wdA ad F (z 0) i)) (sd := sd) (ah := ah) hl hn14 gh f1 f2 f4 f5 (fun i hi => ⟨if_pos hi, hR.1 _ _ (s8 i hi)⟩)) gc_RX3_80 rfl f1 rfl ⟨by decide, by decide⟩ ⟨by decide, by decide⟩ (Nat.le_of_ble_eq_true rfl) rfl dX3_greatestWorth_5 (fun r g2 hp => ?_)
  obtain ⟨rfl, hgh⟩ := hp
  have h2R := hR.put s7 (gI 0 960 (dotP F k n))
  rw [← hgh] at h2R
  have hS2 := hS.tri (dotP F k n)
  have hfr : ∀ t, ¬ tS k t → cup ct (16, k, 0) (gI 0 960 (dotP F k n)) t = ct t := fun t ht => cup_ne (fun e => ht (by rw [e]; exact ⟨Nat.le_of_ble_eq_true rfl, Nat.le_of_ble_eq_true rfl, rfl⟩))
  have hPL2 : ∀ i : Nat, i < n → PLP ad F i (cup ct (16, k, 0) (gI 0 960 (dotP F k n))) := fun i hi => (hPL i hi).fr (fun a b c ha hb => hfr _ (notS (Or.inl (by omega))))
  generalize cup ct (16, k, 0) (gI 0 960 (dotP F k n)) = ct2 at h2R hS2 hfr hPL2
  obtain ⟨a1, a2, a3, a4, a5, a6, a7, a8, a9⟩ := id hS2
  have f6 : g2 (ad (10, k, 0)) = some (gO 7 [.ref (ad (13, k, 0)), .ref (ad (15, k, 0)), vi (F 12 k), vi (F 13 k), vi (F 14 k), .ref (ad (11, k, 0)), vi ((n : Int)), .ref (ad (12, k, 0)), vi (((L.length : Nat) : Int))]) := h2R.1 _ _ (a1)
  have f7 : g2 (ad (12, k, 0)) = some (gR 8 14 (N)) := h2R.1 _ _ (a3)
  have f8 : g2 (ad (15, k, 0)) = some (gO 5 [.ref (ad (16, k, 0))]) := h2R.1 _ _ (a6)
  have f9 : g2 (ad (16, k, 0)) = some (gI 0 960 (dotP F k n)) := h2R.1 _ _ (a7)
  refine gV.eqs (st' := []) rfl rfl rfl ?_
  refine g_ald_n hC dX3_greatestWorth_8 rfl ?_
  refine g_get hC dX3_greatestWorth_9 gf_RX3_37 f6 rfl ?_
  refine g_ald_n hC dX3_greatestWorth_12 rfl ?_
  refine g_get hC dX3_greatestWorth_13 gf_RX3_43 f6 rfl ?_
  refine g_iconst hC dX3_greatestWorth_16 rfl ?_
  refine g_ald_n hC dX3_greatestWorth_17 rfl ?_
  refine g_get hC dX3_greatestWorth_18 gf_RX3_28 f6 rfl ?_
  have hG : grH F k (z 0) N (fun i => ad (17, k, i)) (fun i => ad (6, i, (nmOf F (z 0) i).toNat - 6 * i)) (fun i => ad (7, i, (nmOf F (z 0) i).toNat - 6 * i)) (fun i => .ref (ad (3, i, 0))) sd ah L g2 := by
    intro q hq
    have hN := (a9 q hq).1
    have hiL := getT_mem hq
    obtain ⟨i, ei⟩ : ∃ i, i = L.getD q 0 := ⟨_, rfl⟩
    simp only [← ei] at hN hiL ⊢
    obtain ⟨hin, hon, hws⟩ := hLm i hiL
    have hg := wdA_get hws
    obtain ⟨j, hj7, hnm, hnt, hwd⟩ := (wdA_nm ad F (z 0) i).resolve_left (fun q => by rw [q.2] at hws; cases hws)
    have h7 := inn i (by omega)
    have h9 := inm i j (by omega) (by omega)
    obtain ⟨q1, q2, q3⟩ := (hPL2 i hin).2.2 j (by omega)
    have b17 := h2R.1 _ _ (a8 i hin)
    rw [hg] at b17
    have hs6 := ip i (by omega)
    rw [hnt] at b17 ⊢
    rw [Nat.add_sub_cancel_left] at b17 ⊢
    exact ⟨hN, b17, h2R.1 _ _ q2, h2R.1 _ _ q3, hon, h9.2.2.1 |> fun a => ⟨a, h9.2.2.2.1⟩, h9.2.2.2.2, hs6.2.2.2.2⟩
  refine g_callS (rest := []) hC (kX3_gr0 (L := L) hl h4L (dotP_ok n) g2 f7 f8 f9 hG) gc_RX3_116 rfl ⟨by decide, by decide⟩ ⟨by decide, by decide⟩ (Nat.le_of_ble_eq_true rfl) rfl dX3_greatestWorth_21 (fun r g3 hp => ?_)
  obtain ⟨rfl, hgh2⟩ := hp
  rw [hgh2]
  refine gV.eqs (st' := [vi (gfV F k (z 0) L (dotP F k n))]) rfl (by rw [List.drop_zero]; rfl) rfl ?_
  have hgv := gfV_rng (s := k) (on := z 0) L (fun i hi => (ip i (by have := hLm i hi; omega)).2.2.2.2) (dotP F k n)
  exact g_iret hC hq dX3_greatestWorth_24 (by decide) (by decide) ⟨rfl, ct2, h2R, hfr, hS2⟩

set_option maxHeartbeats 4000000 in
set_option maxRecDepth 100000 in
theorem kX3_init {l : Launch} (hl : l.stackTraces = false) {D : gD} {base : Nat}  {sh : Nat} {a b c : Int} (gh : gH) (hsh : gh sh = some (gO 7 [.null, .null, vi (0), vi (0), vi (0), .null, vi (0), .null, vi (0)]))  : gM l D base yX3_init cX3_init 4 none 2 32 6 1950 [.ref sh, vi (a), vi (b), vi (c)] gh (fun r gh' => r = none ∧ ∃ s1 q1 s2 q2 oa na, gh s1 = none ∧ gh q1 = none ∧ gh s2 = none ∧ gh q2 = none ∧ gh oa = none ∧ gh na = none ∧ (q1 ≠ s1 ∧ s1 ≠ s2 ∧ s1 ≠ q2 ∧ s1 ≠ oa ∧ s1 ≠ na ∧ q1 ≠ s2 ∧ q1 ≠ q2 ∧ q1 ≠ oa ∧ q1 ≠ na ∧ q2 ≠ s2 ∧ s2 ≠ oa ∧ s2 ≠ na ∧ q2 ≠ oa ∧ q2 ≠ na ∧ oa ≠ na) ∧ gh' = gset (gset (gset (gset (gset (gset (gset gh s1 (gI 0 960 (fun _ => 0))) q1 (gO 5 [.ref s1])) s2 (gI 0 960 (fun _ => 0))) q2 (gO 5 [.ref s2])) oa (gR 8 14 (fun _ => none))) na (gR 8 14 (fun _ => none))) sh (gO 7 [.ref q1, .ref q2, vi a, vi b, vi c, .ref oa, vi 0, .ref na, vi 0])) gNo := by
  refine gM.of hl (by decide) (by simp [Value.category]) (Nat.le_of_ble_eq_true rfl) [some (.ref sh), some (vi (a)), some (vi (b)), some (vi (c))] rfl (fun x hC hq => ?_)
  refine g_ald_n hC dX3_init_0 rfl ?_
  refine g_objInit hC dX3_init_1 go_RX3 go_i go_c (by decide) (by decide) ?_
  refine g_ald_n hC dX3_init_4 rfl ?_
  refine g_iload_n hC dX3_init_5 rfl ?_
  refine g_putF hC hq (fs' := [.null, .null, vi (a), vi (0), vi (0), .null, vi (0), .null, vi (0)]) dX3_init_6 gp_RX3_9 hsh ⟨rfl, rfl⟩ rfl (Nat.le_of_ble_eq_true rfl) ?_
  obtain ⟨gh1, egh1⟩ : ∃ g_, g_ = gset gh sh (gO 7 [.null, .null, vi (a), vi (0), vi (0), .null, vi (0), .null, vi (0)]) := ⟨_, rfl⟩
  rw [← egh1]
  have h2 : gh1 sh = some (gO 7 [.null, .null, vi (a), vi (0), vi (0), .null, vi (0), .null, vi (0)]) := by rw [egh1]; exact gset_eq
  refine g_ald_n hC dX3_init_9 rfl ?_
  refine g_iload_n hC dX3_init_10 rfl ?_
  refine g_putF hC hq (fs' := [.null, .null, vi (a), vi (b), vi (0), .null, vi (0), .null, vi (0)]) dX3_init_11 gp_RX3_15 h2 ⟨rfl, rfl⟩ rfl (Nat.le_of_ble_eq_true rfl) ?_
  obtain ⟨gh3, egh3⟩ : ∃ g_, g_ = gset gh1 sh (gO 7 [.null, .null, vi (a), vi (b), vi (0), .null, vi (0), .null, vi (0)]) := ⟨_, rfl⟩
  rw [← egh3]
  have h4 : gh3 sh = some (gO 7 [.null, .null, vi (a), vi (b), vi (0), .null, vi (0), .null, vi (0)]) := by rw [egh3]; exact gset_eq
  refine g_ald_n hC dX3_init_14 rfl ?_
  refine g_iload_n hC dX3_init_15 rfl ?_
  refine g_putF hC hq (fs' := [.null, .null, vi (a), vi (b), vi (c), .null, vi (0), .null, vi (0)]) dX3_init_16 gp_RX3_18 h4 ⟨rfl, rfl⟩ rfl (Nat.le_of_ble_eq_true rfl) ?_
  obtain ⟨gh5, egh5⟩ : ∃ g_, g_ = gset gh3 sh (gO 7 [.null, .null, vi (a), vi (b), vi (c), .null, vi (0), .null, vi (0)]) := ⟨_, rfl⟩
  rw [← egh5]
  have h6 : gh5 sh = some (gO 7 [.null, .null, vi (a), vi (b), vi (c), .null, vi (0), .null, vi (0)]) := by rw [egh5]; exact gset_eq
  refine g_ald_n hC dX3_init_19 rfl ?_
  refine g_new hC dX3_init_20 gn_RX3_21 (by decide) (by decide) (fun q7 hnq7 => ?_)
  obtain ⟨gh8, egh8⟩ : ∃ g_, g_ = gset gh5 q7 (gO 5 [.null]) := ⟨_, rfl⟩
  rw [← egh8]
  have h9 : gh8 sh = some (gO 7 [.null, .null, vi (a), vi (b), vi (c), .null, vi (0), .null, vi (0)]) := by rw [egh8, gset_ne (fun z => by rw [z, hnq7] at h6; cases h6)]; exact h6
  have h10 : gh8 q7 = some (gO 5 [.null]) := by rw [egh8]; exact gset_eq
  refine g_dup hC dX3_init_23 rfl ?_
  refine g_callI (rest := [.ref q7, .ref sh]) hC (kX1_init hl  gh8 h10) gc_RX3_23 rfl ⟨by decide, by decide⟩ ⟨by decide, by decide⟩ (Nat.le_of_ble_eq_true rfl) rfl dX3_init_24 (fun r gz hp => ?_)
  obtain ⟨rfl, s1, hns1, hgh⟩ := hp
  rw [hgh]
  clear hgh
  refine gV.eqs (st' := [.ref q7, .ref sh]) rfl rfl rfl ?_
  have ne_s1 : q7 ≠ s1 := fun e => by have h9 := h10; rw [e, hns1] at h9; cases h9
  obtain ⟨gh11, egh11⟩ : ∃ g_, g_ = gset gh8 s1 (gI 0 960 (fun _ => 0)) := ⟨_, rfl⟩
  rw [← egh11]
  have h12 : gh11 sh = some (gO 7 [.null, .null, vi (a), vi (b), vi (c), .null, vi (0), .null, vi (0)]) := by rw [egh11, gset_ne (fun z => by rw [z, hns1] at h9; cases h9)]; exact h9
  have h13 : gh11 q7 = some (gO 5 [.null]) := by rw [egh11, gset_ne (fun z => by rw [z, hns1] at h10; cases h10)]; exact h10
  have h14 : gh11 s1 = some (gI 0 960 (fun _ => 0)) := by rw [egh11]; exact gset_eq
  obtain ⟨gh15, egh15⟩ : ∃ g_, g_ = gset gh11 q7 (gO 5 [.ref s1]) := ⟨_, rfl⟩
  rw [← egh15]
  have h16 : gh15 sh = some (gO 7 [.null, .null, vi (a), vi (b), vi (c), .null, vi (0), .null, vi (0)]) := by rw [egh15, gset_ne (gne h12 h13 (by simp))]; exact h12
  have h17 : gh15 s1 = some (gI 0 960 (fun _ => 0)) := by rw [egh15, gset_ne (gne h14 h13 (by simp))]; exact h14
  have h18 : gh15 q7 = some (gO 5 [.ref s1]) := by rw [egh15]; exact gset_eq
  refine g_putF hC hq (fs' := [.ref q7, .null, vi (a), vi (b), vi (c), .null, vi (0), .null, vi (0)]) dX3_init_27 gp_RX3_24 h16 ⟨rfl, rfl⟩ rfl (Nat.le_of_ble_eq_true rfl) ?_
  obtain ⟨gh19, egh19⟩ : ∃ g_, g_ = gset gh15 sh (gO 7 [.ref q7, .null, vi (a), vi (b), vi (c), .null, vi (0), .null, vi (0)]) := ⟨_, rfl⟩
  rw [← egh19]
  have h20 : gh19 s1 = some (gI 0 960 (fun _ => 0)) := by rw [egh19, gset_ne (gne h17 h16 (by simp))]; exact h17
  have h21 : gh19 q7 = some (gO 5 [.ref s1]) := by rw [egh19, gset_ne (gne h18 h16 (by simp))]; exact h18
  have h22 : gh19 sh = some (gO 7 [.ref q7, .null, vi (a), vi (b), vi (c), .null, vi (0), .null, vi (0)]) := by rw [egh19]; exact gset_eq
  refine g_ald_n hC dX3_init_30 rfl ?_
  refine g_new hC dX3_init_31 gn_RX3_21 (by decide) (by decide) (fun q23 hnq23 => ?_)
  obtain ⟨gh24, egh24⟩ : ∃ g_, g_ = gset gh19 q23 (gO 5 [.null]) := ⟨_, rfl⟩
  rw [← egh24]
  have h25 : gh24 s1 = some (gI 0 960 (fun _ => 0)) := by rw [egh24, gset_ne (fun z => by rw [z, hnq23] at h20; cases h20)]; exact h20
  have h26 : gh24 q7 = some (gO 5 [.ref s1]) := by rw [egh24, gset_ne (fun z => by rw [z, hnq23] at h21; cases h21)]; exact h21
  have h27 : gh24 sh = some (gO 7 [.ref q7, .null, vi (a), vi (b), vi (c), .null, vi (0), .null, vi (0)]) := by rw [egh24, gset_ne (fun z => by rw [z, hnq23] at h22; cases h22)]; exact h22
  have h28 : gh24 q23 = some (gO 5 [.null]) := by rw [egh24]; exact gset_eq
  refine g_dup hC dX3_init_34 rfl ?_
  have ne_q23_q7 : q7 ≠ q23 := fun e => by have h9 := h21; rw [e, hnq23] at h9; cases h9
  have ne_q23_s1 : s1 ≠ q23 := fun e => by have h9 := h20; rw [e, hnq23] at h9; cases h9
  refine g_callI (rest := [.ref q23, .ref sh]) hC (kX1_init hl  gh24 h28) gc_RX3_23 rfl ⟨by decide, by decide⟩ ⟨by decide, by decide⟩ (Nat.le_of_ble_eq_true rfl) rfl dX3_init_35 (fun r gz hp => ?_)
  obtain ⟨rfl, s2, hns2, hgh⟩ := hp
  rw [hgh]
  clear hgh
  refine gV.eqs (st' := [.ref q23, .ref sh]) rfl rfl rfl ?_
  have ne_s2 : q23 ≠ s2 := fun e => by have h9 := h28; rw [e, hns2] at h9; cases h9
  have ne_s2_q7 : q7 ≠ s2 := fun e => by have h9 := h26; rw [e, hns2] at h9; cases h9
  have ne_s2_s1 : s1 ≠ s2 := fun e => by have h9 := h25; rw [e, hns2] at h9; cases h9
  obtain ⟨gh29, egh29⟩ : ∃ g_, g_ = gset gh24 s2 (gI 0 960 (fun _ => 0)) := ⟨_, rfl⟩
  rw [← egh29]
  have h30 : gh29 s1 = some (gI 0 960 (fun _ => 0)) := by rw [egh29, gset_ne (fun z => by rw [z, hns2] at h25; cases h25)]; exact h25
  have h31 : gh29 q7 = some (gO 5 [.ref s1]) := by rw [egh29, gset_ne (fun z => by rw [z, hns2] at h26; cases h26)]; exact h26
  have h32 : gh29 sh = some (gO 7 [.ref q7, .null, vi (a), vi (b), vi (c), .null, vi (0), .null, vi (0)]) := by rw [egh29, gset_ne (fun z => by rw [z, hns2] at h27; cases h27)]; exact h27
  have h33 : gh29 q23 = some (gO 5 [.null]) := by rw [egh29, gset_ne (fun z => by rw [z, hns2] at h28; cases h28)]; exact h28
  have h34 : gh29 s2 = some (gI 0 960 (fun _ => 0)) := by rw [egh29]; exact gset_eq
  obtain ⟨gh35, egh35⟩ : ∃ g_, g_ = gset gh29 q23 (gO 5 [.ref s2]) := ⟨_, rfl⟩
  rw [← egh35]
  have h36 : gh35 s1 = some (gI 0 960 (fun _ => 0)) := by rw [egh35, gset_ne (gne h30 h33 (by simp))]; exact h30
  have h37 : gh35 q7 = some (gO 5 [.ref s1]) := by rw [egh35, gset_ne ne_q23_q7]; exact h31
  have h38 : gh35 sh = some (gO 7 [.ref q7, .null, vi (a), vi (b), vi (c), .null, vi (0), .null, vi (0)]) := by rw [egh35, gset_ne (gne h32 h33 (by simp))]; exact h32
  have h39 : gh35 s2 = some (gI 0 960 (fun _ => 0)) := by rw [egh35, gset_ne (gne h34 h33 (by simp))]; exact h34
  have h40 : gh35 q23 = some (gO 5 [.ref s2]) := by rw [egh35]; exact gset_eq
  refine g_putF hC hq (fs' := [.ref q7, .ref q23, vi (a), vi (b), vi (c), .null, vi (0), .null, vi (0)]) dX3_init_38 gp_RX3_28 h38 ⟨rfl, rfl⟩ rfl (Nat.le_of_ble_eq_true rfl) ?_
  obtain ⟨gh41, egh41⟩ : ∃ g_, g_ = gset gh35 sh (gO 7 [.ref q7, .ref q23, vi (a), vi (b), vi (c), .null, vi (0), .null, vi (0)]) := ⟨_, rfl⟩
  rw [← egh41]
  have h42 : gh41 s1 = some (gI 0 960 (fun _ => 0)) := by rw [egh41, gset_ne (gne h36 h38 (by simp))]; exact h36
  have h43 : gh41 q7 = some (gO 5 [.ref s1]) := by rw [egh41, gset_ne (gne h37 h38 (by simp))]; exact h37
  have h44 : gh41 s2 = some (gI 0 960 (fun _ => 0)) := by rw [egh41, gset_ne (gne h39 h38 (by simp))]; exact h39
  have h45 : gh41 q23 = some (gO 5 [.ref s2]) := by rw [egh41, gset_ne (gne h40 h38 (by simp))]; exact h40
  have h46 : gh41 sh = some (gO 7 [.ref q7, .ref q23, vi (a), vi (b), vi (c), .null, vi (0), .null, vi (0)]) := by rw [egh41]; exact gset_eq
  refine g_ald_n hC dX3_init_41 rfl ?_
  refine g_bipush (z := 14) hC dX3_init_42 rfl ?_
  refine g_newR (n := 14) (kd := 8) hC dX3_init_44 ga_RX3_31.1 ga_RX3_31.2 (by decide) rfl rfl (by decide) (by decide) (by decide) (fun q47 hnq47 => ?_)
  obtain ⟨gh48, egh48⟩ : ∃ g_, g_ = gset gh41 q47 (gR 8 14 (fun _ => none)) := ⟨_, rfl⟩
  rw [← egh48]
  have h49 : gh48 s1 = some (gI 0 960 (fun _ => 0)) := by rw [egh48, gset_ne (fun z => by rw [z, hnq47] at h42; cases h42)]; exact h42
  have h50 : gh48 q7 = some (gO 5 [.ref s1]) := by rw [egh48, gset_ne (fun z => by rw [z, hnq47] at h43; cases h43)]; exact h43
  have h51 : gh48 s2 = some (gI 0 960 (fun _ => 0)) := by rw [egh48, gset_ne (fun z => by rw [z, hnq47] at h44; cases h44)]; exact h44
  have h52 : gh48 q23 = some (gO 5 [.ref s2]) := by rw [egh48, gset_ne (fun z => by rw [z, hnq47] at h45; cases h45)]; exact h45
  have h53 : gh48 sh = some (gO 7 [.ref q7, .ref q23, vi (a), vi (b), vi (c), .null, vi (0), .null, vi (0)]) := by rw [egh48, gset_ne (fun z => by rw [z, hnq47] at h46; cases h46)]; exact h46
  have h54 : gh48 q47 = some (gR 8 14 (fun _ => none)) := by rw [egh48]; exact gset_eq
  have ne_q47_q7 : q7 ≠ q47 := fun e => by have h9 := h43; rw [e, hnq47] at h9; cases h9
  have ne_q47_s1 : s1 ≠ q47 := fun e => by have h9 := h42; rw [e, hnq47] at h9; cases h9
  have ne_q47_q23 : q23 ≠ q47 := fun e => by have h9 := h45; rw [e, hnq47] at h9; cases h9
  have ne_q47_s2 : s2 ≠ q47 := fun e => by have h9 := h44; rw [e, hnq47] at h9; cases h9
  refine g_putF hC hq (fs' := [.ref q7, .ref q23, vi (a), vi (b), vi (c), .ref q47, vi (0), .null, vi (0)]) dX3_init_47 gp_RX3_33 h53 ⟨rfl, rfl⟩ rfl (Nat.le_of_ble_eq_true rfl) ?_
  obtain ⟨gh55, egh55⟩ : ∃ g_, g_ = gset gh48 sh (gO 7 [.ref q7, .ref q23, vi (a), vi (b), vi (c), .ref q47, vi (0), .null, vi (0)]) := ⟨_, rfl⟩
  rw [← egh55]
  have h56 : gh55 s1 = some (gI 0 960 (fun _ => 0)) := by rw [egh55, gset_ne (gne h49 h53 (by simp))]; exact h49
  have h57 : gh55 q7 = some (gO 5 [.ref s1]) := by rw [egh55, gset_ne (gne h50 h53 (by simp))]; exact h50
  have h58 : gh55 s2 = some (gI 0 960 (fun _ => 0)) := by rw [egh55, gset_ne (gne h51 h53 (by simp))]; exact h51
  have h59 : gh55 q23 = some (gO 5 [.ref s2]) := by rw [egh55, gset_ne (gne h52 h53 (by simp))]; exact h52
  have h60 : gh55 q47 = some (gR 8 14 (fun _ => none)) := by rw [egh55, gset_ne (gne h54 h53 (by simp))]; exact h54
  have h61 : gh55 sh = some (gO 7 [.ref q7, .ref q23, vi (a), vi (b), vi (c), .ref q47, vi (0), .null, vi (0)]) := by rw [egh55]; exact gset_eq
  refine g_ald_n hC dX3_init_50 rfl ?_
  refine g_bipush (z := 14) hC dX3_init_51 rfl ?_
  refine g_newR (n := 14) (kd := 8) hC dX3_init_53 ga_RX3_31.1 ga_RX3_31.2 (by decide) rfl rfl (by decide) (by decide) (by decide) (fun q62 hnq62 => ?_)
  obtain ⟨gh63, egh63⟩ : ∃ g_, g_ = gset gh55 q62 (gR 8 14 (fun _ => none)) := ⟨_, rfl⟩
  rw [← egh63]
  have h64 : gh63 s1 = some (gI 0 960 (fun _ => 0)) := by rw [egh63, gset_ne (fun z => by rw [z, hnq62] at h56; cases h56)]; exact h56
  have h65 : gh63 q7 = some (gO 5 [.ref s1]) := by rw [egh63, gset_ne (fun z => by rw [z, hnq62] at h57; cases h57)]; exact h57
  have h66 : gh63 s2 = some (gI 0 960 (fun _ => 0)) := by rw [egh63, gset_ne (fun z => by rw [z, hnq62] at h58; cases h58)]; exact h58
  have h67 : gh63 q23 = some (gO 5 [.ref s2]) := by rw [egh63, gset_ne (fun z => by rw [z, hnq62] at h59; cases h59)]; exact h59
  have h68 : gh63 q47 = some (gR 8 14 (fun _ => none)) := by rw [egh63, gset_ne (fun z => by rw [z, hnq62] at h60; cases h60)]; exact h60
  have h69 : gh63 sh = some (gO 7 [.ref q7, .ref q23, vi (a), vi (b), vi (c), .ref q47, vi (0), .null, vi (0)]) := by rw [egh63, gset_ne (fun z => by rw [z, hnq62] at h61; cases h61)]; exact h61
  have h70 : gh63 q62 = some (gR 8 14 (fun _ => none)) := by rw [egh63]; exact gset_eq
  have ne_q62_q7 : q7 ≠ q62 := fun e => by have h9 := h57; rw [e, hnq62] at h9; cases h9
  have ne_q62_s1 : s1 ≠ q62 := fun e => by have h9 := h56; rw [e, hnq62] at h9; cases h9
  have ne_q62_q23 : q23 ≠ q62 := fun e => by have h9 := h59; rw [e, hnq62] at h9; cases h9
  have ne_q62_s2 : s2 ≠ q62 := fun e => by have h9 := h58; rw [e, hnq62] at h9; cases h9
  have ne_q62_q47 : q47 ≠ q62 := fun e => by have h9 := h60; rw [e, hnq62] at h9; cases h9
  refine g_putF hC hq (fs' := [.ref q7, .ref q23, vi (a), vi (b), vi (c), .ref q47, vi (0), .ref q62, vi (0)]) dX3_init_56 gp_RX3_37 h69 ⟨rfl, rfl⟩ rfl (Nat.le_of_ble_eq_true rfl) ?_
  obtain ⟨gh71, egh71⟩ : ∃ g_, g_ = gset gh63 sh (gO 7 [.ref q7, .ref q23, vi (a), vi (b), vi (c), .ref q47, vi (0), .ref q62, vi (0)]) := ⟨_, rfl⟩
  rw [← egh71]
  have h72 : gh71 s1 = some (gI 0 960 (fun _ => 0)) := by rw [egh71, gset_ne (gne h64 h69 (by simp))]; exact h64
  have h73 : gh71 q7 = some (gO 5 [.ref s1]) := by rw [egh71, gset_ne (gne h65 h69 (by simp))]; exact h65
  have h74 : gh71 s2 = some (gI 0 960 (fun _ => 0)) := by rw [egh71, gset_ne (gne h66 h69 (by simp))]; exact h66
  have h75 : gh71 q23 = some (gO 5 [.ref s2]) := by rw [egh71, gset_ne (gne h67 h69 (by simp))]; exact h67
  have h76 : gh71 q47 = some (gR 8 14 (fun _ => none)) := by rw [egh71, gset_ne (gne h68 h69 (by simp))]; exact h68
  have h77 : gh71 q62 = some (gR 8 14 (fun _ => none)) := by rw [egh71, gset_ne (gne h70 h69 (by simp))]; exact h70
  have h78 : gh71 sh = some (gO 7 [.ref q7, .ref q23, vi (a), vi (b), vi (c), .ref q47, vi (0), .ref q62, vi (0)]) := by rw [egh71]; exact gset_eq
  refine g_ald_n hC dX3_init_59 rfl ?_
  refine g_iconst hC dX3_init_60 rfl ?_
  refine g_put hC (fs' := [.ref q7, .ref q23, vi (a), vi (b), vi (c), .ref q47, vi (0), .ref q62, vi (0)]) dX3_init_61 gp_RX3_40 h78 ⟨rfl, rfl⟩ rfl (Nat.le_of_ble_eq_true rfl) ?_
  obtain ⟨gh79, egh79⟩ : ∃ g_, g_ = gset gh71 sh (gO 7 [.ref q7, .ref q23, vi (a), vi (b), vi (c), .ref q47, vi (0), .ref q62, vi (0)]) := ⟨_, rfl⟩
  rw [← egh79]
  have h80 : gh79 s1 = some (gI 0 960 (fun _ => 0)) := by rw [egh79, gset_ne (gne h72 h78 (by simp))]; exact h72
  have h81 : gh79 q7 = some (gO 5 [.ref s1]) := by rw [egh79, gset_ne (gne h73 h78 (by simp))]; exact h73
  have h82 : gh79 s2 = some (gI 0 960 (fun _ => 0)) := by rw [egh79, gset_ne (gne h74 h78 (by simp))]; exact h74
  have h83 : gh79 q23 = some (gO 5 [.ref s2]) := by rw [egh79, gset_ne (gne h75 h78 (by simp))]; exact h75
  have h84 : gh79 q47 = some (gR 8 14 (fun _ => none)) := by rw [egh79, gset_ne (gne h76 h78 (by simp))]; exact h76
  have h85 : gh79 q62 = some (gR 8 14 (fun _ => none)) := by rw [egh79, gset_ne (gne h77 h78 (by simp))]; exact h77
  have h86 : gh79 sh = some (gO 7 [.ref q7, .ref q23, vi (a), vi (b), vi (c), .ref q47, vi (0), .ref q62, vi (0)]) := by rw [egh79]; exact gset_eq
  refine g_ald_n hC dX3_init_64 rfl ?_
  refine g_iconst hC dX3_init_65 rfl ?_
  refine g_put hC (fs' := [.ref q7, .ref q23, vi (a), vi (b), vi (c), .ref q47, vi (0), .ref q62, vi (0)]) dX3_init_66 gp_RX3_43 h86 ⟨rfl, rfl⟩ rfl (Nat.le_of_ble_eq_true rfl) ?_
  obtain ⟨gh87, egh87⟩ : ∃ g_, g_ = gset gh79 sh (gO 7 [.ref q7, .ref q23, vi (a), vi (b), vi (c), .ref q47, vi (0), .ref q62, vi (0)]) := ⟨_, rfl⟩
  rw [← egh87]
  have h88 : gh87 s1 = some (gI 0 960 (fun _ => 0)) := by rw [egh87, gset_ne (gne h80 h86 (by simp))]; exact h80
  have h89 : gh87 q7 = some (gO 5 [.ref s1]) := by rw [egh87, gset_ne (gne h81 h86 (by simp))]; exact h81
  have h90 : gh87 s2 = some (gI 0 960 (fun _ => 0)) := by rw [egh87, gset_ne (gne h82 h86 (by simp))]; exact h82
  have h91 : gh87 q23 = some (gO 5 [.ref s2]) := by rw [egh87, gset_ne (gne h83 h86 (by simp))]; exact h83
  have h92 : gh87 q47 = some (gR 8 14 (fun _ => none)) := by rw [egh87, gset_ne (gne h84 h86 (by simp))]; exact h84
  have h93 : gh87 q62 = some (gR 8 14 (fun _ => none)) := by rw [egh87, gset_ne (gne h85 h86 (by simp))]; exact h85
  have h94 : gh87 sh = some (gO 7 [.ref q7, .ref q23, vi (a), vi (b), vi (c), .ref q47, vi (0), .ref q62, vi (0)]) := by rw [egh87]; exact gset_eq
  have ns : ∀ q, gh q = none → q ≠ sh := fun q hq e => by rw [e, hsh] at hq; cases hq
  have z_q7 : gh q7 = none := by
    have h9 := hnq7
    simp only [egh87, egh79, egh71, egh63, egh55, egh48, egh41, egh35, egh29, egh24, egh19, egh15, egh11, egh8, egh5, egh3, egh1] at h9
    unfold gset at h9
    (repeat' split at h9) <;> first | exact h9 | cases h9
  have z_s1 : gh s1 = none := by
    have h9 := hns1
    simp only [egh87, egh79, egh71, egh63, egh55, egh48, egh41, egh35, egh29, egh24, egh19, egh15, egh11, egh8, egh5, egh3, egh1] at h9
    unfold gset at h9
    (repeat' split at h9) <;> first | exact h9 | cases h9
  have z_q23 : gh q23 = none := by
    have h9 := hnq23
    simp only [egh87, egh79, egh71, egh63, egh55, egh48, egh41, egh35, egh29, egh24, egh19, egh15, egh11, egh8, egh5, egh3, egh1] at h9
    unfold gset at h9
    (repeat' split at h9) <;> first | exact h9 | cases h9
  have z_s2 : gh s2 = none := by
    have h9 := hns2
    simp only [egh87, egh79, egh71, egh63, egh55, egh48, egh41, egh35, egh29, egh24, egh19, egh15, egh11, egh8, egh5, egh3, egh1] at h9
    unfold gset at h9
    (repeat' split at h9) <;> first | exact h9 | cases h9
  have z_q47 : gh q47 = none := by
    have h9 := hnq47
    simp only [egh87, egh79, egh71, egh63, egh55, egh48, egh41, egh35, egh29, egh24, egh19, egh15, egh11, egh8, egh5, egh3, egh1] at h9
    unfold gset at h9
    (repeat' split at h9) <;> first | exact h9 | cases h9
  have z_q62 : gh q62 = none := by
    have h9 := hnq62
    simp only [egh87, egh79, egh71, egh63, egh55, egh48, egh41, egh35, egh29, egh24, egh19, egh15, egh11, egh8, egh5, egh3, egh1] at h9
    unfold gset at h9
    (repeat' split at h9) <;> first | exact h9 | cases h9
  refine g_vret hC hq dX3_init_69 (by decide) (by decide) ⟨rfl, s1, q7, s2, q23, q47, q62, z_s1, z_q7, z_s2, z_q23, z_q47, z_q62, ⟨ne_s1, ne_s2_s1, ne_q23_s1, ne_q47_s1, ne_q62_s1, ne_s2_q7, ne_q23_q7, ne_q47_q7, ne_q62_q7, ne_s2, ne_q47_s2, ne_q62_s2, ne_q47_q23, ne_q62_q23, ne_q62_q47⟩, ?_⟩
  funext y
  simp only [egh87, egh79, egh71, egh63, egh55, egh48, egh41, egh35, egh29, egh24, egh19, egh15, egh11, egh8, egh5, egh3, egh1]
  unfold gset
  by_cases h1 : y = sh
  · simp only [if_pos h1]
  · simp only [if_neg h1]
    by_cases h2 : y = q62
    · simp only [if_pos h2]
    · simp only [if_neg h2]
      by_cases h3 : y = q47
      · simp only [if_pos h3]
      · simp only [if_neg h3]
        by_cases h4 : y = q23
        · simp only [if_pos h4]
        · simp only [if_neg h4]
          by_cases h5 : y = s2
          · simp only [if_pos h5]
          · simp only [if_neg h5]
            by_cases h6 : y = q7
            · simp only [if_pos h6]
            · simp only [if_neg h6]

end C19
