/-! the JDK's members that the class reaches: String, StringBuilder (letters of 7 bits alone) -/
theorem catQ (v : Option Nat) : (va_rf v).category = 1 := by cases v <;> rfl
theorem g_min {x : gX} {l : Launch} {D : gD} {base nL : Nat} {own : String} {cc : ByteArray} {rm : Room} {pc : Nat} {lv : List (Option Value)} {st : List Value} {gh : gH} {cells slots : Nat} (hC : gK x l D base nL own cc rm) {idx : Nat} {a b : Int} (w : Cond.methodLink own idx Lib.Math.min.name ∈ gwA ∧ Cond.static Lib.Math.min.name ∈ gwA ∧ Cond.initialized "java/lang/Math" ∈ gwA ∧ Cond.code Lib.Math.min.name Lib.Math.min.code 2 (some .int) ∈ gwA) (hf : 1 ≤ rm.frames) (hlo : (st.map fun v => v.category).sum + 13 ≤ rm.locals) (hc1 : cells ≤ rm.cells) (hs1 : slots ≤ rm.slots)
    (ha : -2147483648 ≤ a ∧ a < 2147483648) (hb' : -2147483648 ≤ b ∧ b < 2147483648) (hd : decode cc pc = .ok (.invokestatic idx, 3)) (kk : gV x D base nL (pc + 3) lv (vi (min a b) :: st) gh cells slots) : gV x D base nL pc lv (vi b :: vi a :: st) gh cells slots := by
  obtain ⟨p, l', e, R, s, m, args, below, meth, c, Q⟩ := x
  obtain ⟨hx, hb, hml, hown, hts, hE, hlocks, hR, hl', htr⟩ := hC
  subst hl'
  subst hR
  intro H locs ls hG hS hl
  refine va_mmin hx hb (hml.trans hl.1.symm) hown (hts _ w.1) (hts _ w.2.1) (hts _ w.2.2.1) (hts _ w.2.2.2) hf hlo hc1 hs1 hd ?_
  have e0 : (if iI b < iI a then iI b else iI a) = iI (min a b) := by
    by_cases h : b < a
    · rw [if_pos ((iI_lt hb' ha).mpr h), Int.min_eq_right (by omega)]
    · rw [if_neg (fun z => h ((iI_lt hb' ha).mp z)), Int.min_eq_left (by omega)]
  rw [e0]
  exact kk H locs ls hG hS hl
theorem gset_comm {gh : gH} {a b : Nat} {c d : gC} (h : a ≠ b) : gset (gset gh a c) b d = gset (gset gh b d) a c := by
  funext q
  unfold gset
  by_cases h1 : q = a
  · rw [h1, if_neg h, if_pos rfl]; simp
  · rw [if_neg h1]; simp [h1]
section C1
set_option maxHeartbeats 4000000 in
set_option maxRecDepth 100000 in
theorem kJ0_coder {l : Launch} (hl : l.stackTraces = false) {D : gD} {base : Nat}  {a b : Nat} {h0 z0 : Value} (gh : gH) (hs : gh a = some (gO 0 [.ref b, vi (0), (h0), (z0)]))  : gM l D base yJ0_coder_7d493 cJ0_coder_7d493 1 (some Jvm.ClassFile.FieldType.byte) 0 0 0 0 [.ref a] gh (fun r gh' => r = some (vi 0) ∧ gh' = gh) gNo := by
  refine gM.of hl (by decide) (by simp [Value.category]) (Nat.le_of_ble_eq_true rfl) [some (.ref a)] rfl (fun x hC hq => ?_)
  refine g_compact hC dJ0_coder_7d493_0 gw_RJ0_38 ?_
  refine g_if_eq (tgt := 13) hC dJ0_coder_7d493_3 (by decide) (by omega) (fun c_3 => False.elim (by revert c_3; decide)) (fun c_3 => ?_)
  refine g_ald_n hC dJ0_coder_7d493_6 rfl ?_
  refine g_get hC dJ0_coder_7d493_7 gf_RJ0_15 hs rfl ?_
  refine g_goto (tgt := 14) hC dJ0_coder_7d493_10 (by decide) ?_
  exact g_zret hC hq rfl dJ0_coder_7d493_14 (by decide) (by decide) ⟨rfl, rfl⟩

set_option maxHeartbeats 4000000 in
set_option maxRecDepth 100000 in
theorem kJ0_isLatin1 {l : Launch} (hl : l.stackTraces = false) {D : gD} {base : Nat}  {a b : Nat} {h0 z0 : Value} (gh : gH) (hs : gh a = some (gO 0 [.ref b, vi (0), (h0), (z0)]))  : gM l D base yJ0_isLatin1_aae02 cJ0_isLatin1_aae02 1 (some Jvm.ClassFile.FieldType.boolean) 0 0 0 0 [.ref a] gh (fun r gh' => r = some (vi (b2i true)) ∧ gh' = gh) gNo := by
  refine gM.of hl (by decide) (by simp [Value.category]) (Nat.le_of_ble_eq_true rfl) [some (.ref a)] rfl (fun x hC hq => ?_)
  refine g_compact hC dJ0_isLatin1_aae02_0 gw_RJ0_38 ?_
  refine g_if_eq (tgt := 17) hC dJ0_isLatin1_aae02_3 (by decide) (by omega) (fun c_3 => False.elim (by revert c_3; decide)) (fun c_3 => ?_)
  refine g_ald_n hC dJ0_isLatin1_aae02_6 rfl ?_
  refine g_get hC dJ0_isLatin1_aae02_7 gf_RJ0_15 hs rfl ?_
  refine g_if_ne (tgt := 17) hC dJ0_isLatin1_aae02_10 (by decide) (by omega) (fun c_10 => False.elim (by revert c_10; decide)) (fun c_10 => ?_)
  refine g_iconst hC dJ0_isLatin1_aae02_13 rfl ?_
  refine g_goto (tgt := 18) hC dJ0_isLatin1_aae02_14 (by decide) ?_
  refine g_top (b := b2i true) rfl ?_
  exact g_bret hC hq dJ0_isLatin1_aae02_18 (by decide) (by decide) ⟨rfl, rfl⟩

set_option maxHeartbeats 4000000 in
set_option maxRecDepth 100000 in
theorem kJ0_length {l : Launch} (hl : l.stackTraces = false) {D : gD} {base : Nat}  {a b : Nat} {h0 z0 : Value} {n : Nat} {P : Nat → Int} (gh : gH) (hs : gh a = some (gO 0 [.ref b, vi (0), (h0), (z0)])) (hb : gh b = some (gI 2 n (P)))  : gM l D base yJ0_length_8abf5 cJ0_length_8abf5 1 (some Jvm.ClassFile.FieldType.int) 1 20 0 0 [.ref a] gh (fun r gh' => r = some (vi (n : Int)) ∧ gh' = gh) gNo := by
  refine gM.of hl (by decide) (by simp [Value.category]) (Nat.le_of_ble_eq_true rfl) [some (.ref a)] rfl (fun x hC hq => ?_)
  refine g_ald_n hC dJ0_length_8abf5_0 rfl ?_
  refine g_get hC dJ0_length_8abf5_1 gf_RJ0_9 hs rfl ?_
  refine g_alenI hC dJ0_length_8abf5_4 hb (by decide) ?_
  refine g_ald_n hC dJ0_length_8abf5_5 rfl ?_
  refine g_callV (rest := [vi ((n : Nat))]) hC (kJ0_coder hl  gh hs) gc_RJ0_335 rfl hs rfl ⟨by decide, by decide⟩ ⟨by decide, by decide⟩ (Nat.le_of_ble_eq_true rfl) rfl dJ0_length_8abf5_6 (fun r gh' hp => ?_)
  obtain ⟨rfl, hgh⟩ := hp
  rw [hgh]
  clear hgh
  refine gV.eqs (st' := [vi (0), vi ((n : Nat))]) rfl rfl rfl ?_
  refine g_ishr0 hC dJ0_length_8abf5_9 ?_
  exact g_iret hC hq dJ0_length_8abf5_10 (by decide) (by decide) ⟨rfl, rfl⟩

set_option maxHeartbeats 4000000 in
set_option maxRecDepth 100000 in
theorem kJ3_checkIndex {l : Launch} (hl : l.stackTraces = false) {D : gD} {base : Nat}  {i n : Int} (hi : 0 ≤ i ∧ i < n) (hn : n < 2147483648) (v : Option Nat) (gh : gH)   : gM l D base yJ3_checkIndex_8e157 cJ3_checkIndex_8e157 3 (some Jvm.ClassFile.FieldType.int) 0 0 0 0 [vi (i), vi (n), va_rf (v)] gh (fun r gh' => r = some (vi i) ∧ gh' = gh) gNo := by
  refine gM.of hl (by decide) (by intro w hw; simp only [List.mem_cons, List.not_mem_nil, or_false] at hw; rcases hw with rfl | rfl | rfl <;> first | rfl | exact catQ _) (Nat.le_of_ble_eq_true rfl) [some (vi (i)), some (vi (n)), some (va_rf (v))] rfl (fun x hC hq => ?_)
  refine g_iload_n hC dJ3_checkIndex_8e157_0 rfl ?_
  refine g_if_lt (tgt := 9) hC dJ3_checkIndex_8e157_1 (by decide) (by omega) (fun c_1 => False.elim (by omega)) (fun c_1 => ?_)
  refine g_iload_n hC dJ3_checkIndex_8e157_4 rfl ?_
  refine g_iload_n hC dJ3_checkIndex_8e157_5 rfl ?_
  refine g_icmp_lt (tgt := 16) hC dJ3_checkIndex_8e157_6 (by decide) (by omega) (by omega) (fun c_6 => ?_) (fun c_6 => False.elim (by omega))
  refine g_iload_n hC dJ3_checkIndex_8e157_16 rfl ?_
  exact g_iret hC hq dJ3_checkIndex_8e157_17 (by decide) (by decide) ⟨rfl, rfl⟩

set_option maxHeartbeats 4000000 in
set_option maxRecDepth 100000 in
theorem kJ0_checkIndex {l : Launch} (hl : l.stackTraces = false) {D : gD} {base : Nat}  {i n : Int} (hi : 0 ≤ i ∧ i < n) (hn : n < 2147483648) (gh : gH)   : gM l D base yJ0_checkIndex_df160 cJ0_checkIndex_df160 2 none 1 22 0 0 [vi (i), vi (n)] gh (fun r gh' => r = none ∧ gh' = gh) gNo := by
  refine gM.of hl (by decide) (by simp [Value.category]) (Nat.le_of_ble_eq_true rfl) [some (vi (i)), some (vi (n))] rfl (fun x hC hq => ?_)
  refine g_iload_n hC dJ0_checkIndex_df160_0 rfl ?_
  refine g_iload_n hC dJ0_checkIndex_df160_1 rfl ?_
  refine g_sioobe hC dJ0_checkIndex_df160_2 gw_RJ0_1053 (fun v1 => ?_)
  refine g_callS (rest := []) hC (kJ3_checkIndex hl hi hn v1 gh ) gc_RJ0_1059 rfl ⟨by decide, by decide⟩ ⟨by decide, by decide⟩ (Nat.le_of_ble_eq_true rfl) rfl dJ0_checkIndex_df160_5 (fun r gh' hp => ?_)
  obtain ⟨rfl, hgh⟩ := hp
  rw [hgh]
  clear hgh
  refine gV.eqs (st' := [vi (i)]) rfl rfl rfl ?_
  refine g_pop hC dJ0_checkIndex_df160_8 rfl ?_
  exact g_vret hC hq dJ0_checkIndex_df160_9 (by decide) (by decide) ⟨rfl, rfl⟩

set_option maxHeartbeats 4000000 in
set_option maxRecDepth 100000 in
theorem kJ1_charAt {l : Launch} (hl : l.stackTraces = false) {D : gD} {base : Nat}  {b : Nat} {n : Nat} {P : Nat → Int} (i : Nat) (hi : i < n) (hn : n < 2147483648) (hP : 0 ≤ P i ∧ P i < 128) (gh : gH) (hb : gh b = some (gI 2 n (P)))  : gM l D base yJ1_charAt_3b067 cJ1_charAt_3b067 2 (some Jvm.ClassFile.FieldType.char) 2 43 0 0 [.ref b, vi ((i : Int))] gh (fun r gh' => r = some (vi (P i)) ∧ gh' = gh) gNo := by
  refine gM.of hl (by decide) (by simp [Value.category]) (Nat.le_of_ble_eq_true rfl) [some (.ref b), some (vi ((i : Int)))] rfl (fun x hC hq => ?_)
  refine g_iload_n hC dJ1_charAt_3b067_0 rfl ?_
  refine g_ald_n hC dJ1_charAt_3b067_1 rfl ?_
  refine g_alenI hC dJ1_charAt_3b067_2 hb (by decide) ?_
  refine g_callS (rest := []) hC (kJ0_checkIndex hl (by omega) (by omega) gh ) gc_RJ1_9 rfl ⟨by decide, by decide⟩ ⟨by decide, by decide⟩ (Nat.le_of_ble_eq_true rfl) rfl dJ1_charAt_3b067_3 (fun r gh' hp => ?_)
  obtain ⟨rfl, hgh⟩ := hp
  rw [hgh]
  clear hgh
  refine gV.eqs (st' := []) rfl rfl rfl ?_
  refine g_ald_n hC dJ1_charAt_3b067_6 rfl ?_
  refine g_iload_n hC dJ1_charAt_3b067_7 rfl ?_
  refine g_baldK hC (i) dJ1_charAt_3b067_8 hb (by omega) (by omega) (by omega) ?_
  refine g_sipush (z := 255) hC dJ1_charAt_3b067_9 rfl ?_
  refine g_iandR (c0 := P (i)) hC dJ1_charAt_3b067_12 (iI_and255 (by omega) (by omega)) ?_
  refine g_i2c (b := P (i)) hC dJ1_charAt_3b067_13 (iI_i2c (by omega) (by omega)) ?_
  exact g_cret hC hq (by omega) dJ1_charAt_3b067_14 (by decide) (by decide) ⟨rfl, rfl⟩

set_option maxHeartbeats 4000000 in
set_option maxRecDepth 100000 in
theorem kJ0_charAt {l : Launch} (hl : l.stackTraces = false) {D : gD} {base : Nat}  {a b : Nat} {h0 z0 : Value} {n : Nat} {P : Nat → Int} (i : Nat) (hi : i < n) (hn : n < 2147483648) (hP : 0 ≤ P i ∧ P i < 128) (gh : gH) (hs : gh a = some (gO 0 [.ref b, vi (0), (h0), (z0)])) (hb : gh b = some (gI 2 n (P)))  : gM l D base yJ0_charAt_5068e cJ0_charAt_5068e 2 (some Jvm.ClassFile.FieldType.char) 3 64 0 0 [.ref a, vi ((i : Int))] gh (fun r gh' => r = some (vi (P i)) ∧ gh' = gh) gNo := by
  refine gM.of hl (by decide) (by simp [Value.category]) (Nat.le_of_ble_eq_true rfl) [some (.ref a), some (vi ((i : Int)))] rfl (fun x hC hq => ?_)
  refine g_ald_n hC dJ0_charAt_5068e_0 rfl ?_
  refine g_callV (rest := []) hC (kJ0_isLatin1 hl  gh hs) gc_RJ0_492 rfl hs rfl ⟨by decide, by decide⟩ ⟨by decide, by decide⟩ (Nat.le_of_ble_eq_true rfl) rfl dJ0_charAt_5068e_1 (fun r gh' hp => ?_)
  obtain ⟨rfl, hgh⟩ := hp
  rw [hgh]
  clear hgh
  refine gV.eqs (st' := [vi (b2i (true))]) rfl rfl rfl ?_
  refine g_ifeq_b (tgt := 16) hC dJ0_charAt_5068e_4 (by decide)  (fun c_4 => False.elim (by cases c_4)) (fun c_4 => ?_)
  refine g_ald_n hC dJ0_charAt_5068e_7 rfl ?_
  refine g_get hC dJ0_charAt_5068e_8 gf_RJ0_9 hs rfl ?_
  refine g_iload_n hC dJ0_charAt_5068e_11 rfl ?_
  refine g_callS (rest := []) hC (kJ1_charAt hl i hi hn hP gh hb) gc_RJ0_495 rfl ⟨by decide, by decide⟩ ⟨by decide, by decide⟩ (Nat.le_of_ble_eq_true rfl) rfl dJ0_charAt_5068e_12 (fun r gh' hp => ?_)
  obtain ⟨rfl, hgh⟩ := hp
  rw [hgh]
  clear hgh
  refine gV.eqs (st' := [vi (P i)]) rfl rfl rfl ?_
  exact g_cret hC hq (by omega) dJ0_charAt_5068e_15 (by decide) (by decide) ⟨rfl, rfl⟩

set_option maxHeartbeats 4000000 in
set_option maxRecDepth 100000 in
theorem kJ5_length {l : Launch} (hl : l.stackTraces = false) {D : gD} {base : Nat}  {a b : Nat} {ml n : Int} (gh : gH) (hs : gh a = some (gO 1 [.ref b, vi (0), vi (ml), vi (n)]))  : gM l D base yJ5_length_8abf5 cJ5_length_8abf5 1 (some Jvm.ClassFile.FieldType.int) 0 0 0 0 [.ref a] gh (fun r gh' => r = some (vi n) ∧ gh' = gh) gNo := by
  refine gM.of hl (by decide) (by simp [Value.category]) (Nat.le_of_ble_eq_true rfl) [some (.ref a)] rfl (fun x hC hq => ?_)
  refine g_ald_n hC dJ5_length_8abf5_0 rfl ?_
  refine g_get hC dJ5_length_8abf5_1 gf_RJ5_79 hs rfl ?_
  exact g_iret hC hq dJ5_length_8abf5_4 (by decide) (by decide) ⟨rfl, rfl⟩

set_option maxHeartbeats 4000000 in
set_option maxRecDepth 100000 in
theorem kJ5_getValue {l : Launch} (hl : l.stackTraces = false) {D : gD} {base : Nat}  {a b : Nat} {ml n : Int} (gh : gH) (hs : gh a = some (gO 1 [.ref b, vi (0), vi (ml), vi (n)]))  : gM l D base yJ5_getValue_6d5f1 cJ5_getValue_6d5f1 1 (some (Jvm.ClassFile.FieldType.array Jvm.ClassFile.FieldType.byte)) 0 0 0 0 [.ref a] gh (fun r gh' => r = some (.ref b) ∧ gh' = gh) gNo := by
  refine gM.of hl (by decide) (by simp [Value.category]) (Nat.le_of_ble_eq_true rfl) [some (.ref a)] rfl (fun x hC hq => ?_)
  refine g_ald_n hC dJ5_getValue_6d5f1_0 rfl ?_
  refine g_get hC dJ5_getValue_6d5f1_1 gf_RJ5_15 hs rfl ?_
  exact g_aret (v := some b) hC hq (Or.inr ⟨_, rfl⟩) dJ5_getValue_6d5f1_4 (by decide) (by decide) ⟨rfl, rfl⟩

set_option maxHeartbeats 4000000 in
set_option maxRecDepth 100000 in
theorem kJ5_isLatin1 {l : Launch} (hl : l.stackTraces = false) {D : gD} {base : Nat}  {a b : Nat} {ml n : Int} (gh : gH) (hs : gh a = some (gO 1 [.ref b, vi (0), vi (ml), vi (n)]))  : gM l D base yJ5_isLatin1_aae02 cJ5_isLatin1_aae02 1 (some Jvm.ClassFile.FieldType.boolean) 0 0 0 0 [.ref a] gh (fun r gh' => r = some (vi (b2i true)) ∧ gh' = gh) gNo := by
  refine gM.of hl (by decide) (by simp [Value.category]) (Nat.le_of_ble_eq_true rfl) [some (.ref a)] rfl (fun x hC hq => ?_)
  refine g_compact hC dJ5_isLatin1_aae02_0 gw_RJ5_18 ?_
  refine g_if_eq (tgt := 17) hC dJ5_isLatin1_aae02_3 (by decide) (by omega) (fun c_3 => False.elim (by revert c_3; decide)) (fun c_3 => ?_)
  refine g_ald_n hC dJ5_isLatin1_aae02_6 rfl ?_
  refine g_get hC dJ5_isLatin1_aae02_7 gf_RJ5_22 hs rfl ?_
  refine g_if_ne (tgt := 17) hC dJ5_isLatin1_aae02_10 (by decide) (by omega) (fun c_10 => False.elim (by revert c_10; decide)) (fun c_10 => ?_)
  refine g_iconst hC dJ5_isLatin1_aae02_13 rfl ?_
  refine g_goto (tgt := 18) hC dJ5_isLatin1_aae02_14 (by decide) ?_
  refine g_top (b := b2i true) rfl ?_
  exact g_bret hC hq dJ5_isLatin1_aae02_18 (by decide) (by decide) ⟨rfl, rfl⟩

set_option maxHeartbeats 4000000 in
set_option maxRecDepth 100000 in
theorem kJ4_length {l : Launch} (hl : l.stackTraces = false) {D : gD} {base : Nat}  {a b : Nat} {ml n : Int} (gh : gH) (hs : gh a = some (gO 1 [.ref b, vi (0), vi (ml), vi (n)]))  : gM l D base yJ4_length_8abf5 cJ4_length_8abf5 1 (some Jvm.ClassFile.FieldType.int) 1 20 0 0 [.ref a] gh (fun r gh' => r = some (vi n) ∧ gh' = gh) gNo := by
  refine gM.of hl (by decide) (by simp [Value.category]) (Nat.le_of_ble_eq_true rfl) [some (.ref a)] rfl (fun x hC hq => ?_)
  refine g_ald_n hC dJ4_length_8abf5_0 rfl ?_
  refine g_callSU (q := (RJ4, TJ4, 4)) (rest := []) hC (kJ5_length hl  gh hs) gc_RJ4_343 rfl hs rfl ⟨by decide, by decide⟩ ⟨by decide, by decide⟩ (Nat.le_of_ble_eq_true rfl) rfl dJ4_length_8abf5_1 (fun r gh' hp => ?_)
  obtain ⟨rfl, hgh⟩ := hp
  rw [hgh]
  clear hgh
  refine gV.eqs (st' := [vi (n)]) rfl rfl rfl ?_
  exact g_iret hC hq dJ4_length_8abf5_4 (by decide) (by decide) ⟨rfl, rfl⟩

set_option maxHeartbeats 4000000 in
set_option maxRecDepth 100000 in
theorem kJ5_ensure {l : Launch} (hl : l.stackTraces = false) {D : gD} {base : Nat}  {a b : Nat} {ml n : Int} {P : Nat → Int} {k : Int} (hk : 0 ≤ k ∧ k ≤ 16) (gh : gH) (hs : gh a = some (gO 1 [.ref b, vi (0), vi (ml), vi (n)])) (hb : gh b = some (gI 2 16 (P)))  : gM l D base yJ5_ensureCapacityInternal_d00df cJ5_ensureCapacityInternal_d00df 3 none 0 0 0 0 [.ref a, vi (k)] gh (fun r gh' => r = none ∧ gh' = gh) gNo := by
  refine gM.of hl (by decide) (by simp [Value.category]) (Nat.le_of_ble_eq_true rfl) [some (.ref a), some (vi (k)), none] rfl (fun x hC hq => ?_)
  refine g_ald_n hC dJ5_ensureCapacityInternal_d00df_0 rfl ?_
  refine g_get hC dJ5_ensureCapacityInternal_d00df_1 gf_RJ5_15 hs rfl ?_
  refine g_alenI hC dJ5_ensureCapacityInternal_d00df_4 hb (by decide) ?_
  refine g_top (b := 16) rfl ?_
  refine g_ald_n hC dJ5_ensureCapacityInternal_d00df_5 rfl ?_
  refine g_get hC dJ5_ensureCapacityInternal_d00df_6 gf_RJ5_22 hs rfl ?_
  refine g_ishr0 hC dJ5_ensureCapacityInternal_d00df_9 ?_
  refine g_istore_n (lv' := [some (.ref a), some (vi (k)), some (vi (16))]) hC dJ5_ensureCapacityInternal_d00df_10 (by decide) rfl ?_
  refine g_iload_n hC dJ5_ensureCapacityInternal_d00df_11 rfl ?_
  refine g_iload_n hC dJ5_ensureCapacityInternal_d00df_12 rfl ?_
  refine g_isub hC dJ5_ensureCapacityInternal_d00df_13 ?_
  refine g_if_le (tgt := 38) hC dJ5_ensureCapacityInternal_d00df_14 (by decide) (by omega) (fun c_14 => ?_) (fun c_14 => False.elim (by omega))
  exact g_vret hC hq dJ5_ensureCapacityInternal_d00df_38 (by decide) (by decide) ⟨rfl, rfl⟩

set_option maxHeartbeats 4000000 in
set_option maxRecDepth 100000 in
theorem kJ1_canEncode {l : Launch} (hl : l.stackTraces = false) {D : gD} {base : Nat}  {c : Int} (hc : 0 ≤ c ∧ c < 128) (gh : gH)   : gM l D base yJ1_canEncode_fc78d cJ1_canEncode_fc78d 1 (some Jvm.ClassFile.FieldType.boolean) 0 0 0 0 [vi (c)] gh (fun r gh' => r = some (vi (b2i true)) ∧ gh' = gh) gNo := by
  refine gM.of hl (by decide) (by simp [Value.category]) (Nat.le_of_ble_eq_true rfl) [some (vi (c))] rfl (fun x hC hq => ?_)
  refine g_iload_n hC dJ1_canEncode_fc78d_0 rfl ?_
  refine g_sipush (z := 255) hC dJ1_canEncode_fc78d_1 rfl ?_
  refine g_icmp_gt (tgt := 11) hC dJ1_canEncode_fc78d_4 (by decide) (by omega) (by omega) (fun c_4 => False.elim (by omega)) (fun c_4 => ?_)
  refine g_iconst hC dJ1_canEncode_fc78d_7 rfl ?_
  refine g_goto (tgt := 12) hC dJ1_canEncode_fc78d_8 (by decide) ?_
  refine g_top (b := b2i true) rfl ?_
  exact g_bret hC hq dJ1_canEncode_fc78d_12 (by decide) (by decide) ⟨rfl, rfl⟩

set_option maxHeartbeats 4000000 in
set_option maxRecDepth 100000 in
theorem kJ5_append {l : Launch} (hl : l.stackTraces = false) {D : gD} {base : Nat}  {a b : Nat} {ml : Int} {P : Nat → Int} {c : Int} (hc : 0 ≤ c ∧ c < 128) {k : Nat} (hk : k < 16) (gh : gH) (hs : gh a = some (gO 1 [.ref b, vi (0), vi (ml), vi ((k : Int))])) (hb : gh b = some (gI 2 16 (P)))  : gM l D base yJ5_append_3fe6f cJ5_append_3fe6f 2 (some (Jvm.ClassFile.FieldType.object "java/lang/AbstractStringBuilder")) 1 22 0 0 [.ref a, vi (c)] gh (fun r gh' => r = some (.ref a) ∧ gh' = gset (gset gh a (gO 1 [.ref b, vi 0, vi ml, vi ((k : Int) + 1)])) b (gI 2 16 (gup P k c))) gNo := by
  refine gM.of hl (by decide) (by simp [Value.category]) (Nat.le_of_ble_eq_true rfl) [some (.ref a), some (vi (c))] rfl (fun x hC hq => ?_)
  refine g_ald_n hC dJ5_append_3fe6f_0 rfl ?_
  refine g_ald_n hC dJ5_append_3fe6f_1 rfl ?_
  refine g_get hC dJ5_append_3fe6f_2 gf_RJ5_79 hs rfl ?_
  refine g_iconst hC dJ5_append_3fe6f_5 rfl ?_
  refine g_iadd hC dJ5_append_3fe6f_6 ?_
  refine g_callU (q := (RJ4, TJ4, 4)) (rest := []) hC (kJ5_ensure hl (by omega) gh hs hb) gc_RJ5_100 rfl hs rfl ⟨by decide, by decide⟩ ⟨by decide, by decide⟩ (Nat.le_of_ble_eq_true rfl) rfl dJ5_append_3fe6f_7 (fun r gh' hp => ?_)
  obtain ⟨rfl, hgh⟩ := hp
  rw [hgh]
  clear hgh
  refine gV.eqs (st' := []) rfl rfl rfl ?_
  refine g_ald_n hC dJ5_append_3fe6f_10 rfl ?_
  refine g_callU (q := (RJ4, TJ4, 4)) (rest := []) hC (kJ5_isLatin1 hl  gh hs) gc_RJ5_83 rfl hs rfl ⟨by decide, by decide⟩ ⟨by decide, by decide⟩ (Nat.le_of_ble_eq_true rfl) rfl dJ5_append_3fe6f_11 (fun r gh' hp => ?_)
  obtain ⟨rfl, hgh⟩ := hp
  rw [hgh]
  clear hgh
  refine gV.eqs (st' := [vi (b2i (true))]) rfl rfl rfl ?_
  refine g_ifeq_b (tgt := 45) hC dJ5_append_3fe6f_14 (by decide)  (fun c_14 => False.elim (by cases c_14)) (fun c_14 => ?_)
  refine g_iload_n hC dJ5_append_3fe6f_17 rfl ?_
  refine g_callS (rest := []) hC (kJ1_canEncode hl hc gh ) gc_RJ5_191 rfl ⟨by decide, by decide⟩ ⟨by decide, by decide⟩ (Nat.le_of_ble_eq_true rfl) rfl dJ5_append_3fe6f_18 (fun r gh' hp => ?_)
  obtain ⟨rfl, hgh⟩ := hp
  rw [hgh]
  clear hgh
  refine gV.eqs (st' := [vi (b2i (true))]) rfl rfl rfl ?_
  refine g_ifeq_b (tgt := 45) hC dJ5_append_3fe6f_21 (by decide)  (fun c_21 => False.elim (by cases c_21)) (fun c_21 => ?_)
  refine g_ald_n hC dJ5_append_3fe6f_24 rfl ?_
  refine g_get hC dJ5_append_3fe6f_25 gf_RJ5_15 hs rfl ?_
  refine g_ald_n hC dJ5_append_3fe6f_28 rfl ?_
  refine g_dup hC dJ5_append_3fe6f_29 rfl ?_
  refine g_get hC dJ5_append_3fe6f_30 gf_RJ5_79 hs rfl ?_
  refine g_dup_x1 hC dJ5_append_3fe6f_33 rfl rfl ?_
  refine g_iconst hC dJ5_append_3fe6f_34 rfl ?_
  refine g_iadd hC dJ5_append_3fe6f_35 ?_
  refine g_put hC (fs' := [.ref b, vi (0), vi (ml), vi (((k : Int)) + (1))]) dJ5_append_3fe6f_36 gp_RJ5_79 hs ⟨rfl, rfl⟩ rfl (Nat.le_of_ble_eq_true rfl) ?_
  obtain ⟨gh1, egh1⟩ : ∃ g, g = gset gh a (gO 1 [.ref b, vi (0), vi (ml), vi (((k : Int)) + (1))]) := ⟨_, rfl⟩
  rw [← egh1]
  have h2 : gh1 b = some (gI 2 16 (P)) := by rw [egh1, gset_ne (gne hb hs (by simp))]; exact hb
  have h3 : gh1 a = some (gO 1 [.ref b, vi (0), vi (ml), vi (((k : Int)) + (1))]) := by rw [egh1]; exact gset_eq
  refine g_iload_n hC dJ5_append_3fe6f_39 rfl ?_
  refine g_i2b hC dJ5_append_3fe6f_40 (by omega) ?_
  refine g_bastK hC (k) dJ5_append_3fe6f_41 h2 (by omega) (by omega) (by omega) (by omega) ?_
  obtain ⟨gh4, egh4⟩ : ∃ g, g = gset gh1 b (gI 2 16 (gup (P) (k) (c))) := ⟨_, rfl⟩
  rw [← egh4]
  have h5 : gh4 a = some (gO 1 [.ref b, vi (0), vi (ml), vi (((k : Int)) + (1))]) := by rw [egh4, gset_ne (gne h3 h2 (by simp))]; exact h3
  have h6 : gh4 b = some (gI 2 16 (gup (P) (k) (c))) := by rw [egh4]; exact gset_eq
  refine g_goto (tgt := 75) hC dJ5_append_3fe6f_42 (by decide) ?_
  refine g_ald_n hC dJ5_append_3fe6f_75 rfl ?_
  refine gV.eqs (gh' := gset (gset gh a (gO 1 [.ref b, vi 0, vi ml, vi ((k : Int) + 1)])) b (gI 2 16 (gup P k c))) rfl rfl (by rw [egh4, egh1]) ?_
  exact g_aret (v := some a) hC hq (Or.inl ⟨_, rfl⟩) dJ5_append_3fe6f_76 (by decide) (by decide) ⟨rfl, rfl⟩

set_option maxHeartbeats 4000000 in
set_option maxRecDepth 100000 in
theorem kJ4_append {l : Launch} (hl : l.stackTraces = false) {D : gD} {base : Nat}  {a b : Nat} {ml : Int} {P : Nat → Int} {c : Int} (hc : 0 ≤ c ∧ c < 128) {k : Nat} (hk : k < 16) (gh : gH) (hs : gh a = some (gO 1 [.ref b, vi (0), vi (ml), vi ((k : Int))])) (hb : gh b = some (gI 2 16 (P)))  : gM l D base yJ4_append_cf468 cJ4_append_cf468 2 (some (Jvm.ClassFile.FieldType.object "java/lang/StringBuilder")) 2 43 0 0 [.ref a, vi (c)] gh (fun r gh' => r = some (.ref a) ∧ gh' = gset (gset gh a (gO 1 [.ref b, vi 0, vi ml, vi ((k : Int) + 1)])) b (gI 2 16 (gup P k c))) gNo := by
  refine gM.of hl (by decide) (by simp [Value.category]) (Nat.le_of_ble_eq_true rfl) [some (.ref a), some (vi (c))] rfl (fun x hC hq => ?_)
  refine g_ald_n hC dJ4_append_cf468_0 rfl ?_
  refine g_iload_n hC dJ4_append_cf468_1 rfl ?_
  refine g_callSU (q := (RJ4, TJ4, 4)) (rest := []) hC (kJ5_append hl hc hk gh hs hb) gc_RJ4_50 rfl hs rfl ⟨by decide, by decide⟩ ⟨by decide, by decide⟩ (Nat.le_of_ble_eq_true rfl) rfl dJ4_append_cf468_2 (fun r gh' hp => ?_)
  obtain ⟨rfl, hgh⟩ := hp
  rw [hgh]
  clear hgh
  refine gV.eqs (st' := [.ref a]) rfl rfl rfl ?_
  refine g_pop hC dJ4_append_cf468_5 rfl ?_
  refine g_ald_n hC dJ4_append_cf468_6 rfl ?_
  exact g_aret (v := some a) hC hq (Or.inl ⟨_, rfl⟩) dJ4_append_cf468_7 (by decide) (by decide) ⟨rfl, rfl⟩

set_option maxHeartbeats 4000000 in
set_option maxRecDepth 100000 in
theorem kJ5_setLength {l : Launch} (hl : l.stackTraces = false) {D : gD} {base : Nat}  {a b : Nat} {ml n : Int} {P : Nat → Int} (hn : 0 ≤ n ∧ n ≤ 16) (gh : gH) (hs : gh a = some (gO 1 [.ref b, vi (0), vi (ml), vi (n)])) (hb : gh b = some (gI 2 16 (P)))  : gM l D base yJ5_setLength_d00df cJ5_setLength_d00df 2 none 1 22 0 0 [.ref a, vi (0)] gh (fun r gh' => r = none ∧ ∃ m2 : Int, gh' = gset gh a (gO 1 [.ref b, vi 0, vi m2, vi 0])) gNo := by
  refine gM.of hl (by decide) (by simp [Value.category]) (Nat.le_of_ble_eq_true rfl) [some (.ref a), some (vi (0))] rfl (fun x hC hq => ?_)
  refine g_iload_n hC dJ5_setLength_d00df_0 rfl ?_
  refine g_if_ge (tgt := 13) hC dJ5_setLength_d00df_1 (by decide) (by omega) (fun c_1 => ?_) (fun c_1 => False.elim (by revert c_1; decide))
  refine g_ald_n hC dJ5_setLength_d00df_13 rfl ?_
  refine g_iload_n hC dJ5_setLength_d00df_14 rfl ?_
  refine g_callU (q := (RJ4, TJ4, 4)) (rest := []) hC (kJ5_ensure hl (by omega) gh hs hb) gc_RJ5_100 rfl hs rfl ⟨by decide, by decide⟩ ⟨by decide, by decide⟩ (Nat.le_of_ble_eq_true rfl) rfl dJ5_setLength_d00df_15 (fun r gh' hp => ?_)
  obtain ⟨rfl, hgh⟩ := hp
  rw [hgh]
  clear hgh
  refine gV.eqs (st' := []) rfl rfl rfl ?_
  refine g_ald_n hC dJ5_setLength_d00df_18 rfl ?_
  refine g_get hC dJ5_setLength_d00df_19 gf_RJ5_79 hs rfl ?_
  refine g_iload_n hC dJ5_setLength_d00df_22 rfl ?_
  refine g_icmp_ge (tgt := 63) hC dJ5_setLength_d00df_23 (by decide) (by omega) (by omega) (fun c_23 => ?_) (fun c_23 => False.elim (by omega))
  refine g_ald_n hC dJ5_setLength_d00df_63 rfl ?_
  refine g_get hC dJ5_setLength_d00df_64 gf_RJ5_79 hs rfl ?_
  refine g_iload_n hC dJ5_setLength_d00df_67 rfl ?_
  refine g_icmp_le (tgt := 76) hC dJ5_setLength_d00df_68 (by decide) (by omega) (by omega) (fun c_68 => ?_) (fun c_68 => ?_)
  · refine g_ald_n hC dJ5_setLength_d00df_76 rfl ?_
    refine g_iload_n hC dJ5_setLength_d00df_77 rfl ?_
    refine g_put hC (fs' := [.ref b, vi (0), vi (ml), vi (0)]) dJ5_setLength_d00df_78 gp_RJ5_79 hs ⟨rfl, rfl⟩ rfl (Nat.le_of_ble_eq_true rfl) ?_
    obtain ⟨gh1, egh1⟩ : ∃ g, g = gset gh a (gO 1 [.ref b, vi (0), vi (ml), vi (0)]) := ⟨_, rfl⟩
    rw [← egh1]
    have h2 : gh1 b = some (gI 2 16 (P)) := by rw [egh1, gset_ne (gne hb hs (by simp))]; exact hb
    have h3 : gh1 a = some (gO 1 [.ref b, vi (0), vi (ml), vi (0)]) := by rw [egh1]; exact gset_eq
    exact g_vret hC hq dJ5_setLength_d00df_81 (by decide) (by decide) ⟨rfl, ml, by rw [egh1]⟩
  · refine g_ald_n hC dJ5_setLength_d00df_71 rfl ?_
    refine g_iconst hC dJ5_setLength_d00df_72 rfl ?_
    refine g_put hC (fs' := [.ref b, vi (0), vi (1), vi (n)]) dJ5_setLength_d00df_73 gp_RJ5_73 hs ⟨rfl, rfl⟩ rfl (Nat.le_of_ble_eq_true rfl) ?_
    obtain ⟨gh4, egh4⟩ : ∃ g, g = gset gh a (gO 1 [.ref b, vi (0), vi (1), vi (n)]) := ⟨_, rfl⟩
    rw [← egh4]
    have h5 : gh4 b = some (gI 2 16 (P)) := by rw [egh4, gset_ne (gne hb hs (by simp))]; exact hb
    have h6 : gh4 a = some (gO 1 [.ref b, vi (0), vi (1), vi (n)]) := by rw [egh4]; exact gset_eq
    refine g_ald_n hC dJ5_setLength_d00df_76 rfl ?_
    refine g_iload_n hC dJ5_setLength_d00df_77 rfl ?_
    refine g_put hC (fs' := [.ref b, vi (0), vi (1), vi (0)]) dJ5_setLength_d00df_78 gp_RJ5_79 h6 ⟨rfl, rfl⟩ rfl (Nat.le_of_ble_eq_true rfl) ?_
    obtain ⟨gh7, egh7⟩ : ∃ g, g = gset gh4 a (gO 1 [.ref b, vi (0), vi (1), vi (0)]) := ⟨_, rfl⟩
    rw [← egh7]
    have h8 : gh7 b = some (gI 2 16 (P)) := by rw [egh7, gset_ne (gne h5 h6 (by simp))]; exact h5
    have h9 : gh7 a = some (gO 1 [.ref b, vi (0), vi (1), vi (0)]) := by rw [egh7]; exact gset_eq
    exact g_vret hC hq dJ5_setLength_d00df_81 (by decide) (by decide) ⟨rfl, 1, by rw [egh7, egh4, gset_set]⟩

set_option maxHeartbeats 4000000 in
set_option maxRecDepth 100000 in
theorem kJ4_setLength {l : Launch} (hl : l.stackTraces = false) {D : gD} {base : Nat}  {a b : Nat} {ml n : Int} {P : Nat → Int} (hn : 0 ≤ n ∧ n ≤ 16) (gh : gH) (hs : gh a = some (gO 1 [.ref b, vi (0), vi (ml), vi (n)])) (hb : gh b = some (gI 2 16 (P)))  : gM l D base yJ4_setLength_d00df cJ4_setLength_d00df 2 none 2 43 0 0 [.ref a, vi (0)] gh (fun r gh' => r = none ∧ ∃ m2 : Int, gh' = gset gh a (gO 1 [.ref b, vi 0, vi m2, vi 0])) gNo := by
  refine gM.of hl (by decide) (by simp [Value.category]) (Nat.le_of_ble_eq_true rfl) [some (.ref a), some (vi (0))] rfl (fun x hC hq => ?_)
  refine g_ald_n hC dJ4_setLength_d00df_0 rfl ?_
  refine g_iload_n hC dJ4_setLength_d00df_1 rfl ?_
  refine g_callSU (q := (RJ4, TJ4, 4)) (rest := []) hC (kJ5_setLength hl hn gh hs hb) gc_RJ4_333 rfl hs rfl ⟨by decide, by decide⟩ ⟨by decide, by decide⟩ (Nat.le_of_ble_eq_true rfl) rfl dJ4_setLength_d00df_2 (fun r gh' hp => ?_)
  obtain ⟨rfl, m2, hgh⟩ := hp
  rw [hgh]
  refine gV.eqs (st' := []) rfl rfl rfl ?_
  exact g_vret hC hq dJ4_setLength_d00df_5 (by decide) (by decide) ⟨rfl, m2, rfl⟩

set_option maxHeartbeats 4000000 in
set_option maxRecDepth 100000 in
theorem kJ5_init {l : Launch} (hl : l.stackTraces = false) {D : gD} {base : Nat}  {a : Nat} (gh : gH) (hs : gh a = some (gO 1 [.null, vi (0), vi (0), vi (0)]))  : gM l D base yJ5_init_d00df cJ5_init_d00df 2 none 1 12 1 16 [.ref a, vi (16)] gh (fun r gh' => r = none ∧ ∃ q, gh q = none ∧ gh' = gset (gset gh q (gI 2 16 (fun _ => 0))) a (gO 1 [.ref q, vi 0, vi 0, vi 0])) gNo := by
  refine gM.of hl (by decide) (by simp [Value.category]) (Nat.le_of_ble_eq_true rfl) [some (.ref a), some (vi (16))] rfl (fun x hC hq => ?_)
  refine g_ald_n hC dJ5_init_d00df_0 rfl ?_
  refine g_objInit hC dJ5_init_d00df_1 go_RJ5 go_i go_c (by decide) (by decide) ?_
  refine g_compact hC dJ5_init_d00df_4 gw_RJ5_18 ?_
  refine g_if_eq (tgt := 25) hC dJ5_init_d00df_7 (by decide) (by omega) (fun c_7 => False.elim (by revert c_7; decide)) (fun c_7 => ?_)
  refine g_ald_n hC dJ5_init_d00df_10 rfl ?_
  refine g_iload_n hC dJ5_init_d00df_11 rfl ?_
  refine g_newB (n := 16) hC dJ5_init_d00df_12 ga_byte rfl (by decide) (by decide) (by decide) (fun q1 hnq1 => ?_)
  obtain ⟨gh2, egh2⟩ : ∃ g, g = gset gh q1 (gI 2 16 (fun _ => 0)) := ⟨_, rfl⟩
  rw [← egh2]
  have h3 : gh2 a = some (gO 1 [.null, vi (0), vi (0), vi (0)]) := by rw [egh2, gset_ne (fun z => by rw [z, hnq1] at hs; cases hs)]; exact hs
  have h4 : gh2 q1 = some (gI 2 16 (fun _ => 0)) := by rw [egh2]; exact gset_eq
  refine g_put hC (fs' := [.ref q1, vi (0), vi (0), vi (0)]) dJ5_init_d00df_14 gp_RJ5_15 h3 ⟨rfl, rfl⟩ rfl (Nat.le_of_ble_eq_true rfl) ?_
  obtain ⟨gh5, egh5⟩ : ∃ g, g = gset gh2 a (gO 1 [.ref q1, vi (0), vi (0), vi (0)]) := ⟨_, rfl⟩
  rw [← egh5]
  have h6 : gh5 q1 = some (gI 2 16 (fun _ => 0)) := by rw [egh5, gset_ne (gne h4 h3 (by simp))]; exact h4
  have h7 : gh5 a = some (gO 1 [.ref q1, vi (0), vi (0), vi (0)]) := by rw [egh5]; exact gset_eq
  refine g_ald_n hC dJ5_init_d00df_17 rfl ?_
  refine g_iconst hC dJ5_init_d00df_18 rfl ?_
  refine g_put hC (fs' := [.ref q1, vi (0), vi (0), vi (0)]) dJ5_init_d00df_19 gp_RJ5_22 h7 ⟨rfl, rfl⟩ rfl (Nat.le_of_ble_eq_true rfl) ?_
  obtain ⟨gh8, egh8⟩ : ∃ g, g = gset gh5 a (gO 1 [.ref q1, vi (0), vi (0), vi (0)]) := ⟨_, rfl⟩
  rw [← egh8]
  have h9 : gh8 q1 = some (gI 2 16 (fun _ => 0)) := by rw [egh8, gset_ne (gne h6 h7 (by simp))]; exact h6
  have h10 : gh8 a = some (gO 1 [.ref q1, vi (0), vi (0), vi (0)]) := by rw [egh8]; exact gset_eq
  refine g_goto (tgt := 38) hC dJ5_init_d00df_22 (by decide) ?_
  exact g_vret hC hq dJ5_init_d00df_38 (by decide) (by decide) ⟨rfl, q1, hnq1, by rw [egh8, egh5, gset_set, egh2]⟩

set_option maxHeartbeats 4000000 in
set_option maxRecDepth 100000 in
theorem kJ4_init {l : Launch} (hl : l.stackTraces = false) {D : gD} {base : Nat}  {a : Nat} (gh : gH) (hs : gh a = some (gO 1 [.null, vi (0), vi (0), vi (0)]))  : gM l D base yJ4_init_da8c8 cJ4_init_da8c8 1 none 2 33 1 16 [.ref a] gh (fun r gh' => r = none ∧ ∃ q, gh q = none ∧ gh' = gset (gset gh q (gI 2 16 (fun _ => 0))) a (gO 1 [.ref q, vi 0, vi 0, vi 0])) gNo := by
  refine gM.of hl (by decide) (by simp [Value.category]) (Nat.le_of_ble_eq_true rfl) [some (.ref a)] rfl (fun x hC hq => ?_)
  refine g_ald_n hC dJ4_init_da8c8_0 rfl ?_
  refine g_bipush (z := 16) hC dJ4_init_da8c8_1 rfl ?_
  refine g_callI (rest := []) hC (kJ5_init hl  gh hs) gc_RJ4_1 rfl ⟨by decide, by decide⟩ ⟨by decide, by decide⟩ (Nat.le_of_ble_eq_true rfl) rfl dJ4_init_da8c8_3 (fun r gh' hp => ?_)
  obtain ⟨rfl, q, hq0, hgh⟩ := hp
  rw [hgh]
  refine gV.eqs (st' := []) rfl rfl rfl ?_
  exact g_vret hC hq dJ4_init_da8c8_6 (by decide) (by decide) ⟨rfl, q, hq0, rfl⟩

set_option maxHeartbeats 4000000 in
set_option maxRecDepth 100000 in
theorem kJ7_checkLength {l : Launch} (hl : l.stackTraces = false) {D : gD} {base : Nat}  {i j : Int} (h : 0 ≤ i ∧ i ≤ j ∧ j < 2147483648) (gh : gH)   : gM l D base yJ7_checkLength_df160 cJ7_checkLength_df160 2 none 0 0 0 0 [vi (i), vi (j)] gh (fun r gh' => r = none ∧ gh' = gh) gNo := by
  refine gM.of hl (by decide) (by simp [Value.category]) (Nat.le_of_ble_eq_true rfl) [some (vi (i)), some (vi (j))] rfl (fun x hC hq => ?_)
  refine g_iload_n hC dJ7_checkLength_df160_0 rfl ?_
  refine g_iload_n hC dJ7_checkLength_df160_1 rfl ?_
  refine g_icmp_ge (tgt := 37) hC dJ7_checkLength_df160_2 (by decide) (by omega) (by omega) (fun c_2 => ?_) (fun c_2 => False.elim (by omega))
  exact g_vret hC hq dJ7_checkLength_df160_37 (by decide) (by decide) ⟨rfl, rfl⟩

set_option maxHeartbeats 4000000 in
set_option maxRecDepth 100000 in
theorem kJ7_copyOfRangeByte {l : Launch} (hl : l.stackTraces = false) {D : gD} {base : Nat}  {b : Nat} {P : Nat → Int} {k : Nat} (hk : k < 16) (hP : ∀ i, i < k → 0 ≤ P i ∧ P i < 128) (gh : gH) (hb : gh b = some (gI 2 16 (P)))  : gM l D base yJ7_copyOfRangeByte_39247 cJ7_copyOfRangeByte_39247 5 (some (Jvm.ClassFile.FieldType.array Jvm.ClassFile.FieldType.byte)) 1 80 1 16 [.ref b, vi (0), vi ((k : Int))] gh (fun r gh' => ∃ q, gh q = none ∧ r = some (.ref q) ∧ ∃ Pq : Nat → Int, (∀ i, i < k → Pq i = P i) ∧ gh' = gset gh q (gI 2 k Pq)) gNo := by
  refine gM.of hl (by decide) (by simp [Value.category]) (Nat.le_of_ble_eq_true rfl) [some (.ref b), some (vi (0)), some (vi ((k : Int))), none, none] rfl (fun x hC hq => ?_)
  refine g_iload_n hC dJ7_copyOfRangeByte_39247_0 rfl ?_
  refine g_iload_n hC dJ7_copyOfRangeByte_39247_1 rfl ?_
  refine g_callS (rest := []) hC (kJ7_checkLength hl (by omega) gh ) gc_RJ7_343 rfl ⟨by decide, by decide⟩ ⟨by decide, by decide⟩ (Nat.le_of_ble_eq_true rfl) rfl dJ7_copyOfRangeByte_39247_2 (fun r gh' hp => ?_)
  obtain ⟨rfl, hgh⟩ := hp
  rw [hgh]
  clear hgh
  refine gV.eqs (st' := []) rfl rfl rfl ?_
  refine g_iload_n hC dJ7_copyOfRangeByte_39247_5 rfl ?_
  refine g_iload_n hC dJ7_copyOfRangeByte_39247_6 rfl ?_
  refine g_isub hC dJ7_copyOfRangeByte_39247_7 ?_
  refine g_istore_n (lv' := [some (.ref b), some (vi (0)), some (vi ((k : Int))), some (vi (((k : Int)) - (0))), none]) hC dJ7_copyOfRangeByte_39247_8 (by decide) rfl ?_
  refine g_iload_n hC dJ7_copyOfRangeByte_39247_9 rfl ?_
  refine g_newB (n := k) hC dJ7_copyOfRangeByte_39247_10 ga_byte (by omega) (by omega) (by decide) (by show 0 + k ≤ 16; omega) (fun q hnq => ?_)
  obtain ⟨gh1, egh1⟩ : ∃ g, g = gset gh q (gI 2 k (fun _ => 0)) := ⟨_, rfl⟩
  rw [← egh1]
  have h2 : gh1 b = some (gI 2 16 (P)) := by rw [egh1, gset_ne (fun z => by rw [z, hnq] at hb; cases hb)]; exact hb
  have h3 : gh1 q = some (gI 2 k (fun _ => 0)) := by rw [egh1]; exact gset_eq
  refine g_ast (lv' := [some (.ref b), some (vi (0)), some (vi ((k : Int))), some (vi (((k : Int)) - (0))), some (.ref q)]) hC dJ7_copyOfRangeByte_39247_12 (by decide) rfl ?_
  refine g_ald_n hC dJ7_copyOfRangeByte_39247_14 rfl ?_
  refine g_iload_n hC dJ7_copyOfRangeByte_39247_15 rfl ?_
  refine g_ald hC dJ7_copyOfRangeByte_39247_16 rfl ?_
  refine g_iconst hC dJ7_copyOfRangeByte_39247_18 rfl ?_
  refine g_ald_n hC dJ7_copyOfRangeByte_39247_19 rfl ?_
  refine g_alenI hC dJ7_copyOfRangeByte_39247_20 h2 (by decide) ?_
  refine g_top (b := 16) rfl ?_
  refine g_iload_n hC dJ7_copyOfRangeByte_39247_21 rfl ?_
  refine g_isub hC dJ7_copyOfRangeByte_39247_22 ?_
  refine g_iload_n hC dJ7_copyOfRangeByte_39247_23 rfl ?_
  refine g_min hC gmn_w (by decide) (Nat.le_of_ble_eq_true rfl) (by decide) (by show 0 + k ≤ 16; omega) (by omega) (by omega) dJ7_copyOfRangeByte_39247_24 ?_
  refine g_top (b := (k : Int)) (by omega) ?_
  have hbq : b ≠ q := fun e => by rw [e, hnq] at hb; cases hb
  refine g_acopyB (st := []) (sp := 0) (dp := 0) (n := k) hC dJ7_copyOfRangeByte_39247_27 gw_acopy h2 h3 (by omega) (by omega) (by decide) (by omega) (fun i hi => by rw [Nat.zero_add]; have := hP i hi; omega) (by decide) (Nat.le_of_ble_eq_true rfl) ?_
  refine gV.eqs (gh' := gset gh1 q (gI 2 k (fun j => if 0 ≤ j ∧ j < 0 + k then P (0 + (j - 0)) else 0))) rfl rfl rfl ?_
  obtain ⟨gh4, egh4⟩ : ∃ g, g = gset gh1 q (gI 2 k (fun j => if 0 ≤ j ∧ j < 0 + k then P (0 + (j - 0)) else 0)) := ⟨_, rfl⟩
  rw [← egh4]
  have h5 : gh4 b = some (gI 2 16 (P)) := by rw [egh4, gset_ne hbq]; exact h2
  have h6 : gh4 q = some (gI 2 k (fun j => if 0 ≤ j ∧ j < 0 + k then P (0 + (j - 0)) else 0)) := by rw [egh4]; exact gset_eq
  refine g_ald hC dJ7_copyOfRangeByte_39247_30 rfl ?_
  exact g_aret (v := some q) hC hq (Or.inr ⟨_, rfl⟩) dJ7_copyOfRangeByte_39247_32 (by decide) (by show 0 + k ≤ 16; omega) ⟨q, hnq, rfl, _, fun i hi => by show (if 0 ≤ i ∧ i < 0 + k then P (0 + (i - 0)) else 0) = P i; rw [if_pos (by omega), Nat.zero_add, Nat.sub_zero], by rw [egh4, egh1, gset_set]⟩

set_option maxHeartbeats 4000000 in
set_option maxRecDepth 100000 in
theorem kJ7_copyOfRange {l : Launch} (hl : l.stackTraces = false) {D : gD} {base : Nat}  {b : Nat} {P : Nat → Int} {k : Nat} (hk : k < 16) (hP : ∀ i, i < k → 0 ≤ P i ∧ P i < 128) (gh : gH) (hb : gh b = some (gI 2 16 (P)))  : gM l D base yJ7_copyOfRange_39247 cJ7_copyOfRange_39247 3 (some (Jvm.ClassFile.FieldType.array Jvm.ClassFile.FieldType.byte)) 2 104 1 16 [.ref b, vi (0), vi ((k : Int))] gh (fun r gh' => ∃ q, gh q = none ∧ r = some (.ref q) ∧ ∃ Pq : Nat → Int, (∀ i, i < k → Pq i = P i) ∧ gh' = gset gh q (gI 2 k Pq)) gNo := by
  refine gM.of hl (by decide) (by simp [Value.category]) (Nat.le_of_ble_eq_true rfl) [some (.ref b), some (vi (0)), some (vi ((k : Int)))] rfl (fun x hC hq => ?_)
  refine g_iload_n hC dJ7_copyOfRange_39247_0 rfl ?_
  refine g_if_ne (tgt := 10) hC dJ7_copyOfRange_39247_1 (by decide) (by omega) (fun c_1 => False.elim (by revert c_1; decide)) (fun c_1 => ?_)
  refine g_iload_n hC dJ7_copyOfRange_39247_4 rfl ?_
  refine g_ald_n hC dJ7_copyOfRange_39247_5 rfl ?_
  refine g_alenI hC dJ7_copyOfRange_39247_6 hb (by decide) ?_
  refine g_top (b := 16) rfl ?_
  refine g_icmp_eq (tgt := 17) hC dJ7_copyOfRange_39247_7 (by decide) (by omega) (by omega) (fun c_7 => False.elim (by omega)) (fun c_7 => ?_)
  refine g_ald_n hC dJ7_copyOfRange_39247_10 rfl ?_
  refine g_iload_n hC dJ7_copyOfRange_39247_11 rfl ?_
  refine g_iload_n hC dJ7_copyOfRange_39247_12 rfl ?_
  refine g_callS (rest := []) hC (kJ7_copyOfRangeByte hl hk hP gh hb) gc_RJ7_339 rfl ⟨by decide, by decide⟩ ⟨by decide, by decide⟩ (Nat.le_of_ble_eq_true rfl) rfl dJ7_copyOfRange_39247_13 (fun r gh' hp => ?_)
  obtain ⟨q, hq0, rfl, Pq, hPq, hgh⟩ := hp
  rw [hgh]
  refine gV.eqs (st' := [.ref q]) rfl rfl rfl ?_
  exact g_aret (v := some q) hC hq (Or.inr ⟨_, rfl⟩) dJ7_copyOfRange_39247_16 (by decide) (by decide) ⟨q, hq0, rfl, Pq, hPq, rfl⟩

set_option maxHeartbeats 4000000 in
set_option maxRecDepth 100000 in
theorem kJ0_initA {l : Launch} (hl : l.stackTraces = false) {D : gD} {base : Nat}  {s a b : Nat} {ml : Int} {P : Nat → Int} {k : Nat} (hk : k < 16) (hP : ∀ i, i < k → 0 ≤ P i ∧ P i < 128) (gh : gH) (ht : gh s = some (gO 0 [.null, vi (0), vi (0), vi (0)])) (hs : gh a = some (gO 1 [.ref b, vi (0), vi (ml), vi ((k : Int))])) (hb : gh b = some (gI 2 16 (P)))  : gM l D base yJ0_init_db425 cJ0_init_db425 5 none 3 126 1 16 [.ref s, .ref a, .null] gh (fun r gh' => r = none ∧ ∃ q, gh q = none ∧ ∃ Pq : Nat → Int, (∀ i, i < k → Pq i = P i) ∧ gh' = gset (gset gh q (gI 2 k Pq)) s (gO 0 [.ref q, vi 0, vi 0, vi 0])) gNo := by
  refine gM.of hl (by decide) (by simp [Value.category]) (Nat.le_of_ble_eq_true rfl) [some (.ref s), some (.ref a), some (.null), none, none] rfl (fun x hC hq => ?_)
  refine g_ald_n hC dJ0_init_db425_0 rfl ?_
  refine g_objInit hC dJ0_init_db425_1 go_RJ0 go_i go_c (by decide) (by decide) ?_
  refine g_ald_n hC dJ0_init_db425_4 rfl ?_
  refine g_callU (q := (RJ4, TJ4, 4)) (rest := []) hC (kJ5_getValue hl  gh hs) gc_RJ0_552 rfl hs rfl ⟨by decide, by decide⟩ ⟨by decide, by decide⟩ (Nat.le_of_ble_eq_true rfl) rfl dJ0_init_db425_5 (fun r gh' hp => ?_)
  obtain ⟨rfl, hgh⟩ := hp
  rw [hgh]
  clear hgh
  refine gV.eqs (st' := [.ref b]) rfl rfl rfl ?_
  refine g_ast_n (lv' := [some (.ref s), some (.ref a), some (.null), some (.ref b), none]) hC dJ0_init_db425_8 (by decide) rfl ?_
  refine g_ald_n hC dJ0_init_db425_9 rfl ?_
  refine g_callO (q := (RJ4, TJ4, 4)) (rest := []) hC (kJ4_length hl  gh hs) gc_RJ0_549 rfl hs rfl ⟨by decide, by decide⟩ ⟨by decide, by decide⟩ (Nat.le_of_ble_eq_true rfl) rfl dJ0_init_db425_10 (fun r gh' hp => ?_)
  obtain ⟨rfl, hgh⟩ := hp
  rw [hgh]
  clear hgh
  refine gV.eqs (st' := [vi ((k : Int))]) rfl rfl rfl ?_
  refine g_istore (lv' := [some (.ref s), some (.ref a), some (.null), some (.ref b), some (vi ((k : Int)))]) hC dJ0_init_db425_13 (by decide) rfl ?_
  refine g_ald_n hC dJ0_init_db425_15 rfl ?_
  refine g_callU (q := (RJ4, TJ4, 4)) (rest := []) hC (kJ5_isLatin1 hl  gh hs) gc_RJ0_1047 rfl hs rfl ⟨by decide, by decide⟩ ⟨by decide, by decide⟩ (Nat.le_of_ble_eq_true rfl) rfl dJ0_init_db425_16 (fun r gh' hp => ?_)
  obtain ⟨rfl, hgh⟩ := hp
  rw [hgh]
  clear hgh
  refine gV.eqs (st' := [vi (b2i (true))]) rfl rfl rfl ?_
  refine g_ifeq_b (tgt := 41) hC dJ0_init_db425_19 (by decide)  (fun c_19 => False.elim (by cases c_19)) (fun c_19 => ?_)
  refine g_ald_n hC dJ0_init_db425_22 rfl ?_
  refine g_iconst hC dJ0_init_db425_23 rfl ?_
  refine g_putF hC hq (fs' := [.null, vi (0), vi (0), vi (0)]) dJ0_init_db425_24 gp_RJ0_15 ht ⟨rfl, rfl⟩ rfl (Nat.le_of_ble_eq_true rfl) ?_
  obtain ⟨gh1, egh1⟩ : ∃ g, g = gset gh s (gO 0 [.null, vi (0), vi (0), vi (0)]) := ⟨_, rfl⟩
  rw [← egh1]
  have h2 : gh1 a = some (gO 1 [.ref b, vi (0), vi (ml), vi ((k : Int))]) := by rw [egh1, gset_ne (gne hs ht (by simp))]; exact hs
  have h3 : gh1 b = some (gI 2 16 (P)) := by rw [egh1, gset_ne (gne hb ht (by simp))]; exact hb
  have h4 : gh1 s = some (gO 0 [.null, vi (0), vi (0), vi (0)]) := by rw [egh1]; exact gset_eq
  refine g_ald_n hC dJ0_init_db425_27 rfl ?_
  refine g_ald_n hC dJ0_init_db425_28 rfl ?_
  refine g_iconst hC dJ0_init_db425_29 rfl ?_
  refine g_iload hC dJ0_init_db425_30 rfl ?_
  refine g_callS (rest := [.ref s]) hC (kJ7_copyOfRange hl hk hP gh1 h3) gc_RJ0_54 rfl ⟨by decide, by decide⟩ ⟨by decide, by decide⟩ (Nat.le_of_ble_eq_true rfl) rfl dJ0_init_db425_32 (fun r gh' hp => ?_)
  obtain ⟨q, hq0, rfl, Pq, hPq, hgh⟩ := hp
  rw [hgh]
  clear hgh
  refine gV.eqs (st' := [.ref q, .ref s]) rfl rfl rfl ?_
  obtain ⟨gh5, egh5⟩ : ∃ g, g = gset gh1 q (gI 2 k (Pq)) := ⟨_, rfl⟩
  rw [← egh5]
  have h6 : gh5 a = some (gO 1 [.ref b, vi (0), vi (ml), vi ((k : Int))]) := by rw [egh5, gset_ne (fun z => by rw [z, hq0] at h2; cases h2)]; exact h2
  have h7 : gh5 b = some (gI 2 16 (P)) := by rw [egh5, gset_ne (fun z => by rw [z, hq0] at h3; cases h3)]; exact h3
  have h8 : gh5 s = some (gO 0 [.null, vi (0), vi (0), vi (0)]) := by rw [egh5, gset_ne (fun z => by rw [z, hq0] at h4; cases h4)]; exact h4
  have h9 : gh5 q = some (gI 2 k (Pq)) := by rw [egh5]; exact gset_eq
  refine g_putF hC hq (fs' := [.ref q, vi (0), vi (0), vi (0)]) dJ0_init_db425_35 gp_RJ0_9 h8 ⟨rfl, rfl⟩ rfl (Nat.le_of_ble_eq_true rfl) ?_
  obtain ⟨gh10, egh10⟩ : ∃ g, g = gset gh5 s (gO 0 [.ref q, vi (0), vi (0), vi (0)]) := ⟨_, rfl⟩
  rw [← egh10]
  have h11 : gh10 a = some (gO 1 [.ref b, vi (0), vi (ml), vi ((k : Int))]) := by rw [egh10, gset_ne (gne h6 h8 (by simp))]; exact h6
  have h12 : gh10 b = some (gI 2 16 (P)) := by rw [egh10, gset_ne (gne h7 h8 (by simp))]; exact h7
  have h13 : gh10 q = some (gI 2 k (Pq)) := by rw [egh10, gset_ne (gne h9 h8 (by simp))]; exact h9
  have h14 : gh10 s = some (gO 0 [.ref q, vi (0), vi (0), vi (0)]) := by rw [egh10]; exact gset_eq
  refine g_goto (tgt := 97) hC dJ0_init_db425_38 (by decide) ?_
  have hsq : gh q = none := by have h9 := hq0; rw [egh1] at h9; by_cases e : q = s; (rw [e, gset_eq] at h9; cases h9); (rw [gset_ne e] at h9; exact h9)
  have hsq2 : s ≠ q := fun e => by rw [← e] at hsq; rw [hsq] at ht; cases ht
  exact g_vret hC hq dJ0_init_db425_97 (by decide) (by decide) ⟨rfl, q, hsq, Pq, hPq, by rw [egh10, egh5, egh1, gset_comm hsq2, gset_set]⟩

set_option maxHeartbeats 4000000 in
set_option maxRecDepth 100000 in
theorem kJ0_initS {l : Launch} (hl : l.stackTraces = false) {D : gD} {base : Nat}  {s a b : Nat} {ml : Int} {P : Nat → Int} {k : Nat} (hk : k < 16) (hP : ∀ i, i < k → 0 ≤ P i ∧ P i < 128) (gh : gH) (ht : gh s = some (gO 0 [.null, vi (0), vi (0), vi (0)])) (hs : gh a = some (gO 1 [.ref b, vi (0), vi (ml), vi ((k : Int))])) (hb : gh b = some (gI 2 16 (P)))  : gM l D base yJ0_init_81219 cJ0_init_81219 2 none 4 150 1 16 [.ref s, .ref a] gh (fun r gh' => r = none ∧ ∃ q, gh q = none ∧ ∃ Pq : Nat → Int, (∀ i, i < k → Pq i = P i) ∧ gh' = gset (gset gh q (gI 2 k Pq)) s (gO 0 [.ref q, vi 0, vi 0, vi 0])) gNo := by
  refine gM.of hl (by decide) (by simp [Value.category]) (Nat.le_of_ble_eq_true rfl) [some (.ref s), some (.ref a)] rfl (fun x hC hq => ?_)
  refine g_ald_n hC dJ0_init_81219_0 rfl ?_
  refine g_ald_n hC dJ0_init_81219_1 rfl ?_
  refine g_null hC dJ0_init_81219_2 ?_
  refine g_callI (rest := []) hC (kJ0_initA hl hk hP gh ht hs hb) gc_RJ0_489 rfl ⟨by decide, by decide⟩ ⟨by decide, by decide⟩ (Nat.le_of_ble_eq_true rfl) rfl dJ0_init_81219_3 (fun r gh' hp => ?_)
  obtain ⟨rfl, q, hq0, Pq, hPq, hgh⟩ := hp
  rw [hgh]
  refine gV.eqs (st' := []) rfl rfl rfl ?_
  exact g_vret hC hq dJ0_init_81219_6 (by decide) (by decide) ⟨rfl, q, hq0, Pq, hPq, rfl⟩

set_option maxHeartbeats 4000000 in
set_option maxRecDepth 100000 in
theorem kJ4_toString {l : Launch} (hl : l.stackTraces = false) {D : gD} {base : Nat}  {a b : Nat} {ml : Int} {P : Nat → Int} {k : Nat} (hk : k < 16) (hP : ∀ i, i < k → 0 ≤ P i ∧ P i < 128) (gh : gH) (hs : gh a = some (gO 1 [.ref b, vi (0), vi (ml), vi ((k : Int))])) (hb : gh b = some (gI 2 16 (P)))  : gM l D base yJ4_toString_0e30d cJ4_toString_0e30d 1 (some (Jvm.ClassFile.FieldType.object "java/lang/String")) 5 171 2 20 [.ref a] gh (fun r gh' => ∃ s q, gh s = none ∧ gh q = none ∧ q ≠ s ∧ r = some (.ref s) ∧ ∃ Pq : Nat → Int, (∀ i, i < k → Pq i = P i) ∧ gh' = gset (gset gh q (gI 2 k Pq)) s (gO 0 [.ref q, vi 0, vi 0, vi 0])) gNo := by
  refine gM.of hl (by decide) (by simp [Value.category]) (Nat.le_of_ble_eq_true rfl) [some (.ref a)] rfl (fun x hC hq => ?_)
  refine g_new hC dJ4_toString_0e30d_0 gn_RJ4_18 (by decide) (by decide) (fun q1 hnq1 => ?_)
  obtain ⟨gh2, egh2⟩ : ∃ g, g = gset gh q1 (gO 0 [.null, vi (0), vi (0), vi (0)]) := ⟨_, rfl⟩
  rw [← egh2]
  have h3 : gh2 a = some (gO 1 [.ref b, vi (0), vi (ml), vi ((k : Int))]) := by rw [egh2, gset_ne (fun z => by rw [z, hnq1] at hs; cases hs)]; exact hs
  have h4 : gh2 b = some (gI 2 16 (P)) := by rw [egh2, gset_ne (fun z => by rw [z, hnq1] at hb; cases hb)]; exact hb
  have h5 : gh2 q1 = some (gO 0 [.null, vi (0), vi (0), vi (0)]) := by rw [egh2]; exact gset_eq
  refine g_dup hC dJ4_toString_0e30d_3 rfl ?_
  refine g_ald_n hC dJ4_toString_0e30d_4 rfl ?_
  refine g_callI (rest := [.ref q1]) hC (kJ0_initS hl hk hP gh2 h5 h3 h4) gc_RJ4_137 rfl ⟨by decide, by decide⟩ ⟨by decide, by decide⟩ (Nat.le_of_ble_eq_true rfl) rfl dJ4_toString_0e30d_5 (fun r gh' hp => ?_)
  obtain ⟨rfl, q, hq0, Pq, hPq, hgh⟩ := hp
  rw [hgh]
  refine gV.eqs (st' := [.ref q1]) rfl rfl rfl ?_
  have hne : q ≠ q1 := fun e => by rw [egh2, e, gset_eq] at hq0; cases hq0
  have hq1 : gh q = none := by rw [egh2, gset_ne hne] at hq0; exact hq0
  exact g_aret (v := some q1) hC hq (Or.inl ⟨_, rfl⟩) dJ4_toString_0e30d_8 (by decide) (by decide) ⟨q1, q, hnq1, hq1, hne, rfl, Pq, hPq, by rw [egh2, gset_comm hne.symm, gset_set]⟩

end C1
