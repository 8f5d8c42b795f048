/-! my own layer over the kit: a ghost heap (address ↦ what the cell holds), ints as integers, one judgement gV whose state is all in the goal -/
/-- a builder's own capacity method is private: what a call of it selects isn't among the tables' words -/
def gXt : List Cond := [Cond.selects RJ4 yJ5_ensureCapacityInternal_d00df yJ5_ensureCapacityInternal_d00df]
def gwA : List Cond := (lw_tbl ++ gXt).filter goodWord
theorem gwA_mem {w : Cond} (h : w ∈ lw_tbl) (g : goodWord w = true) : w ∈ gwA := List.mem_filter.mpr ⟨List.mem_append_left _ h, g⟩
theorem gwA_xt {w : Cond} (h : w ∈ gXt) (g : goodWord w = true) : w ∈ gwA := List.mem_filter.mpr ⟨List.mem_append_right _ h, g⟩
theorem gwA_at {w : Cond} (i : Nat) (h : tables_1[i]? = some w) (g : goodWord w = true) : w ∈ gwA := gwA_mem (by unfold lw_tbl; exact List.mem_append_right _ (List.mem_of_getElem? h)) g
theorem gwA_good {ws : List Cond} (h : ∀ w ∈ ws, w ∈ gwA) (c : Cond) (hc : c ∈ gwA) : ∀ w ∈ c :: gwA, w ∈ gwA ∧ ((w.onTables && w.keeps) = true ∨ ∃ ty, w = .arrayClass ty) := by
  intro w hw
  have h1 : w ∈ gwA := (List.mem_cons.mp hw).elim (fun e => by rw [e]; exact hc) id
  exact ⟨h1, good_of_word (List.mem_filter.mp h1).2⟩
-- ===== ints =====
def iI (z : Int) : Int32 := Int32.ofInt z
abbrev vi (z : Int) : Value := .int (iI z)
def b2i (b : Bool) : Int := if b then 1 else 0
theorem iI_add (a b : Int) : iI a + iI b = iI (a + b) := (Int32.ofInt_add a b).symm
theorem iI_toInt {a : Int} (h1 : -2147483648 ≤ a) (h2 : a < 2147483648) : (iI a).toInt = a := Int32.toInt_ofInt_of_le (by omega) (by omega)
theorem iI_of (x : Int32) : x = iI x.toInt := (Int32.ofInt_toInt x).symm
theorem iI_rng (x : Int32) : -2147483648 ≤ x.toInt ∧ x.toInt < 2147483648 := ⟨by have := x.le_toInt; omega, by have := x.toInt_lt; omega⟩
theorem iI_nI (n : Nat) : iI (n : Int) = nI n := Int32.ofInt_eq_ofNat
theorem iI_mul (a b : Int) : iI a * iI b = iI (a * b) := by
  apply Int32.toBitVec_inj.mp
  simp [iI, BitVec.ofInt_mul]
theorem iI_neg (a : Int) : - iI a = iI (-a) := Int32.neg_ofInt
theorem iI_sub (a b : Int) : iI a - iI b = iI (a - b) := by
  rw [Int32.sub_eq_add_neg, iI_neg, iI_add, Int.sub_eq_add_neg]
theorem iI_inj {a b : Int} (ha : -2147483648 ≤ a ∧ a < 2147483648) (hb : -2147483648 ≤ b ∧ b < 2147483648) (h : iI a = iI b) : a = b := by
  have := congrArg Int32.toInt h
  rwa [iI_toInt ha.1 ha.2, iI_toInt hb.1 hb.2] at this
theorem iI_le {a b : Int} (ha : -2147483648 ≤ a ∧ a < 2147483648) (hb : -2147483648 ≤ b ∧ b < 2147483648) : iI a ≤ iI b ↔ a ≤ b := by
  rw [Int32.le_iff_toInt_le, iI_toInt ha.1 ha.2, iI_toInt hb.1 hb.2]
theorem iI_lt {a b : Int} (ha : -2147483648 ≤ a ∧ a < 2147483648) (hb : -2147483648 ≤ b ∧ b < 2147483648) : iI a < iI b ↔ a < b := by
  rw [Int32.lt_iff_toInt_lt, iI_toInt ha.1 ha.2, iI_toInt hb.1 hb.2]
theorem iI_0 : iI 0 = 0 := rfl
theorem iI_clamp {a : Int} (h1 : 0 ≤ a) (h2 : a < 2147483648) : (iI a).toNatClampNeg = a.toNat := by
  rw [← Int32.toNat_toInt, iI_toInt (by omega) h2]
theorem iI_in {a : Int} {n : Nat} (h1 : 0 ≤ a) (h2 : a < n) (hn : n < 2147483648) : vp_in (iI a) n :=
  vp_in_iff.mpr ⟨by rw [iI_toInt (by omega) (by omega)]; exact h1, by rw [iI_toInt (by omega) (by omega)]; exact h2⟩
theorem iI_div {a b : Int} (ha : 0 ≤ a ∧ a < 2147483648) (hb : 0 < b ∧ b < 2147483648) : iI a / iI b = iI (a / b) := by
  have e1 : iI a = nI a.toNat := by rw [← iI_nI, Int.toNat_of_nonneg ha.1]
  have e2 : iI b = nI b.toNat := by rw [← iI_nI, Int.toNat_of_nonneg (by omega)]
  rw [e1, e2, pk_div (by omega) (by omega) (by omega), ← iI_nI]
  congr 1
  rw [Int.natCast_ediv, Int.toNat_of_nonneg ha.1, Int.toNat_of_nonneg (by omega)]
theorem iI_rem {a b : Int} (ha : 0 ≤ a ∧ a < 2147483648) (hb : 0 < b ∧ b < 2147483648) : iI a - iI a / iI b * iI b = iI (a % b) := by
  rw [iI_div ha hb, iI_mul, iI_sub, Int.emod_def, Int.mul_comm]
theorem iI_char {a : Int} (h1 : 0 ≤ a) (h2 : a < 65536) : vp_nar .char (iI a) = iI a := by
  have e1 : iI a = nI a.toNat := by rw [← iI_nI, Int.toNat_of_nonneg h1]
  rw [e1]
  have h := (pk_charN (q := a.toNat) (by omega)).1
  unfold vp_nar
  rw [h]
theorem iI_charN {a : Int} (h1 : 0 ≤ a) (h2 : a < 65536) : narrow .char (.int (iI a)) = .int (iI a) := by
  have e1 : iI a = nI a.toNat := by rw [← iI_nI, Int.toNat_of_nonneg h1]
  rw [e1]
  exact (pk_charN (q := a.toNat) (by omega)).1
theorem iI_byte {a : Int} (h1 : -128 ≤ a) (h2 : a < 128) : (iI a).toInt8.toInt32 = iI a := by
  apply Int32.toInt_inj.mp
  rw [iI_toInt (by omega) (by omega), Int8.toInt_toInt32, iI, Int32.toInt8_ofInt, Int8.toInt_ofInt_of_le (by omega) (by omega)]
-- ===== the ghost heap =====
abbrev gC : Type := (Nat × List Value) ⊕ ((Nat × Nat × (Nat → Int)) ⊕ ((Nat × Nat × (Nat → Option Nat)) ⊕ (Nat × Nat × (Nat → Int64))))
abbrev gO (ci : Nat) (fs : List Value) : gC := .inl (ci, fs)
abbrev gI (k n : Nat) (F : Nat → Int) : gC := .inr (.inl (k, n, F))
abbrev gR (k n : Nat) (F : Nat → Option Nat) : gC := .inr (.inr (.inl (k, n, F)))
abbrev gL (k n : Nat) (F : Nat → Int64) : gC := .inr (.inr (.inr (k, n, F)))
abbrev gD : Type := va_G × (Nat → ClassId)
abbrev gH : Type := Nat → Option gC
def g2 (D : gD) : gC → va_E
  | .inl (ci, fs) => .inr (ci, fs)
  | .inr (.inl (k, n, F)) => .inl (D.2 k, n, .inl (fun j => iI (F j)))
  | .inr (.inr (.inl (k, n, F))) => .inl (D.2 k, n, .inr (.inr (.inr (.inr F))))
  | .inr (.inr (.inr (k, n, F))) => .inl (D.2 k, n, .inr (.inl F))
/-- the classes of arrays, by kind: 0 char, 1 int, 2 byte, 3 long, 4.. references -/
def gty : Nat → FieldType
  | 0 => .char | 1 => .int | 2 => .byte | 3 => .int
  | 4 => .object RX2 | 5 => .object RX3 | 6 => .object RX0 | 7 => .object RX4 | 8 => .object RX5 | _ => .object RX1
def gtys (D : gD) : List (ClassId × FieldType) := (List.range 10).map (fun k => (D.2 k, gty k))
theorem gtys_at (D : gD) {k : Nat} (h : k < 10) : (gtys D)[k]? = some (D.2 k, gty k) := by
  unfold gtys
  rw [List.getElem?_map, List.getElem?_range h]
  rfl
def gG (D : gD) (base : Nat) (gh : gH) (H : Heap) : Prop := ∀ (a : Nat) (c : gC), gh a = some c → base ≤ a ∧ va_at D.1 vwCl (a, g2 D c) H
def gset (gh : gH) (a : Nat) (c : gC) : gH := fun q => if q = a then some c else gh q
theorem gset_eq {gh : gH} {a : Nat} {c : gC} : gset gh a c a = some c := if_pos rfl
theorem gset_ne {gh : gH} {a b : Nat} {c : gC} (h : b ≠ a) : gset gh a c b = gh b := if_neg h
theorem gset_set {gh : gH} {a : Nat} {c d : gC} : gset (gset gh a c) a d = gset gh a d := by
  funext q
  unfold gset
  split <;> rfl
theorem gne {gh : gH} {a b : Nat} {x y : gC} (ha : gh a = some x) (hb : gh b = some y) (h : x ≠ y) : a ≠ b := fun e => h (by subst e; exact Option.some.inj (ha.symm.trans hb))
theorem gG.lt {D : gD} {base : Nat} {gh : gH} {H : Heap} (h : gG D base gh H) {a : Nat} {c : gC} (ha : gh a = some c) : a < H.size := va_at.lt (h a c ha).2
theorem gG.fresh {D : gD} {base : Nat} {gh : gH} {H : Heap} (h : gG D base gh H) {q : Nat} (hq : H.size ≤ q) : gh q = none := by
  cases e : gh q with
  | none => rfl
  | some c => exact absurd (h.lt e) (by omega)
theorem gG.set {D : gD} {base : Nat} {gh : gH} {H H1 : Heap} (h : gG D base gh H) {a : Nat} {c : gC} (ha : base ≤ a) (hc : va_at D.1 vwCl (a, g2 D c) H1) (oq : ∀ q : Nat, q ≠ a → H1[q]? = H[q]?) : gG D base (gset gh a c) H1 := by
  intro b d hb
  by_cases e : b = a
  · subst e
    rw [gset_eq] at hb
    cases hb
    exact ⟨ha, hc⟩
  · rw [gset_ne e] at hb
    exact ⟨(h b d hb).1, va_at.kept (h b d hb).2 (oq b e)⟩
theorem gG.new {D : gD} {base : Nat} {gh : gH} {H H1 : Heap} (h : gG D base gh H) {c : gC} (ha : base ≤ H.size) (hc : va_at D.1 vwCl (H.size, g2 D c) H1) (oq : ∀ q : Nat, q < H.size → H1[q]? = H[q]?) : gG D base (gset gh H.size c) H1 := by
  intro b d hb
  by_cases e : b = H.size
  · subst e
    rw [gset_eq] at hb
    cases hb
    exact ⟨ha, hc⟩
  · rw [gset_ne e] at hb
    exact ⟨(h b d hb).1, va_at.kept (h b d hb).2 (oq b (h.lt hb))⟩
theorem gG.kept {D : gD} {base : Nat} {gh : gH} {H H1 : Heap} (h : gG D base gh H) (oq : ∀ q : Nat, q < H.size → H1[q]? = H[q]?) : gG D base gh H1 := fun b d hb => ⟨(h b d hb).1, va_at.kept (h b d hb).2 (oq b (h.lt hb))⟩
-- ===== locals by their places =====
def gLv (ls : Array Slot) (n : Nat) (lv : List (Option Value)) : Prop := ls.size = n ∧ lv_wf ls ∧ ∀ (k : Nat) (v : Value), lv[k]? = some (some v) → ls[k]? = some (.val v) ∧ v.category = 1
def gPr (lv : List (Option Value)) : List (Nat × Value) := (List.range lv.length).filterMap (fun k => (lv[k]?.join).map (fun v => (k, v)))
theorem gPr_mem {lv : List (Option Value)} {q : Nat × Value} (h : q ∈ gPr lv) : lv[q.1]? = some (some q.2) := by
  obtain ⟨k, -, hk⟩ := List.mem_filterMap.mp h
  cases e : lv[k]? with
  | none => rw [e] at hk; cases hk
  | some o =>
    rw [e] at hk
    cases o with
    | none => cases hk
    | some v => cases hk; exact e
theorem gPr_of {lv : List (Option Value)} {k : Nat} {v : Value} (h : lv[k]? = some (some v)) : (k, v) ∈ gPr lv := by
  refine List.mem_filterMap.mpr ⟨k, List.mem_range.mpr (List.getElem?_eq_some_iff.mp h).1, ?_⟩
  rw [h]
  rfl
theorem gLv.has {ls : Array Slot} {n : Nat} {lv : List (Option Value)} (h : gLv ls n lv) : lv_has ls n (gPr lv) := ⟨h.1, h.2.1, fun q hq => (h.2.2 _ _ (gPr_mem hq)).1⟩
theorem gLv.store {ls ls' : Array Slot} {n i : Nat} {lv : List (Option Value)} {v : Value} (h : gLv ls n lv) (hc : v.category = 1)
    (h' : lv_has ls' n ((i, v) :: (gPr lv).filter (fun q => !(q.1 == i) && !(q.1 + 1 == i && q.2.category == 2)))) : gLv ls' n (lv.set i (some v)) := by
  refine ⟨h'.1, h'.2.1, fun k w hk => ?_⟩
  by_cases e : k = i
  · subst e
    have hl : k < lv.length := by
      have := (List.getElem?_eq_some_iff.mp hk).1
      rwa [List.length_set] at this
    rw [List.getElem?_set_self hl] at hk
    cases hk
    exact ⟨h'.2.2 (k, v) List.mem_cons_self, hc⟩
  · rw [List.getElem?_set_ne (Ne.symm e)] at hk
    have h1 := (h.2.2 k w hk).2
    refine ⟨h'.2.2 (k, w) (List.mem_cons_of_mem _ (List.mem_filter.mpr ⟨gPr_of hk, ?_⟩)), h1⟩
    have e2 : (k == i) = false := by simp [e]
    simp [e2, h1]
theorem gLv.at {ls : Array Slot} {n : Nat} {lv : List (Option Value)} (h : gLv ls n lv) {k : Nat} {v : Value} (hk : lv[k]? = some (some v)) : ls[k]? = some (.val v) := (h.2.2 k v hk).1
theorem g_args_mem : ∀ (vs : List Value) (i k : Nat) (v : Value), (∀ w ∈ vs, w.category = 1) → vs[k]? = some v → (i + k, v) ∈ lv_args i vs
  | [], _, _, _, _, h => by simp at h
  | w :: vs, i, 0, v, _, h => by
    rw [List.getElem?_cons_zero] at h
    cases h
    exact List.mem_cons_self
  | w :: vs, i, k + 1, v, hc, h => by
    rw [List.getElem?_cons_succ] at h
    have h1 : w.category = 1 := hc w List.mem_cons_self
    have := g_args_mem vs (i + 1) k v (fun x hx => hc x (List.mem_cons_of_mem _ hx)) h
    unfold lv_args
    rw [if_neg (by omega)]
    rw [show i + (k + 1) = i + 1 + k by omega]
    exact List.mem_cons_of_mem _ this
theorem g_sl_len : ∀ (vs : List Value), (∀ w ∈ vs, w.category = 1) → (lg_sl vs).length = vs.length
  | [], _ => rfl
  | w :: vs, hc => by
    have h1 : w.category = 1 := hc w List.mem_cons_self
    have := g_sl_len vs (fun x hx => hc x (List.mem_cons_of_mem _ hx))
    unfold lg_sl at this ⊢
    rw [List.flatMap_cons, List.length_append, this, if_neg (by omega)]
    simp
    omega
theorem gLv.entry (vs : List Value) {n : Nat} (hc : ∀ w ∈ vs, w.category = 1) (hn : vs.length ≤ n) : gLv ((lg_sl vs ++ List.replicate (n - (lg_sl vs).length) Slot.unset).toArray) n (vs.map some ++ List.replicate (n - vs.length) none) := by
  have h := lv_entry vs (n := n) (by rw [g_sl_len vs hc]; exact hn)
  refine ⟨h.1, h.2.1, fun k v hk => ?_⟩
  have hv : vs[k]? = some v := by
    by_cases hl : k < vs.length
    · rw [List.getElem?_append_left (by rw [List.length_map]; exact hl), List.getElem?_map] at hk
      cases e : vs[k]? with
      | none => rw [e] at hk; cases hk
      | some w => rw [e] at hk; cases hk; rfl
    · rw [List.getElem?_append_right (by rw [List.length_map]; omega)] at hk
      have := List.mem_of_getElem? hk
      have := List.eq_of_mem_replicate this
      cases this
  have h2 := g_args_mem vs 0 k v hc hv
  rw [Nat.zero_add] at h2
  exact ⟨h.2.2 (k, v) h2, hc v (List.mem_of_getElem? hv)⟩
