/-! rows of gV: one an instruction -/
section GR
variable {x : gX} {l : Launch} {D : gD} {base nL : Nat} {own : String} {cc : ByteArray} {rm : Room} {pc : Nat} {lv : List (Option Value)} {st : List Value} {gh : gH} {cells slots : Nat}
theorem gV.widen {k n : Nat} (h1 : cells ≤ k) (h2 : slots ≤ n) (kk : gV x D base nL pc lv st gh k n) : gV x D base nL pc lv st gh cells slots := by
  obtain ⟨p, l', e, R, s, m, args, below, meth, c, Q⟩ := x
  intro H locs ls hG hS hl
  exact W.widen h1 h2 (kk H locs ls hG hS hl)
theorem gV.eqs {lv' : List (Option Value)} {st' : List Value} {gh' : gH} (h1 : lv = lv') (h2 : st = st') (h3 : gh = gh') (kk : gV x D base nL pc lv' st' gh' cells slots) : gV x D base nL pc lv st gh cells slots := by
  subst h1; subst h2; subst h3; exact kk
theorem g_top {a b : Int} (h : a = b) (k : gV x D base nL pc lv (vi b :: st) gh cells slots) : gV x D base nL pc lv (vi a :: st) gh cells slots := by
  subst h; exact k
theorem g_topv {a b : Value} (h : a = b) (k : gV x D base nL pc lv (b :: st) gh cells slots) : gV x D base nL pc lv (a :: st) gh cells slots := by
  subst h; exact k

theorem g_iconst (hC : gK x l D base nL own cc rm) {n z : Int} (hd : decode cc pc = .ok (.iconst n, 1)) (hz : n = z) (k : gV x D base nL (pc + 1) lv (vi z :: st) (gh) (cells) (slots)) : gV x D base nL (pc) lv (st) (gh) (cells) (slots) := by
  obtain ⟨p, l', e, R, s, m, args, below, meth, c, Q⟩ := x
  obtain ⟨hx, hb, hml, hown, hts, hE, hlocks, hR, hl', htr⟩ := hC
  intro H locs ls hG hS hl
  subst hz
  exact lv_iconst hx hb hd rfl (k H locs ls hG hS hl)

theorem g_bipush (hC : gK x l D base nL own cc rm) {n z : Int} (hd : decode cc pc = .ok (.bipush n, 2)) (hz : (Int8.ofInt n).toInt32 = iI z) (k : gV x D base nL (pc + 2) lv (vi z :: st) (gh) (cells) (slots)) : gV x D base nL (pc) lv (st) (gh) (cells) (slots) := by
  obtain ⟨p, l', e, R, s, m, args, below, meth, c, Q⟩ := x
  obtain ⟨hx, hb, hml, hown, hts, hE, hlocks, hR, hl', htr⟩ := hC
  intro H locs ls hG hS hl
  exact lv_bipush hx hb hd hz (k H locs ls hG hS hl)

theorem g_sipush (hC : gK x l D base nL own cc rm) {n z : Int} (hd : decode cc pc = .ok (.sipush n, 3)) (hz : (Int16.ofInt n).toInt32 = iI z) (k : gV x D base nL (pc + 3) lv (vi z :: st) (gh) (cells) (slots)) : gV x D base nL (pc) lv (st) (gh) (cells) (slots) := by
  obtain ⟨p, l', e, R, s, m, args, below, meth, c, Q⟩ := x
  obtain ⟨hx, hb, hml, hown, hts, hE, hlocks, hR, hl', htr⟩ := hC
  intro H locs ls hG hS hl
  exact lv_sipush hx hb hd hz (k H locs ls hG hS hl)

theorem g_null (hC : gK x l D base nL own cc rm)  (hd : decode cc pc = .ok (.aconst_null, 1)) (k : gV x D base nL (pc + 1) lv (.null :: st) (gh) (cells) (slots)) : gV x D base nL (pc) lv (st) (gh) (cells) (slots) := by
  obtain ⟨p, l', e, R, s, m, args, below, meth, c, Q⟩ := x
  obtain ⟨hx, hb, hml, hown, hts, hE, hlocks, hR, hl', htr⟩ := hC
  intro H locs ls hG hS hl
  exact lv_null hx hb hd (k H locs ls hG hS hl)

theorem g_iload_n (hC : gK x l D base nL own cc rm) {i : Fin 4} {z : Int} (hd : decode cc pc = .ok (.iload_n i, 1)) (hv : lv[(i : Nat)]? = some (some (vi z))) (k : gV x D base nL (pc + 1) lv (vi z :: st) (gh) (cells) (slots)) : gV x D base nL (pc) lv (st) (gh) (cells) (slots) := by
  obtain ⟨p, l', e, R, s, m, args, below, meth, c, Q⟩ := x
  obtain ⟨hx, hb, hml, hown, hts, hE, hlocks, hR, hl', htr⟩ := hC
  intro H locs ls hG hS hl
  exact lv_iload_n hx hb hd rfl (hl.at hv) (k H locs ls hG hS hl)

theorem g_iload (hC : gK x l D base nL own cc rm) {i : Nat} {z : Int} (hd : decode cc pc = .ok (.iload i, 2)) (hv : lv[i]? = some (some (vi z))) (k : gV x D base nL (pc + 2) lv (vi z :: st) (gh) (cells) (slots)) : gV x D base nL (pc) lv (st) (gh) (cells) (slots) := by
  obtain ⟨p, l', e, R, s, m, args, below, meth, c, Q⟩ := x
  obtain ⟨hx, hb, hml, hown, hts, hE, hlocks, hR, hl', htr⟩ := hC
  intro H locs ls hG hS hl
  exact lv_iload hx hb hd (hl.at hv) (k H locs ls hG hS hl)

theorem g_aload_n (hC : gK x l D base nL own cc rm) {i : Fin 4} {v : Option Nat} (hd : decode cc pc = .ok (.aload_n i, 1)) (hv : lv[(i : Nat)]? = some (some (va_rf v))) (k : gV x D base nL (pc + 1) lv (va_rf v :: st) (gh) (cells) (slots)) : gV x D base nL (pc) lv (st) (gh) (cells) (slots) := by
  obtain ⟨p, l', e, R, s, m, args, below, meth, c, Q⟩ := x
  obtain ⟨hx, hb, hml, hown, hts, hE, hlocks, hR, hl', htr⟩ := hC
  intro H locs ls hG hS hl
  cases v with
  | none => exact lv_aload_nN hx hb hd rfl (hl.at hv) (k H locs ls hG hS hl)
  | some a => exact lv_aload_n hx hb hd rfl (hl.at hv) (k H locs ls hG hS hl)

theorem g_aload (hC : gK x l D base nL own cc rm) {i : Nat} {v : Option Nat} (hd : decode cc pc = .ok (.aload i, 2)) (hv : lv[i]? = some (some (va_rf v))) (k : gV x D base nL (pc + 2) lv (va_rf v :: st) (gh) (cells) (slots)) : gV x D base nL (pc) lv (st) (gh) (cells) (slots) := by
  obtain ⟨p, l', e, R, s, m, args, below, meth, c, Q⟩ := x
  obtain ⟨hx, hb, hml, hown, hts, hE, hlocks, hR, hl', htr⟩ := hC
  intro H locs ls hG hS hl
  cases v with
  | none => exact lv_aloadN hx hb hd (hl.at hv) (k H locs ls hG hS hl)
  | some a => exact lv_aload hx hb hd (hl.at hv) (k H locs ls hG hS hl)

theorem g_fload_n (hC : gK x l D base nL own cc rm) {i : Fin 4} {v : UInt32} (hd : decode cc pc = .ok (.fload_n i, 1)) (hv : lv[(i : Nat)]? = some (some (.float v))) (k : gV x D base nL (pc + 1) lv (.float v :: st) (gh) (cells) (slots)) : gV x D base nL (pc) lv (st) (gh) (cells) (slots) := by
  obtain ⟨p, l', e, R, s, m, args, below, meth, c, Q⟩ := x
  obtain ⟨hx, hb, hml, hown, hts, hE, hlocks, hR, hl', htr⟩ := hC
  intro H locs ls hG hS hl
  exact lv_fload_n hx hb hd rfl (hl.at hv) (k H locs ls hG hS hl)

theorem g_fload (hC : gK x l D base nL own cc rm) {i : Nat} {v : UInt32} (hd : decode cc pc = .ok (.fload i, 2)) (hv : lv[i]? = some (some (.float v))) (k : gV x D base nL (pc + 2) lv (.float v :: st) (gh) (cells) (slots)) : gV x D base nL (pc) lv (st) (gh) (cells) (slots) := by
  obtain ⟨p, l', e, R, s, m, args, below, meth, c, Q⟩ := x
  obtain ⟨hx, hb, hml, hown, hts, hE, hlocks, hR, hl', htr⟩ := hC
  intro H locs ls hG hS hl
  exact lv_fload hx hb hd (hl.at hv) (k H locs ls hG hS hl)

theorem g_istore_n (hC : gK x l D base nL own cc rm) {i : Fin 4} {z : Int} {lv' : List (Option Value)} (hd : decode cc pc = .ok (.istore_n i, 1)) (hi : (i : Nat) < nL) (he : lv.set (i : Nat) (some (vi z)) = lv') (k : gV x D base nL (pc + 1) lv' (st) (gh) (cells) (slots)) : gV x D base nL (pc) lv (vi z :: st) (gh) (cells) (slots) := by
  obtain ⟨p, l', e, R, s, m, args, below, meth, c, Q⟩ := x
  obtain ⟨hx, hb, hml, hown, hts, hE, hlocks, hR, hl', htr⟩ := hC
  intro H locs ls hG hS hl
  subst he
  exact lv_istore_n hx hb hd rfl hl.has hi rfl (fun ls' h' => k H locs ls' hG hS (hl.store rfl h'))

theorem g_istore (hC : gK x l D base nL own cc rm) {i : Nat} {z : Int} {lv' : List (Option Value)} (hd : decode cc pc = .ok (.istore i, 2)) (hi : i < nL) (he : lv.set i (some (vi z)) = lv') (k : gV x D base nL (pc + 2) lv' (st) (gh) (cells) (slots)) : gV x D base nL (pc) lv (vi z :: st) (gh) (cells) (slots) := by
  obtain ⟨p, l', e, R, s, m, args, below, meth, c, Q⟩ := x
  obtain ⟨hx, hb, hml, hown, hts, hE, hlocks, hR, hl', htr⟩ := hC
  intro H locs ls hG hS hl
  subst he
  exact lv_istore hx hb hd hl.has hi rfl (fun ls' h' => k H locs ls' hG hS (hl.store rfl h'))

theorem g_fstore_n (hC : gK x l D base nL own cc rm) {i : Fin 4} {v : UInt32} {lv' : List (Option Value)} (hd : decode cc pc = .ok (.fstore_n i, 1)) (hi : (i : Nat) < nL) (he : lv.set (i : Nat) (some (.float v)) = lv') (k : gV x D base nL (pc + 1) lv' (st) (gh) (cells) (slots)) : gV x D base nL (pc) lv (.float v :: st) (gh) (cells) (slots) := by
  obtain ⟨p, l', e, R, s, m, args, below, meth, c, Q⟩ := x
  obtain ⟨hx, hb, hml, hown, hts, hE, hlocks, hR, hl', htr⟩ := hC
  intro H locs ls hG hS hl
  subst he
  exact lv_fstore_n hx hb hd rfl hl.has hi rfl (fun ls' h' => k H locs ls' hG hS (hl.store rfl h'))

theorem g_fstore (hC : gK x l D base nL own cc rm) {i : Nat} {v : UInt32} {lv' : List (Option Value)} (hd : decode cc pc = .ok (.fstore i, 2)) (hi : i < nL) (he : lv.set i (some (.float v)) = lv') (k : gV x D base nL (pc + 2) lv' (st) (gh) (cells) (slots)) : gV x D base nL (pc) lv (.float v :: st) (gh) (cells) (slots) := by
  obtain ⟨p, l', e, R, s, m, args, below, meth, c, Q⟩ := x
  obtain ⟨hx, hb, hml, hown, hts, hE, hlocks, hR, hl', htr⟩ := hC
  intro H locs ls hG hS hl
  subst he
  exact lv_fstore hx hb hd hl.has hi rfl (fun ls' h' => k H locs ls' hG hS (hl.store rfl h'))

theorem g_astore_n (hC : gK x l D base nL own cc rm) {i : Fin 4} {v : Option Nat} {lv' : List (Option Value)} (hd : decode cc pc = .ok (.astore_n i, 1)) (hi : (i : Nat) < nL) (he : lv.set (i : Nat) (some (va_rf v)) = lv') (k : gV x D base nL (pc + 1) lv' (st) (gh) (cells) (slots)) : gV x D base nL (pc) lv (va_rf v :: st) (gh) (cells) (slots) := by
  obtain ⟨p, l', e, R, s, m, args, below, meth, c, Q⟩ := x
  obtain ⟨hx, hb, hml, hown, hts, hE, hlocks, hR, hl', htr⟩ := hC
  intro H locs ls hG hS hl
  subst he
  cases v with
  | none => exact lv_astore_nN hx hb hd rfl hl.has (by rw [← hl.1]; rw [hl.1]; exact hi) rfl (fun ls' h' => k H locs ls' hG hS (hl.store rfl h'))
  | some a => exact lv_astore_n hx hb hd rfl hl.has hi rfl (fun ls' h' => k H locs ls' hG hS (hl.store rfl h'))

theorem g_astore (hC : gK x l D base nL own cc rm) {i : Nat} {v : Option Nat} {lv' : List (Option Value)} (hd : decode cc pc = .ok (.astore i, 2)) (hi : i < nL) (he : lv.set i (some (va_rf v)) = lv') (k : gV x D base nL (pc + 2) lv' (st) (gh) (cells) (slots)) : gV x D base nL (pc) lv (va_rf v :: st) (gh) (cells) (slots) := by
  obtain ⟨p, l', e, R, s, m, args, below, meth, c, Q⟩ := x
  obtain ⟨hx, hb, hml, hown, hts, hE, hlocks, hR, hl', htr⟩ := hC
  intro H locs ls hG hS hl
  subst he
  cases v with
  | none => exact lv_astoreN hx hb hd hl.has (by rw [← hl.1]; rw [hl.1]; exact hi) rfl (fun ls' h' => k H locs ls' hG hS (hl.store rfl h'))
  | some a => exact lv_astore hx hb hd hl.has hi rfl (fun ls' h' => k H locs ls' hG hS (hl.store rfl h'))

theorem g_iinc (hC : gK x l D base nL own cc rm) {i : Nat} {n z : Int} {lv' : List (Option Value)} (hd : decode cc pc = .ok (.iinc i n, 3)) (hi : i < nL) (hv : lv[i]? = some (some (vi z))) (he : lv.set i (some (vi (z + n))) = lv') (k : gV x D base nL (pc + 3) lv' st gh cells slots) : gV x D base nL pc lv st gh cells slots := by
  obtain ⟨p, l', e, R, s, m, args, below, meth, c, Q⟩ := x
  obtain ⟨hx, hb, hml, hown, hts, hE, hlocks, hR, hl', htr⟩ := hC
  intro H locs ls hG hS hl
  subst he
  obtain ⟨q, hq⟩ := List.getElem?_of_mem (gPr_of hv)
  exact lv_iinc hx hb hd hl.has hq (iI_add z n) hi rfl (fun ls' h' => k H locs ls' hG hS (hl.store rfl h'))

theorem g_iadd (hC : gK x l D base nL own cc rm) {a b : Int} (hd : decode cc pc = .ok (.iadd, 1)) (k : gV x D base nL (pc + 1) lv (vi (a + b) :: st) (gh) (cells) (slots)) : gV x D base nL (pc) lv (vi b :: vi a :: st) (gh) (cells) (slots) := by
  obtain ⟨p, l', e, R, s, m, args, below, meth, c, Q⟩ := x
  obtain ⟨hx, hb, hml, hown, hts, hE, hlocks, hR, hl', htr⟩ := hC
  intro H locs ls hG hS hl
  refine lv_iadd hx hb hd ?_
  rw [iI_add]
  exact k H locs ls hG hS hl

theorem g_isub (hC : gK x l D base nL own cc rm) {a b : Int} (hd : decode cc pc = .ok (.isub, 1)) (k : gV x D base nL (pc + 1) lv (vi (a - b) :: st) (gh) (cells) (slots)) : gV x D base nL (pc) lv (vi b :: vi a :: st) (gh) (cells) (slots) := by
  obtain ⟨p, l', e, R, s, m, args, below, meth, c, Q⟩ := x
  obtain ⟨hx, hb, hml, hown, hts, hE, hlocks, hR, hl', htr⟩ := hC
  intro H locs ls hG hS hl
  refine lv_isub hx hb hd ?_
  rw [iI_sub]
  exact k H locs ls hG hS hl

theorem g_imul (hC : gK x l D base nL own cc rm) {a b : Int} (hd : decode cc pc = .ok (.imul, 1)) (k : gV x D base nL (pc + 1) lv (vi (a * b) :: st) (gh) (cells) (slots)) : gV x D base nL (pc) lv (vi b :: vi a :: st) (gh) (cells) (slots) := by
  obtain ⟨p, l', e, R, s, m, args, below, meth, c, Q⟩ := x
  obtain ⟨hx, hb, hml, hown, hts, hE, hlocks, hR, hl', htr⟩ := hC
  intro H locs ls hG hS hl
  refine lv_imul hx hb hd ?_
  rw [iI_mul]
  exact k H locs ls hG hS hl

theorem g_idiv (hC : gK x l D base nL own cc rm) {a b : Int} (hd : decode cc pc = .ok (.idiv, 1)) (ha : 0 ≤ a ∧ a < 2147483648) (hb0 : 0 < b ∧ b < 2147483648) (k : gV x D base nL (pc + 1) lv (vi (a / b) :: st) (gh) (cells) (slots)) : gV x D base nL (pc) lv (vi b :: vi a :: st) (gh) (cells) (slots) := by
  obtain ⟨p, l', e, R, s, m, args, below, meth, c, Q⟩ := x
  obtain ⟨hx, hb, hml, hown, hts, hE, hlocks, hR, hl', htr⟩ := hC
  intro H locs ls hG hS hl
  refine lv_idiv hx hb hd (fun h => ?_) ?_
  · have := iI_inj (a := b) (b := 0) (by omega) (by omega) h
    omega
  rw [iI_div ha hb0]
  exact k H locs ls hG hS hl

theorem g_irem (hC : gK x l D base nL own cc rm) {a b : Int} (hd : decode cc pc = .ok (.irem, 1)) (ha : 0 ≤ a ∧ a < 2147483648) (hb0 : 0 < b ∧ b < 2147483648) (k : gV x D base nL (pc + 1) lv (vi (a % b) :: st) (gh) (cells) (slots)) : gV x D base nL (pc) lv (vi b :: vi a :: st) (gh) (cells) (slots) := by
  obtain ⟨p, l', e, R, s, m, args, below, meth, c, Q⟩ := x
  obtain ⟨hx, hb, hml, hown, hts, hE, hlocks, hR, hl', htr⟩ := hC
  intro H locs ls hG hS hl
  refine lv_irem hx hb hd (fun h => ?_) ?_
  · have := iI_inj (a := b) (b := 0) (by omega) (by omega) h
    omega
  rw [iI_rem ha hb0]
  exact k H locs ls hG hS hl

theorem g_ineg (hC : gK x l D base nL own cc rm) {a : Int} (hd : decode cc pc = .ok (.ineg, 1)) (k : gV x D base nL (pc + 1) lv (vi (-a) :: st) (gh) (cells) (slots)) : gV x D base nL (pc) lv (vi a :: st) (gh) (cells) (slots) := by
  obtain ⟨p, l', e, R, s, m, args, below, meth, c, Q⟩ := x
  obtain ⟨hx, hb, hml, hown, hts, hE, hlocks, hR, hl', htr⟩ := hC
  intro H locs ls hG hS hl
  refine lv_ineg hx hb hd ?_
  rw [iI_neg]
  exact k H locs ls hG hS hl

theorem g_i2b (hC : gK x l D base nL own cc rm) {a : Int} (hd : decode cc pc = .ok (.i2b, 1)) (ha : -128 ≤ a ∧ a < 128) (k : gV x D base nL (pc + 1) lv (vi a :: st) (gh) (cells) (slots)) : gV x D base nL (pc) lv (vi a :: st) (gh) (cells) (slots) := by
  obtain ⟨p, l', e, R, s, m, args, below, meth, c, Q⟩ := x
  obtain ⟨hx, hb, hml, hown, hts, hE, hlocks, hR, hl', htr⟩ := hC
  intro H locs ls hG hS hl
  exact lv_i2b hx hb hd (iI_byte ha.1 ha.2) (k H locs ls hG hS hl)

theorem g_iandR (hC : gK x l D base nL own cc rm) {a b c0 : Int} (hd : decode cc pc = .ok (.iand, 1)) (h : iI a &&& iI b = iI c0) (k : gV x D base nL (pc + 1) lv (vi c0 :: st) (gh) (cells) (slots)) : gV x D base nL (pc) lv (vi b :: vi a :: st) (gh) (cells) (slots) := by
  obtain ⟨p, l', e, R, s, m, args, below, meth, c, Q⟩ := x
  obtain ⟨hx, hb, hml, hown, hts, hE, hlocks, hR, hl', htr⟩ := hC
  intro H locs ls hG hS hl
  refine lv_iand hx hb hd ?_
  rw [h]
  exact k H locs ls hG hS hl

theorem g_ishr0 (hC : gK x l D base nL own cc rm) {a : Int} (hd : decode cc pc = .ok (.ishr, 1)) (k : gV x D base nL (pc + 1) lv (vi a :: st) (gh) (cells) (slots)) : gV x D base nL (pc) lv (vi 0 :: vi a :: st) (gh) (cells) (slots) := by
  obtain ⟨p, l', e, R, s, m, args, below, meth, c, Q⟩ := x
  obtain ⟨hx, hb, hml, hown, hts, hE, hlocks, hR, hl', htr⟩ := hC
  intro H locs ls hG hS hl
  refine lv_ishr hx hb hd ?_
  rw [show iI a >>> (iI 0 &&& 31) = iI a from sb_shr0 (iI a)]
  exact k H locs ls hG hS hl

theorem g_ishl0 (hC : gK x l D base nL own cc rm) {a : Int} (hd : decode cc pc = .ok (.ishl, 1)) (k : gV x D base nL (pc + 1) lv (vi a :: st) (gh) (cells) (slots)) : gV x D base nL (pc) lv (vi 0 :: vi a :: st) (gh) (cells) (slots) := by
  obtain ⟨p, l', e, R, s, m, args, below, meth, c, Q⟩ := x
  obtain ⟨hx, hb, hml, hown, hts, hE, hlocks, hR, hl', htr⟩ := hC
  intro H locs ls hG hS hl
  refine lv_ishl hx hb hd ?_
  rw [show iI a <<< (iI 0 &&& 31) = iI a from sb_shl0 (iI a)]
  exact k H locs ls hG hS hl

theorem g_i2c (hC : gK x l D base nL own cc rm) {a b : Int} (hd : decode cc pc = .ok (.i2c, 1)) (h : ((iI a).toUInt32 % 65536).toInt32 = iI b) (k : gV x D base nL (pc + 1) lv (vi b :: st) (gh) (cells) (slots)) : gV x D base nL (pc) lv (vi a :: st) (gh) (cells) (slots) := by
  obtain ⟨p, l', e, R, s, m, args, below, meth, c, Q⟩ := x
  obtain ⟨hx, hb, hml, hown, hts, hE, hlocks, hR, hl', htr⟩ := hC
  intro H locs ls hG hS hl
  exact lv_i2c hx hb hd h (k H locs ls hG hS hl)

theorem g_i2l (hC : gK x l D base nL own cc rm) {a : Int} (hd : decode cc pc = .ok (.i2l, 1)) (k : gV x D base nL (pc + 1) lv (.long (iI a).toInt64 :: st) (gh) (cells) (slots)) : gV x D base nL (pc) lv (vi a :: st) (gh) (cells) (slots) := by
  obtain ⟨p, l', e, R, s, m, args, below, meth, c, Q⟩ := x
  obtain ⟨hx, hb, hml, hown, hts, hE, hlocks, hR, hl', htr⟩ := hC
  intro H locs ls hG hS hl
  exact lv_i2l hx hb hd rfl (k H locs ls hG hS hl)

theorem g_i2f (hC : gK x l D base nL own cc rm) {a : Int32} (hd : decode cc pc = .ok (.i2f, 1)) (k : gV x D base nL (pc + 1) lv (.float (FP.i2f a) :: st) (gh) (cells) (slots)) : gV x D base nL (pc) lv (.int a :: st) (gh) (cells) (slots) := by
  obtain ⟨p, l', e, R, s, m, args, below, meth, c, Q⟩ := x
  obtain ⟨hx, hb, hml, hown, hts, hE, hlocks, hR, hl', htr⟩ := hC
  intro H locs ls hG hS hl
  exact lv_i2f hx hb hd (k H locs ls hG hS hl)

theorem g_f2i (hC : gK x l D base nL own cc rm) {a : UInt32} (hd : decode cc pc = .ok (.f2i, 1)) (k : gV x D base nL (pc + 1) lv (.int (FP.f2i a) :: st) (gh) (cells) (slots)) : gV x D base nL (pc) lv (.float a :: st) (gh) (cells) (slots) := by
  obtain ⟨p, l', e, R, s, m, args, below, meth, c, Q⟩ := x
  obtain ⟨hx, hb, hml, hown, hts, hE, hlocks, hR, hl', htr⟩ := hC
  intro H locs ls hG hS hl
  exact lv_f2i hx hb hd (k H locs ls hG hS hl)

theorem g_fadd (hC : gK x l D base nL own cc rm) {a b : UInt32} (hd : decode cc pc = .ok (.fadd, 1)) (hn : vf_n32 (FP.fadd a b)) (k : gV x D base nL (pc + 1) lv (.float (FP.fadd a b) :: st) (gh) (cells) (slots)) : gV x D base nL (pc) lv (.float b :: .float a :: st) (gh) (cells) (slots) := by
  obtain ⟨p, l', e, R, s, m, args, below, meth, c, Q⟩ := x
  obtain ⟨hx, hb, hml, hown, hts, hE, hlocks, hR, hl', htr⟩ := hC
  intro H locs ls hG hS hl
  exact lv_fadd hx hb hd hn (k H locs ls hG hS hl)

theorem g_fsub (hC : gK x l D base nL own cc rm) {a b : UInt32} (hd : decode cc pc = .ok (.fsub, 1)) (hn : vf_n32 (FP.fsub a b)) (k : gV x D base nL (pc + 1) lv (.float (FP.fsub a b) :: st) (gh) (cells) (slots)) : gV x D base nL (pc) lv (.float b :: .float a :: st) (gh) (cells) (slots) := by
  obtain ⟨p, l', e, R, s, m, args, below, meth, c, Q⟩ := x
  obtain ⟨hx, hb, hml, hown, hts, hE, hlocks, hR, hl', htr⟩ := hC
  intro H locs ls hG hS hl
  exact lv_fsub hx hb hd hn (k H locs ls hG hS hl)

theorem g_fmul (hC : gK x l D base nL own cc rm) {a b : UInt32} (hd : decode cc pc = .ok (.fmul, 1)) (hn : vf_n32 (FP.fmul a b)) (k : gV x D base nL (pc + 1) lv (.float (FP.fmul a b) :: st) (gh) (cells) (slots)) : gV x D base nL (pc) lv (.float b :: .float a :: st) (gh) (cells) (slots) := by
  obtain ⟨p, l', e, R, s, m, args, below, meth, c, Q⟩ := x
  obtain ⟨hx, hb, hml, hown, hts, hE, hlocks, hR, hl', htr⟩ := hC
  intro H locs ls hG hS hl
  exact lv_fmul hx hb hd hn (k H locs ls hG hS hl)

theorem g_fdiv (hC : gK x l D base nL own cc rm) {a b : UInt32} (hd : decode cc pc = .ok (.fdiv, 1)) (hn : vf_n32 (FP.fdiv a b)) (k : gV x D base nL (pc + 1) lv (.float (FP.fdiv a b) :: st) (gh) (cells) (slots)) : gV x D base nL (pc) lv (.float b :: .float a :: st) (gh) (cells) (slots) := by
  obtain ⟨p, l', e, R, s, m, args, below, meth, c, Q⟩ := x
  obtain ⟨hx, hb, hml, hown, hts, hE, hlocks, hR, hl', htr⟩ := hC
  intro H locs ls hG hS hl
  exact lv_fdiv hx hb hd hn (k H locs ls hG hS hl)

theorem g_fconst1 (hC : gK x l D base nL own cc rm)  (hd : decode cc pc = .ok (.fconst 1, 1)) (k : gV x D base nL (pc + 1) lv (.float FP.fconst1 :: st) (gh) (cells) (slots)) : gV x D base nL (pc) lv (st) (gh) (cells) (slots) := by
  obtain ⟨p, l', e, R, s, m, args, below, meth, c, Q⟩ := x
  obtain ⟨hx, hb, hml, hown, hts, hE, hlocks, hR, hl', htr⟩ := hC
  intro H locs ls hG hS hl
  exact lv_fconst1 hx hb hd (k H locs ls hG hS hl)

theorem g_ldcf (hC : gK x l D base nL own cc rm) {idx : Nat} {v : UInt32} (hd : decode cc pc = .ok (.ldc idx, 2)) (hw : Cond.constantFloat own idx v ∈ gwA) (k : gV x D base nL (pc + 2) lv (.float v :: st) (gh) (cells) (slots)) : gV x D base nL (pc) lv (st) (gh) (cells) (slots) := by
  obtain ⟨p, l', e, R, s, m, args, below, meth, c, Q⟩ := x
  obtain ⟨hx, hb, hml, hown, hts, hE, hlocks, hR, hl', htr⟩ := hC
  intro H locs ls hG hS hl
  exact lv_ldcf hx hb hown (hts _ hw) hd (k H locs ls hG hS hl)

theorem g_dup (hC : gK x l D base nL own cc rm) {v : Value} (hd : decode cc pc = .ok (.dup, 1)) (hv : v.category = 1) (k : gV x D base nL (pc + 1) lv (v :: v :: st) (gh) (cells) (slots)) : gV x D base nL (pc) lv (v :: st) (gh) (cells) (slots) := by
  obtain ⟨p, l', e, R, s, m, args, below, meth, c, Q⟩ := x
  obtain ⟨hx, hb, hml, hown, hts, hE, hlocks, hR, hl', htr⟩ := hC
  intro H locs ls hG hS hl
  exact lv_dup hx hb hd hv (k H locs ls hG hS hl)

theorem g_pop (hC : gK x l D base nL own cc rm) {v : Value} (hd : decode cc pc = .ok (.pop, 1)) (hv : v.category = 1) (k : gV x D base nL (pc + 1) lv (st) (gh) (cells) (slots)) : gV x D base nL (pc) lv (v :: st) (gh) (cells) (slots) := by
  obtain ⟨p, l', e, R, s, m, args, below, meth, c, Q⟩ := x
  obtain ⟨hx, hb, hml, hown, hts, hE, hlocks, hR, hl', htr⟩ := hC
  intro H locs ls hG hS hl
  exact lv_pop hx hb hd hv (k H locs ls hG hS hl)

theorem g_dup2 (hC : gK x l D base nL own cc rm) {v w : Value} (hd : decode cc pc = .ok (.dup2, 1)) (hv : v.category = 1) (hw : w.category = 1) (k : gV x D base nL (pc + 1) lv (v :: w :: v :: w :: st) (gh) (cells) (slots)) : gV x D base nL (pc) lv (v :: w :: st) (gh) (cells) (slots) := by
  obtain ⟨p, l', e, R, s, m, args, below, meth, c, Q⟩ := x
  obtain ⟨hx, hb, hml, hown, hts, hE, hlocks, hR, hl', htr⟩ := hC
  intro H locs ls hG hS hl
  exact lv_dup2_11 hx hb hd hv hw (k H locs ls hG hS hl)

theorem g_dup_x1 (hC : gK x l D base nL own cc rm) {v w : Value} (hd : decode cc pc = .ok (.dup_x1, 1)) (hv : v.category = 1) (hw : w.category = 1) (k : gV x D base nL (pc + 1) lv (v :: w :: v :: st) (gh) (cells) (slots)) : gV x D base nL (pc) lv (v :: w :: st) (gh) (cells) (slots) := by
  obtain ⟨p, l', e, R, s, m, args, below, meth, c, Q⟩ := x
  obtain ⟨hx, hb, hml, hown, hts, hE, hlocks, hR, hl', htr⟩ := hC
  intro H locs ls hG hS hl
  exact lv_dup_x1 hx hb hd hv hw (k H locs ls hG hS hl)

theorem g_goto (hC : gK x l D base nL own cc rm) {off : Int} {tgt : Nat} (hd : decode cc pc = .ok (.goto off, 3)) (ht : (pc : Int) + off = (tgt : Int)) (k : gV x D base nL (tgt) lv (st) (gh) (cells) (slots)) : gV x D base nL (pc) lv (st) (gh) (cells) (slots) := by
  obtain ⟨p, l', e, R, s, m, args, below, meth, c, Q⟩ := x
  obtain ⟨hx, hb, hml, hown, hts, hE, hlocks, hR, hl', htr⟩ := hC
  intro H locs ls hG hS hl
  exact lv_goto hx hb hd ht (k H locs ls hG hS hl)

theorem g_icmp_eq (hC : gK x l D base nL own cc rm) {a b : Int} {off : Int} {tgt : Nat} (hd : decode cc pc = .ok (.if_icmp .eq off, 3)) (ht : (pc : Int) + off = (tgt : Int)) (ha : -2147483648 ≤ a ∧ a < 2147483648) (hb0 : -2147483648 ≤ b ∧ b < 2147483648)
    (kt : a = b → gV x D base nL tgt lv st gh cells slots) (kf : a ≠ b → gV x D base nL (pc + 3) lv st gh cells slots) : gV x D base nL pc lv (vi b :: vi a :: st) gh cells slots := by
  obtain ⟨p, l', e, R, s, m, args, below, meth, c, Q⟩ := x
  obtain ⟨hx, hb, hml, hown, hts, hE, hlocks, hR, hl', htr⟩ := hC
  intro H locs ls hG hS hl
  exact lv_icmp_eq hx hb hd ht (fun h => kt (iI_inj ha hb0 h) H locs ls hG hS hl) (fun h => kf ((fun z => h (by rw [z]))) H locs ls hG hS hl)

theorem g_if_eq (hC : gK x l D base nL own cc rm) {a : Int} {off : Int} {tgt : Nat} (hd : decode cc pc = .ok (.ifCond .eq off, 3)) (ht : (pc : Int) + off = (tgt : Int)) (ha : -2147483648 ≤ a ∧ a < 2147483648)
    (kt : a = 0 → gV x D base nL tgt lv st gh cells slots) (kf : a ≠ 0 → gV x D base nL (pc + 3) lv st gh cells slots) : gV x D base nL pc lv (vi a :: st) gh cells slots := by
  obtain ⟨p, l', e, R, s, m, args, below, meth, c, Q⟩ := x
  obtain ⟨hx, hb, hml, hown, hts, hE, hlocks, hR, hl', htr⟩ := hC
  intro H locs ls hG hS hl
  exact lv_if_eq hx hb hd ht (fun h => kt (iI_inj ha (by decide) h) H locs ls hG hS hl) (fun h => kf ((fun z => h (by rw [z]; rfl))) H locs ls hG hS hl)

theorem g_icmp_ne (hC : gK x l D base nL own cc rm) {a b : Int} {off : Int} {tgt : Nat} (hd : decode cc pc = .ok (.if_icmp .ne off, 3)) (ht : (pc : Int) + off = (tgt : Int)) (ha : -2147483648 ≤ a ∧ a < 2147483648) (hb0 : -2147483648 ≤ b ∧ b < 2147483648)
    (kt : a ≠ b → gV x D base nL tgt lv st gh cells slots) (kf : a = b → gV x D base nL (pc + 3) lv st gh cells slots) : gV x D base nL pc lv (vi b :: vi a :: st) gh cells slots := by
  obtain ⟨p, l', e, R, s, m, args, below, meth, c, Q⟩ := x
  obtain ⟨hx, hb, hml, hown, hts, hE, hlocks, hR, hl', htr⟩ := hC
  intro H locs ls hG hS hl
  exact lv_icmp_ne hx hb hd ht (fun h => kt ((fun z => h (by rw [z]))) H locs ls hG hS hl) (fun h => kf ((iI_inj ha hb0 h)) H locs ls hG hS hl)

theorem g_if_ne (hC : gK x l D base nL own cc rm) {a : Int} {off : Int} {tgt : Nat} (hd : decode cc pc = .ok (.ifCond .ne off, 3)) (ht : (pc : Int) + off = (tgt : Int)) (ha : -2147483648 ≤ a ∧ a < 2147483648)
    (kt : a ≠ 0 → gV x D base nL tgt lv st gh cells slots) (kf : a = 0 → gV x D base nL (pc + 3) lv st gh cells slots) : gV x D base nL pc lv (vi a :: st) gh cells slots := by
  obtain ⟨p, l', e, R, s, m, args, below, meth, c, Q⟩ := x
  obtain ⟨hx, hb, hml, hown, hts, hE, hlocks, hR, hl', htr⟩ := hC
  intro H locs ls hG hS hl
  exact lv_if_ne hx hb hd ht (fun h => kt ((fun z => h (by rw [z]; rfl))) H locs ls hG hS hl) (fun h => kf ((iI_inj ha (by decide) h)) H locs ls hG hS hl)

theorem g_icmp_lt (hC : gK x l D base nL own cc rm) {a b : Int} {off : Int} {tgt : Nat} (hd : decode cc pc = .ok (.if_icmp .lt off, 3)) (ht : (pc : Int) + off = (tgt : Int)) (ha : -2147483648 ≤ a ∧ a < 2147483648) (hb0 : -2147483648 ≤ b ∧ b < 2147483648)
    (kt : a < b → gV x D base nL tgt lv st gh cells slots) (kf : b ≤ a → gV x D base nL (pc + 3) lv st gh cells slots) : gV x D base nL pc lv (vi b :: vi a :: st) gh cells slots := by
  obtain ⟨p, l', e, R, s, m, args, below, meth, c, Q⟩ := x
  obtain ⟨hx, hb, hml, hown, hts, hE, hlocks, hR, hl', htr⟩ := hC
  intro H locs ls hG hS hl
  exact lv_icmp_lt hx hb hd ht (fun h => kt (((iI_lt ha hb0).mp h)) H locs ls hG hS hl) (fun h => kf ((Int.not_lt.mp (fun z => h ((iI_lt ha hb0).mpr z)))) H locs ls hG hS hl)

theorem g_if_lt (hC : gK x l D base nL own cc rm) {a : Int} {off : Int} {tgt : Nat} (hd : decode cc pc = .ok (.ifCond .lt off, 3)) (ht : (pc : Int) + off = (tgt : Int)) (ha : -2147483648 ≤ a ∧ a < 2147483648)
    (kt : a < 0 → gV x D base nL tgt lv st gh cells slots) (kf : 0 ≤ a → gV x D base nL (pc + 3) lv st gh cells slots) : gV x D base nL pc lv (vi a :: st) gh cells slots := by
  obtain ⟨p, l', e, R, s, m, args, below, meth, c, Q⟩ := x
  obtain ⟨hx, hb, hml, hown, hts, hE, hlocks, hR, hl', htr⟩ := hC
  intro H locs ls hG hS hl
  exact lv_if_lt hx hb hd ht (fun h => kt (((iI_lt ha (by decide)).mp h)) H locs ls hG hS hl) (fun h => kf ((Int.not_lt.mp (fun z => h ((iI_lt ha (b := 0) (by decide)).mpr z)))) H locs ls hG hS hl)

theorem g_icmp_ge (hC : gK x l D base nL own cc rm) {a b : Int} {off : Int} {tgt : Nat} (hd : decode cc pc = .ok (.if_icmp .ge off, 3)) (ht : (pc : Int) + off = (tgt : Int)) (ha : -2147483648 ≤ a ∧ a < 2147483648) (hb0 : -2147483648 ≤ b ∧ b < 2147483648)
    (kt : b ≤ a → gV x D base nL tgt lv st gh cells slots) (kf : a < b → gV x D base nL (pc + 3) lv st gh cells slots) : gV x D base nL pc lv (vi b :: vi a :: st) gh cells slots := by
  obtain ⟨p, l', e, R, s, m, args, below, meth, c, Q⟩ := x
  obtain ⟨hx, hb, hml, hown, hts, hE, hlocks, hR, hl', htr⟩ := hC
  intro H locs ls hG hS hl
  exact lv_icmp_ge hx hb hd ht (fun h => kt (((iI_le hb0 ha).mp h)) H locs ls hG hS hl) (fun h => kf ((Int.not_le.mp (fun z => h ((iI_le hb0 ha).mpr z)))) H locs ls hG hS hl)

theorem g_if_ge (hC : gK x l D base nL own cc rm) {a : Int} {off : Int} {tgt : Nat} (hd : decode cc pc = .ok (.ifCond .ge off, 3)) (ht : (pc : Int) + off = (tgt : Int)) (ha : -2147483648 ≤ a ∧ a < 2147483648)
    (kt : 0 ≤ a → gV x D base nL tgt lv st gh cells slots) (kf : a < 0 → gV x D base nL (pc + 3) lv st gh cells slots) : gV x D base nL pc lv (vi a :: st) gh cells slots := by
  obtain ⟨p, l', e, R, s, m, args, below, meth, c, Q⟩ := x
  obtain ⟨hx, hb, hml, hown, hts, hE, hlocks, hR, hl', htr⟩ := hC
  intro H locs ls hG hS hl
  exact lv_if_ge hx hb hd ht (fun h => kt (((iI_le (a := 0) (by decide) ha).mp h)) H locs ls hG hS hl) (fun h => kf ((Int.not_le.mp (fun z => h ((iI_le (a := 0) (by decide) ha).mpr z)))) H locs ls hG hS hl)

theorem g_icmp_gt (hC : gK x l D base nL own cc rm) {a b : Int} {off : Int} {tgt : Nat} (hd : decode cc pc = .ok (.if_icmp .gt off, 3)) (ht : (pc : Int) + off = (tgt : Int)) (ha : -2147483648 ≤ a ∧ a < 2147483648) (hb0 : -2147483648 ≤ b ∧ b < 2147483648)
    (kt : b < a → gV x D base nL tgt lv st gh cells slots) (kf : a ≤ b → gV x D base nL (pc + 3) lv st gh cells slots) : gV x D base nL pc lv (vi b :: vi a :: st) gh cells slots := by
  obtain ⟨p, l', e, R, s, m, args, below, meth, c, Q⟩ := x
  obtain ⟨hx, hb, hml, hown, hts, hE, hlocks, hR, hl', htr⟩ := hC
  intro H locs ls hG hS hl
  exact lv_icmp_gt hx hb hd ht (fun h => kt (((iI_lt hb0 ha).mp h)) H locs ls hG hS hl) (fun h => kf ((Int.not_lt.mp (fun z => h ((iI_lt hb0 ha).mpr z)))) H locs ls hG hS hl)

theorem g_if_gt (hC : gK x l D base nL own cc rm) {a : Int} {off : Int} {tgt : Nat} (hd : decode cc pc = .ok (.ifCond .gt off, 3)) (ht : (pc : Int) + off = (tgt : Int)) (ha : -2147483648 ≤ a ∧ a < 2147483648)
    (kt : 0 < a → gV x D base nL tgt lv st gh cells slots) (kf : a ≤ 0 → gV x D base nL (pc + 3) lv st gh cells slots) : gV x D base nL pc lv (vi a :: st) gh cells slots := by
  obtain ⟨p, l', e, R, s, m, args, below, meth, c, Q⟩ := x
  obtain ⟨hx, hb, hml, hown, hts, hE, hlocks, hR, hl', htr⟩ := hC
  intro H locs ls hG hS hl
  exact lv_if_gt hx hb hd ht (fun h => kt (((iI_lt (a := 0) (by decide) ha).mp h)) H locs ls hG hS hl) (fun h => kf ((Int.not_lt.mp (fun z => h ((iI_lt (a := 0) (by decide) ha).mpr z)))) H locs ls hG hS hl)

theorem g_icmp_le (hC : gK x l D base nL own cc rm) {a b : Int} {off : Int} {tgt : Nat} (hd : decode cc pc = .ok (.if_icmp .le off, 3)) (ht : (pc : Int) + off = (tgt : Int)) (ha : -2147483648 ≤ a ∧ a < 2147483648) (hb0 : -2147483648 ≤ b ∧ b < 2147483648)
    (kt : a ≤ b → gV x D base nL tgt lv st gh cells slots) (kf : b < a → gV x D base nL (pc + 3) lv st gh cells slots) : gV x D base nL pc lv (vi b :: vi a :: st) gh cells slots := by
  obtain ⟨p, l', e, R, s, m, args, below, meth, c, Q⟩ := x
  obtain ⟨hx, hb, hml, hown, hts, hE, hlocks, hR, hl', htr⟩ := hC
  intro H locs ls hG hS hl
  exact lv_icmp_le hx hb hd ht (fun h => kt (((iI_le ha hb0).mp h)) H locs ls hG hS hl) (fun h => kf ((Int.not_le.mp (fun z => h ((iI_le ha hb0).mpr z)))) H locs ls hG hS hl)

theorem g_if_le (hC : gK x l D base nL own cc rm) {a : Int} {off : Int} {tgt : Nat} (hd : decode cc pc = .ok (.ifCond .le off, 3)) (ht : (pc : Int) + off = (tgt : Int)) (ha : -2147483648 ≤ a ∧ a < 2147483648)
    (kt : a ≤ 0 → gV x D base nL tgt lv st gh cells slots) (kf : 0 < a → gV x D base nL (pc + 3) lv st gh cells slots) : gV x D base nL pc lv (vi a :: st) gh cells slots := by
  obtain ⟨p, l', e, R, s, m, args, below, meth, c, Q⟩ := x
  obtain ⟨hx, hb, hml, hown, hts, hE, hlocks, hR, hl', htr⟩ := hC
  intro H locs ls hG hS hl
  exact lv_if_le hx hb hd ht (fun h => kt (((iI_le ha (b := 0) (by decide)).mp h)) H locs ls hG hS hl) (fun h => kf ((Int.not_le.mp (fun z => h ((iI_le ha (b := 0) (by decide)).mpr z)))) H locs ls hG hS hl)

theorem g_ifeq_b (hC : gK x l D base nL own cc rm) {a : Bool} {off : Int} {tgt : Nat} (hd : decode cc pc = .ok (.ifCond .eq off, 3)) (ht : (pc : Int) + off = (tgt : Int))
    (kt : a = false → gV x D base nL tgt lv st gh cells slots) (kf : a = true → gV x D base nL (pc + 3) lv st gh cells slots) : gV x D base nL pc lv (vi (b2i a) :: st) gh cells slots := by
  cases a with
  | false => exact g_if_eq hC hd ht (by decide) (fun _ => kt rfl) (fun h => absurd rfl h)
  | true => exact g_if_eq hC hd ht (by decide) (fun h => absurd h (by decide)) (fun _ => kf rfl)
theorem g_ifne_b (hC : gK x l D base nL own cc rm) {a : Bool} {off : Int} {tgt : Nat} (hd : decode cc pc = .ok (.ifCond .ne off, 3)) (ht : (pc : Int) + off = (tgt : Int))
    (kt : a = true → gV x D base nL tgt lv st gh cells slots) (kf : a = false → gV x D base nL (pc + 3) lv st gh cells slots) : gV x D base nL pc lv (vi (b2i a) :: st) gh cells slots := by
  cases a with
  | false => exact g_if_ne hC hd ht (by decide) (fun h => absurd rfl h) (fun _ => kf rfl)
  | true => exact g_if_ne hC hd ht (by decide) (fun _ => kt rfl) (fun h => absurd h (by decide))
theorem g_ifnull (hC : gK x l D base nL own cc rm) {v : Option Nat} {off : Int} {tgt : Nat} (hd : decode cc pc = .ok (.ifnull off, 3)) (ht : (pc : Int) + off = (tgt : Int))
    (kt : v = none → gV x D base nL tgt lv st gh cells slots) (kf : ∀ a, v = some a → gV x D base nL (pc + 3) lv st gh cells slots) : gV x D base nL pc lv (va_rf v :: st) gh cells slots := by
  obtain ⟨p, l', e, R, s, m, args, below, meth, c, Q⟩ := x
  obtain ⟨hx, hb, hml, hown, hts, hE, hlocks, hR, hl', htr⟩ := hC
  intro H locs ls hG hS hl
  cases v with
  | none => exact lv_ifnullN hx hb hd ht (kt rfl H locs ls hG hS hl)
  | some a => exact lv_ifnull hx hb hd (kf a rfl H locs ls hG hS hl)
theorem g_ifnonnull (hC : gK x l D base nL own cc rm) {v : Option Nat} {off : Int} {tgt : Nat} (hd : decode cc pc = .ok (.ifnonnull off, 3)) (ht : (pc : Int) + off = (tgt : Int))
    (kt : ∀ a, v = some a → gV x D base nL tgt lv st gh cells slots) (kf : v = none → gV x D base nL (pc + 3) lv st gh cells slots) : gV x D base nL pc lv (va_rf v :: st) gh cells slots := by
  obtain ⟨p, l', e, R, s, m, args, below, meth, c, Q⟩ := x
  obtain ⟨hx, hb, hml, hown, hts, hE, hlocks, hR, hl', htr⟩ := hC
  intro H locs ls hG hS hl
  cases v with
  | none => exact lv_ifnonnullN hx hb hd (kf rfl H locs ls hG hS hl)
  | some a => exact lv_ifnonnull hx hb hd ht (kt a rfl H locs ls hG hS hl)

/-- own's pool entry idx is the field k of the class ci -/
def gFd (own : String) (idx ci k : Nat) : Prop := ∃ (C : String) (T : u_T) (N : Nat), vwCl[ci]? = some (C, T, N) ∧ (∀ w ∈ u_ws C T N, w ∈ gwA) ∧ k < N ∧ Cond.fieldLink own idx (T k).1 (T k).2.1 (T k).2.2.1 ∈ gwA
/-- .. as it's written: its type, whether it's final (then in its own class' constructor alone) -/
def gFw (own : String) (idx ci k : Nat) (fin : Bool) (ty : FieldType) : Prop := ∃ (C : String) (T : u_T) (N : Nat), vwCl[ci]? = some (C, T, N) ∧ (∀ w ∈ u_ws C T N, w ∈ gwA) ∧ k < N ∧ Cond.fieldLink own idx (T k).1 (T k).2.1 (T k).2.2.1 ∈ gwA ∧
  (∃ ty0 : Nat → FieldType, (∀ k, k < N → parseFieldDescriptor (T k).2.2.1 = some (ty0 k)) ∧ ty0 k = ty) ∧ (∀ a, a < N → ∀ b, b < N → a ≠ b → (T a).2.1 ≠ (T b).2.1) ∧ (T k).2.2.2 = fin ∧ (fin = true → (T k).1 = own)
theorem gG.one {H : Heap} (hG : gG D base gh H) {a : Nat} {cl : gC} (ha : gh a = some cl) : va_P D.1 vwCl [(a, g2 D cl)] H := fun j q hj => by
  cases j with
  | zero => cases hj; exact (hG a cl ha).2
  | succ j => simp at hj
theorem g_get (hC : gK x l D base nL own cc rm) {idx ci k a : Nat} {fs : List Value} {v : Value} (hd : decode cc pc = .ok (.getfield idx, 3)) (hf : gFd own idx ci k) (ha : gh a = some (gO ci fs)) (hv : fs[k]? = some v)
    (kk : gV x D base nL (pc + 3) lv (v :: st) gh cells slots) : gV x D base nL pc lv (.ref a :: st) gh cells slots := by
  obtain ⟨p, l', e, R, s, m, args, below, meth, c, Q⟩ := x
  obtain ⟨hx, hb, hml, hown, hts, hE, hlocks, hR, hl', htr⟩ := hC
  intro H locs ls hG hS hl
  obtain ⟨C, T, N, h1, h2, h3, h4⟩ := hf
  exact va_get hx hb hts h2 hown hE.1 (hG.one ha) 0 rfl h1 k h3 (hts _ h4) (fun _ h => h) hv hd (kk H locs ls hG hS hl)
theorem g_put (hC : gK x l D base nL own cc rm) {idx ci k a : Nat} {fs fs' : List Value} {v : Value} {ty : FieldType} (hd : decode cc pc = .ok (.putfield idx, 3)) (hf : gFw own idx ci k false ty) (ha : gh a = some (gO ci fs)) (hn : narrow ty v = v ∧ fits ty v = true) (hs : fs.set k v = fs') (hlen : k < fs.length)
    (kk : gV x D base nL (pc + 3) lv st (gset gh a (gO ci fs')) cells slots) : gV x D base nL pc lv (v :: .ref a :: st) gh cells slots := by
  obtain ⟨p, l', e, R, s, m, args, below, meth, c, Q⟩ := x
  obtain ⟨hx, hb, hml, hown, hts, hE, hlocks, hR, hl', htr⟩ := hC
  intro H locs ls hG hS hl
  subst hs
  obtain ⟨C, T, N, h1, h2, h3, h4, ⟨ty0, h5, rfl⟩, h6, h7, -⟩ := hf
  have hK := hE.1
  have hap := va_apart (own := own) hts h2 ty0 h5 h6 hK h1
  obtain ⟨hba, r, r1, cell, q1, q2, q3, q4⟩ := hG a _ ha
  have hr : r = (C, T, N) := Option.some.inj (r1.symm.trans h1)
  subst hr
  obtain ⟨hS1, hfc, kC, hkC, hkind⟩ := hK.1 ci _ h1
  obtain ⟨cf, kf, fi, f, hi, hsl⟩ := hS1 k h3
  have hlay := hts _ (h2 _ (u_in_lay h3))
  unfold u_lay at hlay
  rw [if_neg (by rw [h7]; decide)] at hlay
  have hst := (u_facts hfc hkC (u_lays hts h2 h3) hi).1
  have h8 := u_store hfc hkC hkind hlay hi (h5 k h3) hn.1 hn.2
  refine W.putK hx hb (f := f) ⟨hown, hts _ h4, ⟨_, _, _, hi⟩, hst⟩ (by rw [q2]; exact h8) q1 q3 (by rw [hsl]; exact k2_hasslot (q4 k h3)) rfl rfl hd fun H' e1 e2 e3 => ?_
  rw [hsl] at e1 ⊢
  exact kk H' _ ls (hG.set hba ⟨_, h1, t_OB.to (V := updV (vp_V fs) k v) ⟨_, e1, q2, q3, t_set q4 hap h3 v⟩ (fun j _ => vp_updV_set hlen v j)⟩ e3) (hS.put e2 e3 hba) hl
theorem g_putF (hC : gK x l D base nL own cc rm) {idx ci k a : Nat} {fs fs' : List Value} {v : Value} {ty : FieldType} {post : Option Value → gH → Prop} {postX : String → gH → Prop} {mc ms : Nat} {ret : Option FieldType} (hq : gEnd x D base post postX mc ms ret "<init>") (hd : decode cc pc = .ok (.putfield idx, 3)) (hf : gFw own idx ci k true ty) (ha : gh a = some (gO ci fs)) (hn : narrow ty v = v ∧ fits ty v = true) (hs : fs.set k v = fs') (hlen : k < fs.length)
    (kk : gV x D base nL (pc + 3) lv st (gset gh a (gO ci fs')) cells slots) : gV x D base nL pc lv (v :: .ref a :: st) gh cells slots := by
  obtain ⟨p, l', e, R, s, m, args, below, meth, c, Q⟩ := x
  obtain ⟨hx, hb, hml, hown, hts, hE, hlocks, hR, hl', htr⟩ := hC
  intro H locs ls hG hS hl
  subst hs
  obtain ⟨C, T, N, h1, h2, h3, h4, ⟨ty0, h5, rfl⟩, h6, h7, hdecl⟩ := hf
  have hin2 : meth.name = "<init>" := hq.2.2.1
  have hK := hE.1
  have hap := va_apart (own := own) hts h2 ty0 h5 h6 hK h1
  obtain ⟨hba, r, r1, cell, q1, q2, q3, q4⟩ := hG a _ ha
  have hr : r = (C, T, N) := Option.some.inj (r1.symm.trans h1)
  subst hr
  obtain ⟨hS1, hfc, kC, hkC, hkind⟩ := hK.1 ci _ h1
  obtain ⟨cf, kf, fi, f, hi, hsl⟩ := hS1 k h3
  have hlay := hts _ (h2 _ (u_in_lay h3))
  unfold u_lay at hlay
  rw [if_pos h7] at hlay
  have hst := (u_facts hfc hkC (u_lays hts h2 h3) hi).1
  have hcf : m.cls = cf := by
    obtain ⟨_, _, c', _, _, _, -, -, hf', -, -, -, hown2, -⟩ := Cond.laysFinal_spec hlay
    have e1 : c' = cf := by have := hi.symm.trans hf'; simp at this; exact this.1.symm
    rw [hdecl rfl] at hown2
    rw [← e1]; exact Option.some.inj (hown.symm.trans hown2)
  have h8 := u_fits hfc hkC hkind (Or.inr hlay) hi (h5 k h3) hn.1 hn.2
  refine W.putFinK hx hb hown (hts _ h4) hi hst hcf hin2 (by rw [q2]; exact h8) q1 q3 (by rw [hsl]; exact k2_hasslot (q4 k h3)) rfl rfl hd fun H' e1 e2 e3 => ?_
  rw [hsl] at e1 ⊢
  exact kk H' _ ls (hG.set hba ⟨_, h1, t_OB.to (V := updV (vp_V fs) k v) ⟨_, e1, q2, q3, t_set q4 hap h3 v⟩ (fun j _ => vp_updV_set hlen v j)⟩ e3) (hS.put e2 e3 hba) hl

theorem g_iald (hC : gK x l D base nL own cc rm) {a n : Nat} {F : Nat → Int} {i z : Int} (hd : decode cc pc = .ok (.iaload, 1)) (ha : gh a = some (gI 1 n F)) (hi : 0 ≤ i ∧ i < n) (hn : n < 2147483648) (hz : F i.toNat = z)
    (kk : gV x D base nL (pc + 1) lv (vi z :: st) gh cells slots) : gV x D base nL pc lv (vi i :: .ref a :: st) gh cells slots := by
  obtain ⟨p, l', e, R, s, m, args, below, meth, c, Q⟩ := x
  obtain ⟨hx, hb, hml, hown, hts, hE, hlocks, hR, hl', htr⟩ := hC
  intro H locs ls hG hS hl
  subst hz
  refine va_iald hx hb hE.1 (hG.one ha) 0 1 rfl (gtys_at D (by decide)) (iI_in hi.1 hi.2 hn) hd ?_
  rw [iI_clamp hi.1 (by omega)]
  exact kk H locs ls hG hS hl

theorem g_bald (hC : gK x l D base nL own cc rm) {a n : Nat} {F : Nat → Int} {i z : Int} (hd : decode cc pc = .ok (.baload, 1)) (ha : gh a = some (gI 2 n F)) (hi : 0 ≤ i ∧ i < n) (hn : n < 2147483648) (hz : F i.toNat = z)
    (kk : gV x D base nL (pc + 1) lv (vi z :: st) gh cells slots) : gV x D base nL pc lv (vi i :: .ref a :: st) gh cells slots := by
  obtain ⟨p, l', e, R, s, m, args, below, meth, c, Q⟩ := x
  obtain ⟨hx, hb, hml, hown, hts, hE, hlocks, hR, hl', htr⟩ := hC
  intro H locs ls hG hS hl
  subst hz
  refine va_bald hx hb hE.1 (hG.one ha) 0 2 rfl (gtys_at D (by decide)) (iI_in hi.1 hi.2 hn) hd ?_
  rw [iI_clamp hi.1 (by omega)]
  exact kk H locs ls hG hS hl

theorem g_cald (hC : gK x l D base nL own cc rm) {a n : Nat} {F : Nat → Int} {i z : Int} (hd : decode cc pc = .ok (.caload, 1)) (ha : gh a = some (gI 0 n F)) (hi : 0 ≤ i ∧ i < n) (hn : n < 2147483648) (hz : F i.toNat = z)
    (kk : gV x D base nL (pc + 1) lv (vi z :: st) gh cells slots) : gV x D base nL pc lv (vi i :: .ref a :: st) gh cells slots := by
  obtain ⟨p, l', e, R, s, m, args, below, meth, c, Q⟩ := x
  obtain ⟨hx, hb, hml, hown, hts, hE, hlocks, hR, hl', htr⟩ := hC
  intro H locs ls hG hS hl
  subst hz
  refine va_cald hx hb hE.1 (hG.one ha) 0 0 rfl (gtys_at D (by decide)) (iI_in hi.1 hi.2 hn) hd ?_
  rw [iI_clamp hi.1 (by omega)]
  exact kk H locs ls hG hS hl

theorem g_aald (hC : gK x l D base nL own cc rm) {a n kd : Nat} {F : Nat → Option Nat} {i : Int} {v : Option Nat} {C : String} (hd : decode cc pc = .ok (.aaload, 1)) (ha : gh a = some (gR kd n F)) (hk : kd < 10) (hC2 : gty kd = .object C) (hi : 0 ≤ i ∧ i < n) (hn : n < 2147483648) (hz : F i.toNat = v)
    (kk : gV x D base nL (pc + 1) lv (va_rf v :: st) gh cells slots) : gV x D base nL pc lv (vi i :: .ref a :: st) gh cells slots := by
  obtain ⟨p, l', e, R, s, m, args, below, meth, c, Q⟩ := x
  obtain ⟨hx, hb, hml, hown, hts, hE, hlocks, hR, hl', htr⟩ := hC
  intro H locs ls hG hS hl
  subst hz
  refine va_aldq hx hb hE.1 (hG.one ha) 0 kd rfl (by rw [gtys_at D hk, hC2]) (iI_in hi.1 hi.2 hn) hd ?_
  rw [iI_clamp hi.1 (by omega)]
  exact kk H locs ls hG hS hl
theorem g_alenI (hC : gK x l D base nL own cc rm) {a n kd : Nat} {F : Nat → Int} (hd : decode cc pc = .ok (.arraylength, 1)) (ha : gh a = some (gI kd n F)) (hk : kd < 10)
    (kk : gV x D base nL (pc + 1) lv (vi n :: st) gh cells slots) : gV x D base nL pc lv (.ref a :: st) gh cells slots := by
  obtain ⟨p, l', e, R, s, m, args, below, meth, c, Q⟩ := x
  obtain ⟨hx, hb, hml, hown, hts, hE, hlocks, hR, hl', htr⟩ := hC
  intro H locs ls hG hS hl
  exact va_alen hx hb hE.1 (hG.one ha) 0 kd rfl (gtys_at D hk) (iI_nI n).symm hd (kk H locs ls hG hS hl)
theorem g_alenR (hC : gK x l D base nL own cc rm) {a n kd : Nat} {F : Nat → Option Nat} (hd : decode cc pc = .ok (.arraylength, 1)) (ha : gh a = some (gR kd n F)) (hk : kd < 10)
    (kk : gV x D base nL (pc + 1) lv (vi n :: st) gh cells slots) : gV x D base nL pc lv (.ref a :: st) gh cells slots := by
  obtain ⟨p, l', e, R, s, m, args, below, meth, c, Q⟩ := x
  obtain ⟨hx, hb, hml, hown, hts, hE, hlocks, hR, hl', htr⟩ := hC
  intro H locs ls hG hS hl
  exact va_alen hx hb hE.1 (hG.one ha) 0 kd rfl (gtys_at D hk) (iI_nI n).symm hd (kk H locs ls hG hS hl)
def gup {α : Type} (F : Nat → α) (k : Nat) (v : α) : Nat → α := fun j => if j = k then v else F j
theorem gup_eq {α : Type} {F : Nat → α} {k : Nat} {v : α} : gup F k v k = v := if_pos rfl
theorem gup_ne {α : Type} {F : Nat → α} {k j : Nat} {v : α} (h : j ≠ k) : gup F k v j = F j := if_neg h
theorem arrR (D : gD) {s : State} {kd : Nat} (hE : gE D base s) (hk : kd < 10) : ArrOfT s (D.2 kd) (gty kd) := (hE.1.2 kd _ (gtys_at D hk)).1

theorem g_iast (hC : gK x l D base nL own cc rm) {a n : Nat} {F : Nat → Int} {i z : Int} (hd : decode cc pc = .ok (.iastore, 1)) (ha : gh a = some (gI 1 n F)) (hi : 0 ≤ i ∧ i < n) (hn : n < 2147483648)
    (kk : gV x D base nL (pc + 1) lv st (gset gh a (gI 1 n (gup F i.toNat z))) cells slots) : gV x D base nL pc lv (vi z :: vi i :: .ref a :: st) gh cells slots := by
  obtain ⟨p, l', e, R, s, m, args, below, meth, c, Q⟩ := x
  obtain ⟨hx, hb, hml, hown, hts, hE, hlocks, hR, hl', htr⟩ := hC
  intro H locs ls hG hS hl
  obtain ⟨hba, hat⟩ := hG a _ ha
  refine W.iast hx hb hat ((arrR D hE (kd := 1) (by decide)) n (fun j => .int (iI (F j)))) (fun q => by cases q) (by show ¬ (_ ∨ (arrV _ _ _).slots.size ≤ _); rw [arrV_size]; exact iI_in hi.1 hi.2 hn) rfl rfl hd fun H1 e z1 oq => ?_
  refine kk H1 _ ls (hG.set hba ?_ oq) (hS.put z1 oq hba) hl
  · show H1[a]? = some (vp_cell _ _)
    rw [e, vp_cell_i]
    show some (Cell.setSlot (vp_cell (D.2 1) (n, .inl (fun j => iI (F j)))) _ _) = _
    rw [vp_cell_i, arrV_store]
    show some (arrV _ _ _) = some (arrV (D.2 1) n (fun j => .int (iI (gup F i.toNat z j))))
    congr 2
    funext q
    rw [iI_clamp hi.1 (by omega)]
    by_cases hq : q = i.toNat
    · subst hq
      simp [updV, gup]
    · simp [updV, gup, hq]

theorem g_cast (hC : gK x l D base nL own cc rm) {a n : Nat} {F : Nat → Int} {i z : Int} (hd : decode cc pc = .ok (.castore, 1)) (ha : gh a = some (gI 0 n F)) (hi : 0 ≤ i ∧ i < n) (hn : n < 2147483648) (hz : 0 ≤ z ∧ z < 65536)
    (kk : gV x D base nL (pc + 1) lv st (gset gh a (gI 0 n (gup F i.toNat z))) cells slots) : gV x D base nL pc lv (vi z :: vi i :: .ref a :: st) gh cells slots := by
  obtain ⟨p, l', e, R, s, m, args, below, meth, c, Q⟩ := x
  obtain ⟨hx, hb, hml, hown, hts, hE, hlocks, hR, hl', htr⟩ := hC
  intro H locs ls hG hS hl
  obtain ⟨hba, hat⟩ := hG a _ ha
  refine W.cast hx hb hat ((arrR D hE (kd := 0) (by decide)) n (fun j => .int (iI (F j)))) (fun q => by cases q) (by show ¬ (_ ∨ (arrV _ _ _).slots.size ≤ _); rw [arrV_size]; exact iI_in hi.1 hi.2 hn) rfl rfl hd fun H1 e z1 oq => ?_
  refine kk H1 _ ls (hG.set hba ?_ oq) (hS.put z1 oq hba) hl
  · show H1[a]? = some (vp_cell _ _)
    have e9 : narrow .char (.int (iI z)) = .int (iI z) := iI_charN hz.1 hz.2
    rw [e9] at e
    rw [e, vp_cell_i]
    show some (Cell.setSlot (vp_cell (D.2 0) (n, .inl (fun j => iI (F j)))) _ _) = _
    rw [vp_cell_i, arrV_store]
    show some (arrV _ _ _) = some (arrV (D.2 0) n (fun j => .int (iI (gup F i.toNat z j))))
    congr 2
    funext q
    rw [iI_clamp hi.1 (by omega)]
    by_cases hq : q = i.toNat
    · subst hq
      simp [updV, gup]
    · simp [updV, gup, hq]

theorem g_bast (hC : gK x l D base nL own cc rm) {a n : Nat} {F : Nat → Int} {i z : Int} (hd : decode cc pc = .ok (.bastore, 1)) (ha : gh a = some (gI 2 n F)) (hi : 0 ≤ i ∧ i < n) (hn : n < 2147483648) (hz : -128 ≤ z ∧ z < 128)
    (kk : gV x D base nL (pc + 1) lv st (gset gh a (gI 2 n (gup F i.toNat z))) cells slots) : gV x D base nL pc lv (vi z :: vi i :: .ref a :: st) gh cells slots := by
  obtain ⟨p, l', e, R, s, m, args, below, meth, c, Q⟩ := x
  obtain ⟨hx, hb, hml, hown, hts, hE, hlocks, hR, hl', htr⟩ := hC
  intro H locs ls hG hS hl
  obtain ⟨hba, hat⟩ := hG a _ ha
  refine W.bast hx hb hat ((arrR D hE (kd := 2) (by decide)) n (fun j => .int (iI (F j)))) (fun q => by cases q) (by show ¬ (_ ∨ (arrV _ _ _).slots.size ≤ _); rw [arrV_size]; exact iI_in hi.1 hi.2 hn) rfl rfl hd fun H1 e z1 oq => ?_
  refine kk H1 _ ls (hG.set hba ?_ oq) (hS.put z1 oq hba) hl
  · show H1[a]? = some (vp_cell _ _)
    have e9 : narrow .byte (.int (iI z)) = .int (iI z) := by show Value.int (iI z).toInt8.toInt32 = _; rw [iI_byte hz.1 hz.2]
    rw [e9] at e
    rw [e, vp_cell_i]
    show some (Cell.setSlot (vp_cell (D.2 2) (n, .inl (fun j => iI (F j)))) _ _) = _
    rw [vp_cell_i, arrV_store]
    show some (arrV _ _ _) = some (arrV (D.2 2) n (fun j => .int (iI (gup F i.toNat z j))))
    congr 2
    funext q
    rw [iI_clamp hi.1 (by omega)]
    by_cases hq : q = i.toNat
    · subst hq
      simp [updV, gup]
    · simp [updV, gup, hq]

theorem g_aast (hC : gK x l D base nL own cc rm) {a n kd ci v : Nat} {F : Nat → Option Nat} {i : Int} {r : vw_C} {vs : List Value} (hd : decode cc pc = .ok (.aastore, 1)) (ha : gh a = some (gR kd n F)) (hk : kd < 10) (hC2 : gty kd = .object r.1) (hv : gh v = some (gO ci vs)) (hr : vwCl[ci]? = some r) (hi : 0 ≤ i ∧ i < n) (hn : n < 2147483648)
    (kk : gV x D base nL (pc + 1) lv st (gset gh a (gR kd n (gup F i.toNat (some v)))) cells slots) : gV x D base nL pc lv (.ref v :: vi i :: .ref a :: st) gh cells slots := by
  obtain ⟨p, l', e, R, s, m, args, below, meth, c, Q⟩ := x
  obtain ⟨hx, hb, hml, hown, hts, hE, hlocks, hR, hl', htr⟩ := hC
  intro H locs ls hG hS hl
  obtain ⟨hba, hat⟩ := hG a _ ha
  obtain ⟨-, r', hr', cellV, g1, g2', g3, -⟩ := hG v _ hv
  have hin := iI_in hi.1 hi.2 hn
  have hlt : (iI i).toNatClampNeg < n := Nat.not_le.mp fun q => hin (Or.inr q)
  have h0 : ¬ iI i < 0 := fun q => hin (Or.inl q)
  have hcls := (hE.1.1 ci r hr).2
  have hRA := (hE.1.2 kd _ (gtys_at D hk)).2
  rw [hC2] at hRA
  obtain ⟨kA, comp, k1, k2, k3, -⟩ := hRA
  have hcomp : comp = D.1.1 ci := Option.some.inj (k3.symm.trans hcls.1)
  subst hcomp
  obtain ⟨kC, hkC, -⟩ := hcls.2
  refine W.aast hx hb hat (fun q h => by cases h) (fun h => by cases h) k1 k2 rfl hkC ⟨h0, by show _ < (arrV _ _ _).slots.size; rw [arrV_size]; exact hlt⟩ g1 (fun q h => by rw [g3] at h; cases h) (by rw [g2']; exact hkC) (by rw [g2']; exact va_assign hcls) rfl rfl hd fun H1 e z1 oq => ?_
  refine kk H1 _ ls (hG.set hba ?_ oq) (hS.put z1 oq hba) hl
  show H1[a]? = some (vp_cell _ _)
  rw [e, vp_cell_q]
  show some (Cell.setSlot (vp_cell (D.2 kd) (n, .inr (.inr (.inr (.inr F))))) _ _) = _
  rw [vp_cell_q, arrV_store]
  show some (arrV _ _ _) = some (arrV (D.2 kd) n (fun j => va_rf (gup F i.toNat (some v) j)))
  congr 2
  funext q
  rw [iI_clamp hi.1 (by omega)]
  by_cases hq : q = i.toNat
  · subst hq
    simp [updV, gup, va_rf]
  · simp [updV, gup, hq]

theorem g_newI (hC : gK x l D base nL own cc rm) {n : Nat} {z : Int} (hd : decode cc pc = .ok (.newarray .int, 2)) (hw : Cond.arrayClass .int ∈ gwA) (hz : z = (n : Int)) (hn : n ≤ 100000) (hcl : cells + 1 ≤ rm.cells) (hsl : slots + n ≤ rm.slots)
    (kk : ∀ q : Nat, gh q = none → gV x D base nL (pc + 2) lv (.ref q :: st) (gset gh q (gI 1 n (fun _ => 0))) (cells + 1) (slots + n)) : gV x D base nL pc lv (vi z :: st) gh cells slots := by
  obtain ⟨p, l', e, R, s, m, args, below, meth, c, Q⟩ := x
  obtain ⟨hx, hb, hml, hown, hts, hE, hlocks, hR, hl', htr⟩ := hC
  intro H locs ls hG hS hl
  subst hz
  subst hR
  have e0 : (iI (n : Int)).toNatClampNeg = n := by rw [iI_clamp (by omega) (by omega)]; omega
  refine va_newaK hx hb (atype := .int) (hts _ hw) rfl hd rfl (fun h => by have := (iI_lt (a := (n : Int)) (b := 0) (by omega) (by decide)).mp h; omega) e0 (by show n * _ ≤ _; simp [newarray.typeOf, componentBytes]; omega) hcl hsl rfl fun H1 cA e1 z1 o1 hAr hNm => ?_
  have hcA : cA = D.2 1 := by
    have h := (hE.1.2 1 _ (gtys_at D (by decide))).2
    exact Option.some.inj (hNm.symm.trans h)
  subst hcA
  refine kk H.size (hG.fresh (Nat.le_refl _)) H1 locs ls (hG.new (Nat.le_trans hE.2.1 hS.1) ?_ o1) ⟨Nat.le_trans hS.1 (by omega), fun q h1 h2 => (o1 q (Nat.lt_of_lt_of_le h1 hS.1)).trans (hS.2.1 q h1 h2), hS.2.2⟩ hl
  exact e1

theorem g_newC (hC : gK x l D base nL own cc rm) {n : Nat} {z : Int} (hd : decode cc pc = .ok (.newarray .char, 2)) (hw : Cond.arrayClass .char ∈ gwA) (hz : z = (n : Int)) (hn : n ≤ 100000) (hcl : cells + 1 ≤ rm.cells) (hsl : slots + n ≤ rm.slots)
    (kk : ∀ q : Nat, gh q = none → gV x D base nL (pc + 2) lv (.ref q :: st) (gset gh q (gI 0 n (fun _ => 0))) (cells + 1) (slots + n)) : gV x D base nL pc lv (vi z :: st) gh cells slots := by
  obtain ⟨p, l', e, R, s, m, args, below, meth, c, Q⟩ := x
  obtain ⟨hx, hb, hml, hown, hts, hE, hlocks, hR, hl', htr⟩ := hC
  intro H locs ls hG hS hl
  subst hz
  subst hR
  have e0 : (iI (n : Int)).toNatClampNeg = n := by rw [iI_clamp (by omega) (by omega)]; omega
  refine va_newaK hx hb (atype := .char) (hts _ hw) rfl hd rfl (fun h => by have := (iI_lt (a := (n : Int)) (b := 0) (by omega) (by decide)).mp h; omega) e0 (by show n * _ ≤ _; simp [newarray.typeOf, componentBytes]; omega) hcl hsl rfl fun H1 cA e1 z1 o1 hAr hNm => ?_
  have hcA : cA = D.2 0 := by
    have h := (hE.1.2 0 _ (gtys_at D (by decide))).2
    exact Option.some.inj (hNm.symm.trans h)
  subst hcA
  refine kk H.size (hG.fresh (Nat.le_refl _)) H1 locs ls (hG.new (Nat.le_trans hE.2.1 hS.1) ?_ o1) ⟨Nat.le_trans hS.1 (by omega), fun q h1 h2 => (o1 q (Nat.lt_of_lt_of_le h1 hS.1)).trans (hS.2.1 q h1 h2), hS.2.2⟩ hl
  exact e1

theorem g_newB (hC : gK x l D base nL own cc rm) {n : Nat} {z : Int} (hd : decode cc pc = .ok (.newarray .byte, 2)) (hw : Cond.arrayClass .byte ∈ gwA) (hz : z = (n : Int)) (hn : n ≤ 100000) (hcl : cells + 1 ≤ rm.cells) (hsl : slots + n ≤ rm.slots)
    (kk : ∀ q : Nat, gh q = none → gV x D base nL (pc + 2) lv (.ref q :: st) (gset gh q (gI 2 n (fun _ => 0))) (cells + 1) (slots + n)) : gV x D base nL pc lv (vi z :: st) gh cells slots := by
  obtain ⟨p, l', e, R, s, m, args, below, meth, c, Q⟩ := x
  obtain ⟨hx, hb, hml, hown, hts, hE, hlocks, hR, hl', htr⟩ := hC
  intro H locs ls hG hS hl
  subst hz
  subst hR
  have e0 : (iI (n : Int)).toNatClampNeg = n := by rw [iI_clamp (by omega) (by omega)]; omega
  refine va_newaK hx hb (atype := .byte) (hts _ hw) rfl hd rfl (fun h => by have := (iI_lt (a := (n : Int)) (b := 0) (by omega) (by decide)).mp h; omega) e0 (by show n * _ ≤ _; simp [newarray.typeOf, componentBytes]; omega) hcl hsl rfl fun H1 cA e1 z1 o1 hAr hNm => ?_
  have hcA : cA = D.2 2 := by
    have h := (hE.1.2 2 _ (gtys_at D (by decide))).2
    exact Option.some.inj (hNm.symm.trans h)
  subst hcA
  refine kk H.size (hG.fresh (Nat.le_refl _)) H1 locs ls (hG.new (Nat.le_trans hE.2.1 hS.1) ?_ o1) ⟨Nat.le_trans hS.1 (by omega), fun q h1 h2 => (o1 q (Nat.lt_of_lt_of_le h1 hS.1)).trans (hS.2.1 q h1 h2), hS.2.2⟩ hl
  exact e1

theorem g_newR (hC : gK x l D base nL own cc rm) {n kd idx : Nat} {z : Int} {C : String} (hd : decode cc pc = .ok (.anewarray idx, 3)) (hw : Cond.classLink own idx C ∈ gwA) (ho : C ∈ gAo) (hk : kd < 10) (hkC : gty kd = .object C) (hz : z = (n : Int)) (hn : n ≤ 100000) (hcl : cells + 1 ≤ rm.cells) (hsl : slots + n ≤ rm.slots)
    (kk : ∀ q : Nat, gh q = none → gV x D base nL (pc + 3) lv (.ref q :: st) (gset gh q (gR kd n (fun _ => none))) (cells + 1) (slots + n)) : gV x D base nL pc lv (vi z :: st) gh cells slots := by
  obtain ⟨p, l', e, R, s, m, args, below, meth, c, Q⟩ := x
  obtain ⟨hx, hb, hml, hown, hts, hE, hlocks, hR, hl', htr⟩ := hC
  intro H locs ls hG hS hl
  subst hz
  subst hR
  have e0 : (iI (n : Int)).toNatClampNeg = n := by rw [iI_clamp (by omega) (by omega)]; omega
  refine W.anew hx hb hown (hts _ hw) (va_AO.use (hE.2.2.2.2.2.2.2.1 C ho)) rfl hd rfl (fun h => by have := (iI_lt (a := (n : Int)) (b := 0) (by omega) (by decide)).mp h; omega) (by rw [e0]; omega) hcl (by rw [e0]; exact hsl) fun cA kA comp f1 f2 f3 f4 => ?_
  rw [e0]
  have hcA : cA = D.2 kd := by
    have h := (hE.1.2 kd _ (gtys_at D hk)).2
    rw [hkC] at h
    obtain ⟨_, _, _, _, _, h⟩ := h
    exact Option.some.inj (f1.symm.trans h)
  subst hcA
  generalize hH1 : H.push ({ cls := D.2 kd, slots := Array.replicate n .null, vm := .none } : Cell) = H1
  have z1 : H1.size = H.size + 1 := by rw [← hH1, Array.size_push]
  have e1 : H1[H.size]? = some (arrV (D.2 kd) n (fun _ => .null)) := by rw [← hH1, Array.getElem?_push_size, ← arrV_new]
  have o1 : ∀ q : Nat, q < H.size → H1[q]? = H[q]? := fun q hq => by rw [← hH1, Array.getElem?_push, if_neg (Nat.ne_of_lt hq)]
  refine kk H.size (hG.fresh (Nat.le_refl _)) H1 locs ls (hG.new (Nat.le_trans hE.2.1 hS.1) ?_ o1) ⟨Nat.le_trans hS.1 (by omega), fun q h1 h2 => (o1 q (Nat.lt_of_lt_of_le h1 hS.1)).trans (hS.2.1 q h1 h2), hS.2.2⟩ hl
  exact e1
/-- own's pool entry idx is the class ci; fs: what a new object of it holds -/
def gNw (own : String) (idx ci N : Nat) (fs : List Value) : Prop := ∃ (C : String) (T : u_T), vwCl[ci]? = some (C, T, N) ∧ (∀ w ∈ u_ws C T N, w ∈ gwA) ∧ Cond.classLink own idx C ∈ gwA ∧ Cond.instantiable C N ∈ gwA ∧ Cond.initialized C ∈ gwA ∧
  ∃ ty0 : Nat → FieldType, (∀ k, k < N → parseFieldDescriptor (T k).2.2.1 = some (ty0 k)) ∧ ∀ j, j < N → defaultValue (ty0 j) = vp_V fs j
theorem g_new (hC : gK x l D base nL own cc rm) {idx ci N : Nat} {fs : List Value} (hd : decode cc pc = .ok (.new idx, 3)) (hw : gNw own idx ci N fs) (hcl : cells + 1 ≤ rm.cells) (hsl : slots + N ≤ rm.slots)
    (kk : ∀ q : Nat, gh q = none → gV x D base nL (pc + 3) lv (.ref q :: st) (gset gh q (gO ci fs)) (cells + 1) (slots + N)) : gV x D base nL pc lv st gh cells slots := by
  obtain ⟨p, l', e, R, s, m, args, below, meth, c, Q⟩ := x
  obtain ⟨hx, hb, hml, hown, hts, hE, hlocks, hR, hl', htr⟩ := hC
  intro H locs ls hG hS hl
  subst hR
  obtain ⟨C, T, h1, h2, h3, h4, h5, ty0, h6, h7⟩ := hw
  have hKn := hE.1.1 ci _ h1
  refine W.newcK hx hb hown (hts _ h3) (hts _ h4) (hts _ h5) rfl hd hcl hsl hKn.2.1 rfl fun H1 kC hkC e1 z1 o1 => ?_
  refine kk H.size (hG.fresh (Nat.le_refl _)) H1 locs ls (hG.new (Nat.le_trans hE.2.1 hS.1) ?_ o1) ⟨Nat.le_trans hS.1 (by omega), fun q h1 h2 => (o1 q (Nat.lt_of_lt_of_le h1 hS.1)).trans (hS.2.1 q h1 h2), hS.2.2⟩ hl
  exact ⟨_, h1, (u_born ty0 hts h2 hKn hkC e1 h6).to h7⟩
theorem g_objInit (hC : gK x l D base nL own cc rm) {idx a : Nat} (hd : decode cc pc = .ok (.invokespecial idx, 3)) (hw : Cond.methodLink own idx objectInit ∈ gwA) (hi : Cond.instanceMethod objectInit ∈ gwA) (hc : Cond.code objectInit ⟨#[0xb1]⟩ 1 none ∈ gwA) (h1 : 1 ≤ rm.frames) (h2 : (st.map fun v => v.category).sum + 12 ≤ rm.locals)
    (kk : gV x D base nL (pc + 3) lv st gh cells slots) : gV x D base nL pc lv (.ref a :: st) gh cells slots := by
  obtain ⟨p, l', e, R, s, m, args, below, meth, c, Q⟩ := x
  obtain ⟨hx, hb, hml, hown, hts, hE, hlocks, hR, hl', htr⟩ := hC
  intro H locs ls hG hS hl
  subst hR
  exact W.objInit hx hb hown (hts _ hw) (hts _ hi) (hts _ hc) rfl (by rw [hml]; exact hl.1) rfl hd h1 (by show 2 * 0 + _ + 12 ≤ _; omega) (kk H locs ls hG hS hl)
end GR
