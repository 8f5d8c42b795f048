/-! p16: rows of the law's instructions; a method that is handed the script -/
section Q2
variable {x : gX} {l : Launch} {D : gD} {base nL : Nat} {own : String} {cc : ByteArray} {rm : Room} {pc : Nat} {lv : List (Option Value)} {st : List Value} {gh : gH} {cells slots : Nat}
theorem g_ldcI (hC : gK x l D base nL own cc rm) {idx : Nat} {v : Int32} {z : Int} (hd : decode cc pc = .ok (.ldc idx, 2)) (hw : Cond.constant own idx v ∈ gwA) (hz : v = iI z) (k : gV x D base nL (pc + 2) lv (vi z :: st) gh cells slots) : gV x D base nL pc lv st gh cells slots := by
  obtain ⟨p, l', e, R, s, m, args, below, meth, c, Q⟩ := x
  obtain ⟨hx, hb, hml, hown, hts, hE, hlocks, hR, hl', htr⟩ := hC
  subst hz
  intro H locs ls hG hS hl
  exact lv_ldc hx hb hown (hts _ hw) hd (k H locs ls hG hS hl)
theorem g_ishrT (hC : gK x l D base nL own cc rm) {a b : Int} (hd : decode cc pc = .ok (.ishr, 1)) (k : gV x D base nL (pc + 1) lv (vi (iI a >>> (iI b &&& 31)).toInt :: st) gh cells slots) : gV x D base nL pc lv (vi b :: vi a :: st) gh cells slots := by
  obtain ⟨p, l', e, R, s, m, args, below, meth, c, Q⟩ := x
  obtain ⟨hx, hb, hml, hown, hts, hE, hlocks, hR, hl', htr⟩ := hC
  intro H locs ls hG hS hl
  refine lv_ishr hx hb hd ?_
  rw [iI_of (iI a >>> (iI b &&& 31))]
  exact k H locs ls hG hS hl
theorem g_ishlT (hC : gK x l D base nL own cc rm) {a b : Int} (hd : decode cc pc = .ok (.ishl, 1)) (k : gV x D base nL (pc + 1) lv (vi (iI a <<< (iI b &&& 31)).toInt :: st) gh cells slots) : gV x D base nL pc lv (vi b :: vi a :: st) gh cells slots := by
  obtain ⟨p, l', e, R, s, m, args, below, meth, c, Q⟩ := x
  obtain ⟨hx, hb, hml, hown, hts, hE, hlocks, hR, hl', htr⟩ := hC
  intro H locs ls hG hS hl
  refine lv_ishl hx hb hd ?_
  rw [iI_of (iI a <<< (iI b &&& 31))]
  exact k H locs ls hG hS hl
theorem g_iorT (hC : gK x l D base nL own cc rm) {a b : Int} (hd : decode cc pc = .ok (.ior, 1)) (k : gV x D base nL (pc + 1) lv (vi (iI a ||| iI b).toInt :: st) gh cells slots) : gV x D base nL pc lv (vi b :: vi a :: st) gh cells slots := by
  obtain ⟨p, l', e, R, s, m, args, below, meth, c, Q⟩ := x
  obtain ⟨hx, hb, hml, hown, hts, hE, hlocks, hR, hl', htr⟩ := hC
  intro H locs ls hG hS hl
  refine lv_ior hx hb hd ?_
  rw [iI_of (iI a ||| iI b)]
  exact k H locs ls hG hS hl
theorem iI_and31 {a : Int} (h : -2147483648 ≤ a ∧ a < 2147483648) : iI a &&& iI 31 = iI (a % 32) := by
  have h1 := Jvm.Kit.i32_mask (iI a) (iI 31) (k := 5) (by decide) (by decide)
  rw [iI_toInt h.1 h.2] at h1
  rw [show ((2 : Int) ^ 5) = 32 from rfl] at h1
  rw [iI_of (iI a &&& iI 31), h1]
theorem iI_andM {a : Int} (h : -2147483648 ≤ a ∧ a < 2147483648) : iI a &&& iI 2147483647 = iI (a % 2147483648) := by
  have h1 := Jvm.Kit.i32_mask (iI a) (iI 2147483647) (k := 31) (by decide) (by decide)
  rw [iI_toInt h.1 h.2] at h1
  rw [show ((2 : Int) ^ 31) = 2147483648 from rfl] at h1
  rw [iI_of (iI a &&& iI 2147483647), h1]
theorem ib_rdT {a c : Int} (hc : 0 ≤ c ∧ c < 32) : iI (iI a >>> (iI c &&& 31)).toInt &&& iI 1 = iI (b2i (bt (iI a) c.toNat)) := by
  rw [← iI_of]
  exact ib_rd _ hc
theorem ib_wrT {a c : Int} (hc : 0 ≤ c ∧ c < 32) {i : Nat} (hi : i < 32) : bt (iI (iI a ||| iI (iI 1 <<< (iI c &&& 31)).toInt).toInt) i = (bt (iI a) i || decide ((i : Int) = c)) := by
  rw [← iI_of, ← iI_of]
  exact ib_wr _ hc hi
-- a method that is handed the script
def gPX (D : gD) (base : Nat) (args : List Value) (gh : gH) (b L : Nat) (xs : Nat → Int32) : Array Value → State → Prop := va_Pc args (fun U => gG D base gh U.heap ∧ gE D base U ∧ va_X b L xs U U.heap ∧ b < U.heap.size ∧ b < base)
theorem gPX.blind {args : List Value} {b L : Nat} {xs : Nat → Int32} : FrameBlind (gPX D base args gh b L xs) := fun a U g mk h => ⟨h.1, h.2.1, h.2.2.1.calling g mk a, va_X.moved (u := U) (U := U.calling g mk a) (Vm.Alike.refl U.vm) h.2.2.2.1, h.2.2.2.2⟩
def gMX (l : Launch) (D : gD) (base : Nat) (y : MethodName) (cc : ByteArray) (nL : Nat) (ret : Option FieldType) (f loc mc ms : Nat) (args : List Value) (gh : gH) (b L : Nat) (xs : Nat → Int32) (post : Option Value → gH → Prop) : Prop :=
  vx_Met l y (.code y cc nL ret :: gwA) ({ frames := f, cells := mc, slots := ms, locals := loc } : Room) (gPX D base args gh b L xs) (gQ D base post) (gXC D base gNo) mc ms (fun q => base ≤ q)
theorem gMX.of {y : MethodName} {ret : Option FieldType} {f loc mc ms : Nat} {args : List Value} {b L : Nat} {xs : Nat → Int32} {post : Option Value → gH → Prop}
    (hl : l.stackTraces = false) (hy : plainName y.cls = true) (hc : ∀ w ∈ args, w.category = 1) (hn : args.length ≤ nL) (lv : List (Option Value)) (hlv : args.map some ++ List.replicate (nL - args.length) none = lv)
    (body : ∀ x : gX, gK x l D base nL y.cls cc ({ frames := f, cells := mc, slots := ms, locals := loc } : Room) → gEnd x D base post gNo mc ms ret y.name → gScr x base b L xs → gV x D base nL 0 lv [] gh 0 0) :
    gMX l D base y cc nL ret f loc mc ms args gh b L xs post := by
  refine vx_ofW (cc := cc) (maxL := nL) (ret := ret) hy rfl ?_
  intro p e s m args' below meth c s₁ B hml ht hv
  obtain ⟨rfl, hG, hE, hX⟩ := hv
  have hts := atoms_spec (ws := .code y cc nL ret :: gwA) B.pre
  have h := body (p, l, e, ({ frames := f, cells := mc, slots := ms, locals := loc } : Room), s, m, args.toArray, below, meth, c, vx_MQ below (gQ D base post) (gXC D base gNo) args.toArray s mc ms (fun q => base ≤ q))
    ⟨B.exec, B.bytes, hml, findClass_of_methodNamed B.named, fun w hw => hts w (List.mem_cons_of_mem _ hw), hE, B.notSynchronized, rfl, rfl, hl⟩ ⟨rfl, B.returns, (name_of_methodNamed B.named B.method).1, ht⟩ hX
  rw [lg_entry_eq]
  have hlve := gLv.entry args hc hn
  rw [hlv] at hlve
  exact h s.heap [] _ hG va_S.rf hlve
section
variable {idx nL' n f loc mc' ms' : Nat} {y : MethodName} {c' : ByteArray} {ret : Option FieldType} {post' : Option Value → gH → Prop} {As rest : List Value} {b L : Nat} {xs : Nat → Int32}
theorem gMX.met (h : gMX l D base y c' nL' ret f loc mc' ms' As gh b L xs post') :
    Met l y (.code y c' nL' ret :: gwA) ({ frames := f, cells := mc', slots := ms', locals := loc } : Room) (gPX D base As gh b L xs) (gQ D base post') mc' ms' (fun q => base ≤ q) := by
  intro p e ha hc hk s m args below hf hap hP hK
  obtain ⟨n, o, h1, h2, h3, h4⟩ := h p e ha hc hk s m args below hf hap hP hK
  refine ⟨n, o, h1, h2, h3, ?_⟩
  rcases h4 with h4 | ⟨q, -, E, ce, L, ⟨⟨gh', h5, -⟩, -⟩, -⟩
  · exact h4
  · exact h5.elim
theorem g_callSX (hC : gK x l D base nL own cc rm) (hX : gScr x base b L xs) (hM : gMX l D base y c' nL' ret f loc mc' ms' As gh b L xs post') (hw : gCs own idx y c' nL' ret n) (hn : As.length = n)
    (hR' : f + 1 ≤ rm.frames ∧ 8 + (nL' + 11) + loc ≤ rm.locals) (hf : cells + mc' ≤ rm.cells ∧ slots + ms' ≤ rm.slots) (hrest : (rest.map fun v => v.category).sum ≤ 8) (hs : st = As.reverse ++ rest) (hd : decode cc pc = .ok (.invokestatic idx, 3))
    (kk : ∀ (r : Option Value) (gh' : gH), post' r gh' → gV x D base nL (pc + 3) lv (r.toList ++ rest) gh' (cells + mc') (slots + ms')) : gV x D base nL pc lv st gh cells slots := by
  obtain ⟨p, l', e, R, s, m, args, below, meth, c, Q⟩ := x
  obtain ⟨hx, hb, hml, hown, hts, hE, hlocks, hR, hl', htr⟩ := hC
  obtain ⟨hX1, hX2, hX3⟩ := hX
  subst hl'
  subst hR; subst hs
  intro H locs ls hG hS hl
  exact g_run (va_runS (Ts := gwA) (As := As) (rest := rest) ⟨hx, hb, hml, hown, hts⟩ hM.met ⟨gC_B hts hw.1 hR', hts _ hw.2⟩ ⟨gPX.blind, fun U hU hW => ⟨rfl, by rw [hU]; exact hG, hE.callee hS hU hW, va_X.moved hW.alike (by rw [hU]; exact hX1.kept (hS.2.1 b hX2 (fun q => by have q2 : base ≤ b := q; omega))), by rw [hU]; exact Nat.lt_of_lt_of_le hX2 hS.1, hX3⟩⟩ rfl hn hl.1 rfl (lv_room hrest) hd hf) hS hl kk
end
end Q2
