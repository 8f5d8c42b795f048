/-! the law's own methods: bodies with handlers -/
section L0
variable {x : gX} {l : Launch} {D : gD} {base nL : Nat} {own : String} {cc : ByteArray} {rm : Room} {pc : Nat} {lv : List (Option Value)} {st : List Value} {gh : gH} {cells slots : Nat}
/-- a contract of a method with a table of handlers hh, that throws nothing -/
def gMW (l : Launch) (D : gD) (base : Nat) (y : MethodName) (cc : ByteArray) (nL : Nat) (ret : Option FieldType) (hh : List (Nat × Nat × Nat × Nat)) (f loc mc ms : Nat) (args : List Value) (gh : gH) (post : Option Value → gH → Prop) : Prop :=
  vx_Met l y (.codeWith y cc nL ret hh :: gwA) ({ frames := f, cells := mc, slots := ms, locals := loc } : Room) (gP D base args gh) (gQ D base post) (gXC D base gNo) mc ms (fun q => base ≤ q)
def gEndW (x : gX) (D : gD) (base : Nat) (post : Option Value → gH → Prop) (mc ms : Nat) (ret : Option FieldType) (hh : List (Nat × Nat × Nat × Nat)) : Prop :=
  match x with
  | (_, _, _, _, s, _, args, below, meth, c, Q) => Q = vx_MQ below (gQ D base post) (gXC D base gNo) args s mc ms (fun q => base ≤ q) ∧ meth.sig.returnType = ret ∧ c.exceptionTable.toList = tableOf hh
theorem gMW.of {y : MethodName} {ret : Option FieldType} {hh : List (Nat × Nat × Nat × Nat)} {f loc mc ms : Nat} {args : List Value} {post : Option Value → gH → Prop}
    (hl : l.stackTraces = false) (hy : plainName y.cls = true) (hc : ∀ w ∈ args, w.category = 1) (hn : args.length ≤ nL) (lv : List (Option Value)) (hlv : args.map some ++ List.replicate (nL - args.length) none = lv)
    (body : ∀ x : gX, gK x l D base nL y.cls cc ({ frames := f, cells := mc, slots := ms, locals := loc } : Room) → gEndW x D base post mc ms ret hh → gV x D base nL 0 lv [] gh 0 0) :
    gMW l D base y cc nL ret hh f loc mc ms args gh post := by
  refine vx_ofWH (cc := cc) (maxL := nL) (ret := ret) (hh := hh) hy rfl ?_
  intro p e s m args' below meth c s₁ B hml hv
  obtain ⟨rfl, hG, hE⟩ := hv
  have hts := atoms_spec (ws := .codeWith y cc nL ret hh :: gwA) B.pre
  have htab := vx_table (x := y) B (hts _ List.mem_cons_self)
  have h := body (p, l, e, ({ frames := f, cells := mc, slots := ms, locals := loc } : Room), s, m, args.toArray, below, meth, c, vx_MQ below (gQ D base post) (gXC D base gNo) args.toArray s mc ms (fun q => base ≤ q))
    ⟨B.exec, B.bytes, hml, findClass_of_methodNamed B.named, fun w hw => hts w (List.mem_cons_of_mem _ hw), hE, B.notSynchronized, rfl, rfl, hl⟩ ⟨rfl, B.returns, htab⟩
  rw [lg_entry_eq]
  have hlve := gLv.entry args hc hn
  rw [hlv] at hlve
  exact h s.heap [] _ hG va_S.rf hlve
variable {post : Option Value → gH → Prop} {mc ms : Nat} {hh : List (Nat × Nat × Nat × Nat)}
theorem g_iretW (hC : gK x l D base nL own cc rm) (hq : gEndW x D base post mc ms (some .int) hh) {v : Int32} (hd : decode cc pc = .ok (.ireturn, 1)) (h1 : cells ≤ mc) (h2 : slots ≤ ms) (hp : post (some (.int v)) gh) : gV x D base nL pc lv [.int v] gh cells slots := by
  obtain ⟨p, l', e, R, s, m, args, below, meth, c, Q⟩ := x
  obtain ⟨hx, hb, hml, hown, hts, hE, hlocks, hR, hl', htr⟩ := hC
  subst hl'
  obtain ⟨rfl, hr, -⟩ := hq
  intro H locs ls hG hS hl
  refine W.widen h1 h2 ?_
  exact vx_ret (W.iret hx hb hr (fun t ht hW => ⟨⟨_, gh, rfl, hp, by rw [ht]; exact hG⟩, hS.F ht⟩) hS.2.2 hd hlocks)
/-- caught by the first row -/
theorem g_catch1 (hC : gK x l D base nL own cc rm) {ret : Option FieldType} {s0 e0 h0 t0 : Nat} {suf : List (Nat × Nat × Nat × Nat)} (hq : gEndW x D base post mc ms ret ((s0, e0, h0, t0) :: suf)) {E : String}
    (hcov : covers (⟨s0, e0, h0, t0⟩ : ExceptionTableEntry) pc = true) (ht : t0 ≠ 0) (hlink : Cond.classLink own t0 E ∈ gwA) (hcast : Cond.castable E E ∈ lw_tbl)
    (kk : ∀ q : Nat, gV x D base nL h0 lv [.ref q] gh cells slots) : gVX x D base nL pc lv st E gh cells slots := by
  obtain ⟨p, l', e, R, s, m, args, below, meth, c, Q⟩ := x
  obtain ⟨hx, hb, hml, hown, hts, hE, hlocks, hR, hl', htr⟩ := hC
  obtain ⟨-, -, htab⟩ := hq
  intro H locs ls ce q hG hS hl hce hcv hcl
  exact vx_catch hown [] (⟨s0, e0, h0, t0⟩ : ExceptionTableEntry) (tableOf suf) htab (fun z hz => absurd hz List.not_mem_nil) hcov ht (hts _ hlink) (hE.word hts hcast (Or.inr rfl)) hce hcv hcl (kk q H locs ls hG hS hl)
/-- caught by the second row, past the first -/
theorem g_catch2 (hC : gK x l D base nL own cc rm) {ret : Option FieldType} {s0 e0 h0 t0 s1 e1 h1 t1 : Nat} {suf : List (Nat × Nat × Nat × Nat)} (hq : gEndW x D base post mc ms ret ((s0, e0, h0, t0) :: (s1, e1, h1, t1) :: suf)) {E nm : String}
    (hcov : covers (⟨s1, e1, h1, t1⟩ : ExceptionTableEntry) pc = true) (ht0 : t0 ≠ 0) (ht : t1 ≠ 0) (hlink0 : Cond.classLink own t0 nm ∈ gwA) (hno : (E, nm) ∈ gNcs) (hlink : Cond.classLink own t1 E ∈ gwA) (hcast : Cond.castable E E ∈ lw_tbl)
    (kk : ∀ q : Nat, gV x D base nL h1 lv [.ref q] gh cells slots) : gVX x D base nL pc lv st E gh cells slots := by
  obtain ⟨p, l', e, R, s, m, args, below, meth, c, Q⟩ := x
  obtain ⟨hx, hb, hml, hown, hts, hE, hlocks, hR, hl', htr⟩ := hC
  obtain ⟨-, -, htab⟩ := hq
  intro H locs ls ce q hG hS hl hce hcv hcl
  exact vx_catch hown [(⟨s0, e0, h0, t0⟩ : ExceptionTableEntry)] (⟨s1, e1, h1, t1⟩ : ExceptionTableEntry) (tableOf suf) htab (fun z hz => by
    rw [List.mem_singleton] at hz
    subst hz
    exact Or.inr ⟨ht0, nm, hts _ hlink0, hE.2.2.2.2.2.2.1 _ hno⟩) hcov ht (hts _ hlink) (hE.word hts hcast (Or.inr rfl)) hce hcv hcl (kk q H locs ls hG hS hl)
section
variable {idx nL' n f loc mc' ms' : Nat} {y : MethodName} {c' : ByteArray} {ret : Option FieldType} {post' : Option Value → gH → Prop} {As rest : List Value} {hh' : List (Nat × Nat × Nat × Nat)}
theorem gMW.met (h : gMW l D base y c' nL' ret hh' f loc mc' ms' As gh post') :
    Met l y (.codeWith y c' nL' ret hh' :: gwA) ({ frames := f, cells := mc', slots := ms', locals := loc } : Room) (gP D base As gh) (gQ D base post') mc' ms' (fun q => base ≤ q) := by
  intro p e ha hc hk s m args below hf hap hP hK
  obtain ⟨n, o, h1, h2, h3, h4⟩ := h p e ha hc hk s m args below hf hap hP hK
  refine ⟨n, o, h1, h2, h3, ?_⟩
  rcases h4 with h4 | ⟨q, -, E, ce, L, ⟨⟨gh', h5, -⟩, -⟩, -⟩
  · exact h4
  · exact h5.elim
/-- the words of a call of such a method -/
def gCsW (own : String) (idx : Nat) (y : MethodName) (c' : ByteArray) (nL' : Nat) (ret : Option FieldType) (hh' : List (Nat × Nat × Nat × Nat)) (n : Nat) : Prop := Cond.codeWith y c' nL' ret hh' ∈ gwA ∧ Cond.methodLink own idx y ∈ gwA ∧ Cond.initialized y.cls ∈ gwA ∧ Cond.static y ∈ gwA ∧ (y.cls ≠ "java/lang/invoke/MethodHandle" ∧ y.cls ≠ "java/lang/invoke/VarHandle" ∧ (parseMethodDescriptor y.desc).map (fun d => d.parameters.length) = some n)
end
end L0
