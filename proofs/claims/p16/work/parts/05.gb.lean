/-! contexts, contracts, and the judgement gV -/
def gStr : List (String × Nat × String) := [("GraticulePress", 49, "the letter is none of a to z"), ("GraticulePress", 60, "the word has 8 letters"), ("GraticulePress", 71, "length, breadth or rank is out of range"), ("GraticulePress", 73, "there are 14 places"), ("GraticulePress", 210, "there is no such place"), ("GraticulePress", 86, "nothing is typed"), ("GraticulePress", 92, "the place was told 6 names"), ("GraticulePress", 117, "there is no such letter"), ("GraticulePress", 120, "the day is out of range"), ("GraticulePress", 133, "days is out of range"), ("GraticulePress", 135, "the day would be above 10000"), ("GraticulePress", 137, "length, breadth or kind is out of range"), ("GraticulePress", 139, "there are 4 sheets"), ("GraticulePress", 212, "there is no such sheet"), ("GraticulePress", 171, "there is no such row or column"), ("GraticulePress", 189, "more than 4 places with a name are on the sheet"), ("GraticulePress", 194, "there are 5 editions"), ("GraticulePress", 214, "there is no such edition"), ("GraticulePress", 205, "there is no such sheet, row or column")]
/-- words that stay true over warming, but not 'good' ones -/
def gBk : Cond → Bool
  | .castable _ _ => true
  | .declares _ => true
  | .fieldLinkNest _ _ _ _ _ _ => true
  | .methodLinkNest _ _ _ _ => true
  | _ => false
theorem gBk_warm {w : Cond} {s U : State} (hW : s.WarmedH U.vm) (h : gBk w = true) (hZ : va_Nw w s) : va_Nw w U := by
  cases w <;> first | exact va_Nw.warmC hW hZ | exact va_Nw.warmD hW hZ | exact va_Nw.warmF hW hZ | exact va_Nw.warmM hW hZ | (exact absurd h (by simp [gBk]))
theorem gBk_tab {w : Cond} (h : gBk w = true) : w.onTables = true := by
  cases w <;> first | rfl | (exact absurd h (by simp [gBk]))
def gNcs : List (String × String) := [("java/lang/IllegalStateException", "java/lang/IllegalArgumentException"), ("java/lang/IllegalStateException", "java/lang/IndexOutOfBoundsException"), ("java/lang/IllegalArgumentException", "java/lang/IndexOutOfBoundsException")]
abbrev gX : Type := Program × Launch × Env × Room × State × MethodId × Array Value × List Frame × Method × Code × (State → Prop)
def gAo : List String := [RX0, RX1, RX2, RX3, RX4, RX5]
def gE (D : gD) (base : Nat) (s : State) : Prop := va_K D.1 vwCl (gtys D) s ∧ base ≤ s.heap.size ∧ (∀ q ∈ gStr, ∃ sa, vk_R q.1 q.2.1 q.2.2 sa s) ∧ vx_Zq Bundle.tN "UNASSIGNED_STACK" Bundle.steD (fun q => base ≤ q) s s.heap ∧ vx_Zq Bundle.tN "SUPPRESSED_SENTINEL" Bundle.listD (fun q => base ≤ q) s s.heap ∧ (∀ w ∈ lw_tbl, gBk w = true → va_Nw w s) ∧ (∀ q ∈ gNcs, va_Nc q.1 q.2 s) ∧ (∀ C ∈ gAo, va_AO C s) ∧ va_Z "java/lang/String" "COMPACT_STRINGS" "Z" (.int 1) (fun q => base ≤ q) s s.heap ∧ va_Zq "jdk/internal/util/Preconditions" "SIOOBE_FORMATTER" "Ljava/util/function/BiFunction;" (fun q => base ≤ q) s s.heap
theorem gE.callee {D : gD} {base : Nat} {s U : State} {H : Heap} {locs : List Loc} (h : gE D base s) (hS : va_S (fun q => base ≤ q) s.heap H locs) (hU : U.heap = H) (hW : s.WarmedH U.vm) : gE D base U := by
  obtain ⟨h1, h2, h3, h4, h5, h6, h7, h8, h9, h10⟩ := h
  refine ⟨va_K.moved hW.alike h1, by rw [hU]; exact Nat.le_trans h2 hS.1, fun q hq => ?_, ?_, ?_, fun w hw hg => gBk_warm hW hg (h6 w hw hg), fun q hq => va_Nc.moved hW.alike (h7 q hq), fun C hC => va_AO.moved hW.alike (h8 C hC), ?_, ?_⟩
  · obtain ⟨sa, h⟩ := h3 q hq
    exact ⟨sa, vk_R.warm hW h⟩
  · rw [hU]
    exact vx_Zq.kept (vx_Zq.moved hW.alike h4) hS.2.1
  · rw [hU]
    exact vx_Zq.kept (vx_Zq.moved hW.alike h5) hS.2.1
  · rw [hU]
    exact va_Z.kept (va_Z.moved hW.alike h9) hS.2.1
  · rw [hU]
    exact va_Zq.kept (va_Zq.moved hW.alike h10) hS.2.1
theorem gE.calling {D : gD} {base : Nat} {U : State} (g : JFrame) (mk : MethodId) (a : Array Value) (h : gE D base U) : gE D base (U.calling g mk a) := by
  obtain ⟨h1, h2, h3, h4, h5, h6, h7, h8, h9, h10⟩ := h
  exact ⟨va_K.moved (u := U) (U := U.calling g mk a) (Vm.Alike.refl U.vm) h1, h2, fun q hq => (h3 q hq).imp (fun sa h => vk_R.same (u := U) (U := U.calling g mk a) rfl h), vx_Zq.moved (u := U) (U := U.calling g mk a) (Vm.Alike.refl U.vm) h4, vx_Zq.moved (u := U) (U := U.calling g mk a) (Vm.Alike.refl U.vm) h5, fun w hw hg => va_Nw.same (u := U) (U := U.calling g mk a) (gBk_tab hg) rfl (h6 w hw hg), fun q hq => va_Nc.moved (u := U) (U := U.calling g mk a) (Vm.Alike.refl U.vm) (h7 q hq), fun C hC => va_AO.moved (u := U) (U := U.calling g mk a) (Vm.Alike.refl U.vm) (h8 C hC), va_Z.moved (u := U) (U := U.calling g mk a) (Vm.Alike.refl U.vm) h9, va_Zq.moved (u := U) (U := U.calling g mk a) (Vm.Alike.refl U.vm) h10⟩
def gP (D : gD) (base : Nat) (args : List Value) (gh : gH) : Array Value → State → Prop := va_Pc args (fun U => gG D base gh U.heap ∧ gE D base U)
theorem gP.blind {D : gD} {base : Nat} {args : List Value} {gh : gH} : FrameBlind (gP D base args gh) := fun a U g mk h => ⟨h.1, h.2.1, h.2.2.calling g mk a⟩
def gQ (D : gD) (base : Nat) (post : Option Value → gH → Prop) : Array Value → State → Outcome → State → Prop := fun _ st o t => (∃ (r : Option Value) (gh' : gH), o = .returned r ∧ post r gh' ∧ gG D base gh' t.heap) ∧ va_F (fun q => base ≤ q) st t
def gXC (D : gD) (base : Nat) (postX : String → gH → Prop) : String → State → State → Prop := fun E st t => (∃ gh' : gH, postX E gh' ∧ gG D base gh' t.heap) ∧ va_F (fun q => base ≤ q) st t
def gNo : String → gH → Prop := fun _ _ => False
/-- a method's contract: at these arguments, in this world, it answers and leaves a world with post (or throws, with postX); f, loc: frames and words below it; mc, ms: cells and slots that it makes -/
def gM (l : Launch) (D : gD) (base : Nat) (y : MethodName) (cc : ByteArray) (nL : Nat) (ret : Option FieldType) (f loc mc ms : Nat) (args : List Value) (gh : gH) (post : Option Value → gH → Prop) (postX : String → gH → Prop) : Prop :=
  vx_Met l y (.code y cc nL ret :: gwA) ({ frames := f, cells := mc, slots := ms, locals := loc } : Room) (gP D base args gh) (gQ D base post) (gXC D base postX) mc ms (fun q => base ≤ q)
def gV (x : gX) (D : gD) (base nL : Nat) (pc : Nat) (lv : List (Option Value)) (st : List Value) (gh : gH) (cells slots : Nat) : Prop :=
  match x with
  | (p, l, e, R, s, m, args, below, meth, c, Q) => ∀ (H : Heap) (locs : List Loc) (ls : Array Slot), gG D base gh H → va_S (fun q => base ≤ q) s.heap H locs → gLv ls nL lv → W p l e R s m args below meth c H locs cells slots Q (F0 m pc ls st)
def gVX (x : gX) (D : gD) (base nL : Nat) (pc : Nat) (lv : List (Option Value)) (st : List Value) (E : String) (gh : gH) (cells slots : Nat) : Prop :=
  match x with
  | (p, l, e, R, s, m, args, below, meth, c, Q) => ∀ (H : Heap) (locs : List Loc) (ls : Array Slot) (ce : Cell) (q : Addr), gG D base gh H → va_S (fun q => base ≤ q) s.heap H locs → gLv ls nL lv → H[q]? = some ce → ce.vm = .none → s.vm.findClass E = some ce.cls → vx_W p l e R s m args below meth c H locs cells slots Q (F0 m pc ls st) q
def gK (x : gX) (l : Launch) (D : gD) (base nL : Nat) (own : String) (cc : ByteArray) (rm : Room) : Prop :=
  match x with
  | (p, l', _, R, s, m, args, _, meth, c, _) => p.tables.exec = Jvm.exec ∧ c.code = cc ∧ c.maxLocals = nL ∧ s.vm.findClass own = some m.cls ∧ (∀ w ∈ gwA, w.before args s = true) ∧ gE D base s ∧ meth.locks = false ∧ R = rm ∧ l' = l ∧ l.stackTraces = false
def gEnd (x : gX) (D : gD) (base : Nat) (post : Option Value → gH → Prop) (postX : String → gH → Prop) (mc ms : Nat) (ret : Option FieldType) (nm : String) : Prop :=
  match x with
  | (_, _, _, _, s, _, args, below, meth, c, Q) => Q = vx_MQ below (gQ D base post) (gXC D base postX) args s mc ms (fun q => base ≤ q) ∧ meth.sig.returnType = ret ∧ meth.name = nm ∧ ∀ z ∈ c.exceptionTable.toList, False
theorem gM.of {l : Launch} {D : gD} {base : Nat} {y : MethodName} {cc : ByteArray} {nL : Nat} {ret : Option FieldType} {f loc mc ms : Nat} {args : List Value} {gh : gH} {post : Option Value → gH → Prop} {postX : String → gH → Prop}
    (hl : l.stackTraces = false) (hy : plainName y.cls = true) (hc : ∀ w ∈ args, w.category = 1) (hn : args.length ≤ nL) (lv : List (Option Value)) (hlv : args.map some ++ List.replicate (nL - args.length) none = lv)
    (body : ∀ x : gX, gK x l D base nL y.cls cc ({ frames := f, cells := mc, slots := ms, locals := loc } : Room) → gEnd x D base post postX mc ms ret y.name → gV x D base nL 0 lv [] gh 0 0) :
    gM l D base y cc nL ret f loc mc ms args gh post postX := by
  refine vx_ofW (cc := cc) (maxL := nL) (ret := ret) hy rfl ?_
  intro p e s m args' below meth c s₁ B hml ht hv
  obtain ⟨rfl, hG, hE⟩ := hv
  have hts := atoms_spec (ws := .code y cc nL ret :: gwA) B.pre
  have h := body (p, l, e, ({ frames := f, cells := mc, slots := ms, locals := loc } : Room), s, m, args.toArray, below, meth, c, vx_MQ below (gQ D base post) (gXC D base postX) args.toArray s mc ms (fun q => base ≤ q))
    ⟨B.exec, B.bytes, hml, findClass_of_methodNamed B.named, fun w hw => hts w (List.mem_cons_of_mem _ hw), hE, B.notSynchronized, rfl, rfl, hl⟩ ⟨rfl, B.returns, (name_of_methodNamed B.named B.method).1, ht⟩
  rw [lg_entry_eq]
  have hlve := gLv.entry args hc hn
  rw [hlv] at hlve
  exact h s.heap [] _ hG va_S.rf hlve
