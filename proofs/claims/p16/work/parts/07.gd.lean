/-! ends, throws, calls -/
section GD
variable {x : gX} {l : Launch} {D : gD} {base nL : Nat} {own : String} {cc : ByteArray} {rm : Room} {pc : Nat} {lv : List (Option Value)} {st : List Value} {gh : gH} {cells slots : Nat}
variable {post : Option Value → gH → Prop} {postX : String → gH → Prop} {mc ms : Nat} {nm : String}
theorem g_iret (hC : gK x l D base nL own cc rm) (hq : gEnd x D base post postX mc ms (some .int) nm) {v : Int32} (hd : decode cc pc = .ok (.ireturn, 1)) (h1 : cells ≤ mc) (h2 : slots ≤ ms) (hp : post (some (.int v)) gh) : gV x D base nL pc lv [.int v] gh cells slots := by
  obtain ⟨p, l', e, R, s, m, args, below, meth, c, Q⟩ := x
  obtain ⟨hx, hb, hml, hown, hts, hE, hlocks, hR, hl', htr⟩ := hC
  subst hl'
  obtain ⟨rfl, hr, -⟩ := hq
  intro H locs ls hG hS hl
  refine W.widen h1 h2 ?_
  exact vx_ret (W.iret hx hb hr (fun t ht hW => ⟨⟨_, gh, rfl, hp, by rw [ht]; exact hG⟩, hS.F ht⟩) hS.2.2 hd hlocks)
theorem g_zret (hC : gK x l D base nL own cc rm) {ty : FieldType} (hq : gEnd x D base post postX mc ms (some ty) nm) {v : Int32} (hn : narrow ty (.int v) = .int v) (hd : decode cc pc = .ok (.ireturn, 1)) (h1 : cells ≤ mc) (h2 : slots ≤ ms) (hp : post (some (.int v)) gh) : gV x D base nL pc lv [.int v] gh cells slots := by
  obtain ⟨p, l', e, R, s, m, args, below, meth, c, Q⟩ := x
  obtain ⟨hx, hb, hml, hown, hts, hE, hlocks, hR, hl', htr⟩ := hC
  subst hl'
  obtain ⟨rfl, hr, -⟩ := hq
  intro H locs ls hG hS hl
  refine W.widen h1 h2 ?_
  exact vx_ret (W.zret hx hb hr hn (fun t ht hW => ⟨⟨_, gh, rfl, hp, by rw [ht]; exact hG⟩, hS.F ht⟩) hS.2.2 hd hlocks)
theorem b2i_nar (b : Bool) : narrow .boolean (.int (iI (b2i b))) = .int (iI (b2i b)) := by cases b <;> rfl
theorem g_bret (hC : gK x l D base nL own cc rm) (hq : gEnd x D base post postX mc ms (some .boolean) nm) {b : Bool} (hd : decode cc pc = .ok (.ireturn, 1)) (h1 : cells ≤ mc) (h2 : slots ≤ ms) (hp : post (some (vi (b2i b))) gh) : gV x D base nL pc lv [vi (b2i b)] gh cells slots := g_zret hC hq (b2i_nar b) hd h1 h2 hp
theorem g_cret (hC : gK x l D base nL own cc rm) (hq : gEnd x D base post postX mc ms (some .char) nm) {z : Int} (hz : 0 ≤ z ∧ z < 65536) (hd : decode cc pc = .ok (.ireturn, 1)) (h1 : cells ≤ mc) (h2 : slots ≤ ms) (hp : post (some (vi z)) gh) : gV x D base nL pc lv [vi z] gh cells slots := g_zret hC hq (iI_charN hz.1 hz.2) hd h1 h2 hp
theorem g_vret (hC : gK x l D base nL own cc rm) (hq : gEnd x D base post postX mc ms none nm) (hd : decode cc pc = .ok (.return_, 1)) (h1 : cells ≤ mc) (h2 : slots ≤ ms) (hp : post none gh) : gV x D base nL pc lv [] gh cells slots := by
  obtain ⟨p, l', e, R, s, m, args, below, meth, c, Q⟩ := x
  obtain ⟨hx, hb, hml, hown, hts, hE, hlocks, hR, hl', htr⟩ := hC
  subst hl'
  obtain ⟨rfl, hr, -⟩ := hq
  intro H locs ls hG hS hl
  refine W.widen h1 h2 ?_
  exact vx_ret (W.vret hx hb hr (fun t ht hW => ⟨⟨_, gh, rfl, hp, by rw [ht]; exact hG⟩, hS.F ht⟩) hS.2.2 hd hlocks)
theorem g_aret (hC : gK x l D base nL own cc rm) {ty : FieldType} (hq : gEnd x D base post postX mc ms (some ty) nm) (hty : (∃ n, ty = .object n) ∨ ∃ t, ty = .array t) {v : Option Nat} (hd : decode cc pc = .ok (.areturn, 1)) (h1 : cells ≤ mc) (h2 : slots ≤ ms) (hp : post (some (va_rf v)) gh) : gV x D base nL pc lv [va_rf v] gh cells slots := by
  obtain ⟨p, l', e, R, s, m, args, below, meth, c, Q⟩ := x
  obtain ⟨hx, hb, hml, hown, hts, hE, hlocks, hR, hl', htr⟩ := hC
  subst hl'
  obtain ⟨rfl, hr, -⟩ := hq
  intro H locs ls hG hS hl
  refine W.widen h1 h2 ?_
  exact vx_ret (W.aret hx hb hr hty (by cases v with | none => exact Or.inl rfl | some a => exact Or.inr ⟨a, rfl⟩) (fun t ht hW => ⟨⟨_, gh, rfl, hp, by rw [ht]; exact hG⟩, hS.F ht⟩) hS.2.2 hd hlocks)
/-- not caught here: it goes on to the caller -/
theorem g_out (hC : gK x l D base nL own cc rm) {ret : Option FieldType} (hq : gEnd x D base post postX mc ms ret nm) {E : String} (h1 : cells ≤ mc) (h2 : slots ≤ ms) (hp : postX E gh) : gVX x D base nL pc lv st E gh cells slots := by
  obtain ⟨p, l', e, R, s, m, args, below, meth, c, Q⟩ := x
  obtain ⟨hx, hb, hml, hown, hts, hE, hlocks, hR, hl', htr⟩ := hC
  subst hl'
  obtain ⟨rfl, hr, -, ht⟩ := hq
  intro H locs ls ce q hG hS hl hce hcv hcl
  exact vx_out (fun z hz => (ht z hz).elim) hlocks hce hcv hcl (fun t ht hW => ⟨⟨gh, hp, by rw [ht]; exact hG⟩, hS.F ht⟩) hS.2.2 h1 h2
/-- a throw of the class's own: 'throw new E("text")' -/
def gTh (own : String) (ik is ic : Nat) (cls text : String) : Prop := Bundle.fit cls = true ∧ Cond.classLink own ik cls ∈ gwA ∧ Cond.initialized cls ∈ gwA ∧ (own, is, text) ∈ gStr ∧ (∀ w ∈ vx_atS own ic cls ["java/lang/RuntimeException", "java/lang/Exception"], w ∈ lw_tbl ∧ (goodWord w = true ∨ gBk w = true)) ∧ ∀ w ∈ Cond.classLink own ik cls :: Cond.initialized cls :: vx_atS own ic cls ["java/lang/RuntimeException", "java/lang/Exception"], vx_ot w = true
theorem gTh.of {own : String} {ik is ic : Nat} {cls text : String} (h1 : Bundle.fit cls = true) (h2 : Cond.classLink own ik cls ∈ gwA) (h3 : Cond.initialized cls ∈ gwA) (h4 : (own, is, text) ∈ gStr)
    (h5 : (vx_atS own ic cls ["java/lang/RuntimeException", "java/lang/Exception"]).all (fun w => decide (w ∈ lw_tbl) && (goodWord w || gBk w)) = true) (h6 : (Cond.classLink own ik cls :: Cond.initialized cls :: vx_atS own ic cls ["java/lang/RuntimeException", "java/lang/Exception"]).all vx_ot = true) : gTh own ik is ic cls text :=
  ⟨h1, h2, h3, h4, fun w hw => by have := List.all_eq_true.mp h5 w hw; simp only [Bool.and_eq_true, decide_eq_true_eq, Bool.or_eq_true] at this; exact this, fun w hw => List.all_eq_true.mp h6 w hw⟩
theorem gE.word {s : State} {args : Array Value} (hE : gE D base s) (hts : ∀ w ∈ gwA, w.before args s = true) {w : Cond} (h : w ∈ lw_tbl) (hg : goodWord w = true ∨ gBk w = true) : w.before args s = true := by
  rcases hg with hg | hg
  · exact hts w (gwA_mem h hg)
  · exact va_Nw.use (gBk_tab hg) (hE.2.2.2.2.2.1 w h hg)
theorem g_throw (hC : gK x l D base nL own cc rm) {ret : Option FieldType} (hq : gEnd x D base post postX mc ms ret nm) {ik is ic : Nat} {cls text : String} (hw : gTh own ik is ic cls text)
    (d0 : decode cc pc = .ok (.new ik, 3)) (d3 : decode cc (pc + 3) = .ok (.dup, 1)) (d4 : decode cc (pc + 4) = .ok (.ldc is, 2)) (d6 : decode cc (pc + 6) = .ok (.invokespecial ic, 3)) (d9 : decode cc (pc + 9) = .ok (.athrow, 1))
    (hf : 5 < rm.frames) (hlo : (st.map fun v => v.category).sum + 82 ≤ rm.locals) (hc1 : cells + 1 ≤ rm.cells) (hs1 : slots + 6 ≤ rm.slots) (h1 : cells + 1 ≤ mc) (h2 : slots + 6 ≤ ms) (hp : postX cls gh) : gV x D base nL pc lv st gh cells slots := by
  obtain ⟨p, l', e, R, s, m, args, below, meth, c, Q⟩ := x
  obtain ⟨hx, hb, hml, hown, hts, hE, hlocks, hR, hl', htr⟩ := hC
  subst hl'
  subst hR
  obtain ⟨rfl, hr, -, ht⟩ := hq
  obtain ⟨w1, w2, w3, w4, w5, w6⟩ := hw
  obtain ⟨sa, hstr⟩ := hE.2.2.1 _ w4
  intro H locs ls hG hS hl
  refine vx_throwS (A := fun q => base ≤ q) (names := ["java/lang/RuntimeException", "java/lang/Exception"]) hx hb htr hown w1 (by decide) (hts _ w2) (hts _ w3) hstr (fun w hw => hE.word hts (w5 w hw).1 (w5 w hw).2) w6 hE.2.2.2.1 hE.2.2.2.2.1 hS (hl.1.trans hml.symm) d0 d3 d4 d6 d9 (fun z hz => (ht z hz).elim) hf (by simpa using hlo) hc1 hs1 hlocks ?_ hS.2.2 h1 h2
  intro t hvm hz hk
  exact ⟨⟨gh, hp, hG.kept hk⟩, Nat.le_trans hS.1 hz, fun q h3 h4 => (hk q (Nat.lt_of_lt_of_le h3 hS.1)).trans (hS.2.1 q h3 h4)⟩
/-- the words of a call site -/
def gCw (own : String) (idx : Nat) (y : MethodName) (c' : ByteArray) (nL' : Nat) (ret : Option FieldType) (n : Nat) : Prop := Cond.code y c' nL' ret ∈ gwA ∧ Cond.methodLink own idx y ∈ gwA ∧ Cond.initialized y.cls ∈ gwA ∧ (y.cls ≠ "java/lang/invoke/MethodHandle" ∧ y.cls ≠ "java/lang/invoke/VarHandle" ∧ (parseMethodDescriptor y.desc).map (fun d => d.parameters.length) = some n)
def gCv (own : String) (idx : Nat) (y : MethodName) (c' : ByteArray) (nL' : Nat) (ret : Option FieldType) (n : Nat) : Prop := gCw own idx y c' nL' ret n ∧ Cond.instanceMethod y ∈ gwA ∧ Cond.selects y.cls y y ∈ gwA
def gCs (own : String) (idx : Nat) (y : MethodName) (c' : ByteArray) (nL' : Nat) (ret : Option FieldType) (n : Nat) : Prop := gCw own idx y c' nL' ret n ∧ Cond.static y ∈ gwA
def gCi (own : String) (idx : Nat) (y : MethodName) (c' : ByteArray) (nL' : Nat) (n : Nat) : Prop := gCw own idx y c' nL' none n ∧ Cond.instanceMethod y ∈ gwA ∧ y.name = "<init>"
/-- a nest mate's private static method -/
def gCn (own host : String) (idx : Nat) (y : MethodName) (c' : ByteArray) (nL' : Nat) (ret : Option FieldType) (n : Nat) : Prop := Cond.code y c' nL' ret ∈ gwA ∧ Cond.methodLinkNest own idx y host ∈ lw_tbl ∧ Cond.initialized y.cls ∈ gwA ∧ (y.cls ≠ "java/lang/invoke/MethodHandle" ∧ y.cls ≠ "java/lang/invoke/VarHandle" ∧ (parseMethodDescriptor y.desc).map (fun d => d.parameters.length) = some n) ∧ Cond.static y ∈ gwA
theorem gM.met {y : MethodName} {c' : ByteArray} {nL' f loc mc' ms' : Nat} {ret : Option FieldType} {As : List Value} {post' : Option Value → gH → Prop} (h : gM l D base y c' nL' ret f loc mc' ms' As gh post' gNo) :
    Met l y (.code y c' nL' ret :: gwA) ({ frames := f, cells := mc', slots := ms', locals := loc } : Room) (gP D base As gh) (gQ D base post') mc' ms' (fun q => base ≤ q) := by
  intro p e ha hc hk s m args below hf hap hP hK
  obtain ⟨n, o, h1, h2, h3, h4⟩ := h p e ha hc hk s m args below hf hap hP hK
  refine ⟨n, o, h1, h2, h3, ?_⟩
  rcases h4 with h4 | ⟨q, -, E, ce, L, ⟨⟨gh', h5, -⟩, -⟩, -⟩
  · exact h4
  · exact h5.elim
theorem gC_B {s : State} {args : Array Value} {R : Room} {idx nL' n f loc mc' ms' : Nat} {y : MethodName} {c' : ByteArray} {ret : Option FieldType} (hts : ∀ w ∈ gwA, w.before args s = true) (hw : gCw own idx y c' nL' ret n) (hR : f + 1 ≤ R.frames ∧ 8 + (nL' + 11) + loc ≤ R.locals) :
    CallB R s args own idx y c' nL' ret (.code y c' nL' ret :: gwA) ({ frames := f, cells := mc', slots := ms', locals := loc } : Room) mc' ms' n := by
  obtain ⟨h1, h2, h3, h4⟩ := hw
  exact callB_of n (Ts := gwA) hts (gwA_good (fun w h => h) _ h1) rfl rfl rfl (hts _ h3) (hts _ h2) h4 hR
theorem g_run {p : Program} {e : Env} {R : Room} {s : State} {m : MethodId} {args : Array Value} {below : List Frame} {meth : Method} {c : Code} {Q : State → Prop} {H : Heap} {locs : List Loc} {ls : Array Slot} {mc' ms' : Nat} {post' : Option Value → gH → Prop} {st0 rest : List Value} {a : Array Value}
    (hr : va_Run p l e R s m args below meth c H locs cells slots mc' ms' (F0 m pc ls st0) rest (gQ D base post' a) (fun q => base ≤ q)) (hS : va_S (fun q => base ≤ q) s.heap H locs) (hl : gLv ls nL lv)
    (kk : ∀ (r : Option Value) (gh' : gH), post' r gh' → gV (p, l, e, R, s, m, args, below, meth, c, Q) D base nL (pc + 3) lv (r.toList ++ rest) gh' (cells + mc') (slots + ms')) : W p l e R s m args below meth c H locs cells slots Q (F0 m pc ls st0) := by
  intro T hT X
  obtain ⟨v, st₀, t, T', L, h0, X', hL, e1, e2, ⟨⟨r, gh', hv, hp, hg⟩, hz, hk⟩, st⟩ := hr T hT X
  cases hv
  rw [h0] at hz hk
  obtain ⟨t2, a1, b1⟩ := kk _ gh' hp T'.heap (locs ++ L) ls (by rw [e1]; exact hg) ⟨Nat.le_trans hS.1 (by rw [e1]; exact hz), fun q h1 h2 => by rw [e1, hk q (Nat.lt_of_lt_of_le h1 hS.1) h2]; exact hS.2.1 q h1 h2, fun q hq => by
      rcases List.mem_append.mp hq with h | h
      · exact hS.2.2 q h
      · exact hL q h⟩ hl T' rfl X'
  exact ⟨t2, st t2 a1, b1⟩
theorem g_runX {p : Program} {e : Env} {R : Room} {s : State} {m : MethodId} {args : Array Value} {below : List Frame} {meth : Method} {c : Code} {Q : State → Prop} {H : Heap} {locs : List Loc} {ls : Array Slot} {mc' ms' : Nat} {post' : Option Value → gH → Prop} {postX' : String → gH → Prop} {st0 rest : List Value} {a : Array Value}
    (hr : vx_Run p l e R s m args below meth c H locs cells slots mc' ms' (F0 m pc ls st0) rest (gQ D base post' a) (gXC D base postX') (fun q => base ≤ q)) (hS : va_S (fun q => base ≤ q) s.heap H locs) (hl : gLv ls nL lv)
    (kx : ∀ (E : String) (gh' : gH), postX' E gh' → gVX (p, l, e, R, s, m, args, below, meth, c, Q) D base nL pc lv rest E gh' (cells + mc') (slots + ms'))
    (kk : ∀ (r : Option Value) (gh' : gH), post' r gh' → gV (p, l, e, R, s, m, args, below, meth, c, Q) D base nL (pc + 3) lv (r.toList ++ rest) gh' (cells + mc') (slots + ms')) : W p l e R s m args below meth c H locs cells slots Q (F0 m pc ls st0) := by
  intro T hT X
  rcases hr T hT X with ⟨v, st₀, t, T', L, h0, X', hL, e1, e2, ⟨⟨r, gh', hv, hp, hg⟩, hF⟩, st⟩ | ⟨q, st₀, t, T', L, E, ce, h0, X', hL, e1, e2, ⟨⟨gh', hp, hg⟩, hF⟩, hce, hcv, hcl, st⟩
  · cases hv
    obtain ⟨k1, k2, k3⟩ := vx_keep h0 e1 hS (fun q _ h => h) (fun q h => h) hL hF
    obtain ⟨t2, a1, b1⟩ := kk _ gh' hp T'.heap (locs ++ L) ls (by rw [e1]; exact hg) k3 hl T' rfl X'
    exact ⟨t2, st t2 a1, b1⟩
  · obtain ⟨k1, k2, k3⟩ := vx_keep h0 e1 hS (fun q _ h => h) (fun q h => h) hL hF
    obtain ⟨t2, a1, b1⟩ := kx E gh' hp T'.heap (locs ++ L) ls ce q (by rw [e1]; exact hg) k3 hl (by rw [e1]; exact hce) hcv hcl T' rfl X'
    exact ⟨t2, st.trans a1, b1⟩
theorem gG.recv {s : State} {H : Heap} (hE : gE D base s) (hG : gG D base gh H) {b ci : Nat} {fs : List Value} {q : vw_C} (hb : gh b = some (gO ci fs)) (hc : vwCl[ci]? = some q) : ∃ cell : Cell, H[b]? = some cell ∧ cell.vm.isStatics = false ∧ s.vm.findClass q.1 = some cell.cls := va_recv hE.1 (hG.one hb) (q0 := 0) hc rfl
section
variable {idx nL' n f loc mc' ms' : Nat} {y : MethodName} {c' : ByteArray} {ret : Option FieldType} {post' : Option Value → gH → Prop} {postX' : String → gH → Prop} {As rest : List Value}
theorem g_callV (hC : gK x l D base nL own cc rm) {b ci : Nat} {fs : List Value} {T : u_T} {N : Nat} (hM : gM l D base y c' nL' ret f loc mc' ms' (.ref b :: As) gh post' gNo) (hw : gCv own idx y c' nL' ret n) (hn : As.length = n) (hb' : gh b = some (gO ci fs)) (hc' : vwCl[ci]? = some (y.cls, T, N))
    (hR' : f + 1 ≤ rm.frames ∧ 8 + (nL' + 11) + loc ≤ rm.locals) (hf : cells + mc' ≤ rm.cells ∧ slots + ms' ≤ rm.slots) (hrest : (rest.map fun v => v.category).sum ≤ 8) (hs : st = As.reverse ++ .ref b :: rest) (hd : decode cc pc = .ok (.invokevirtual idx, 3))
    (kk : ∀ (r : Option Value) (gh' : gH), post' r gh' → gV x D base nL (pc + 3) lv (r.toList ++ rest) gh' (cells + mc') (slots + ms')) : gV x D base nL pc lv st gh cells slots := by
  obtain ⟨p, l', e, R, s, m, args, below, meth, c, Q⟩ := x
  obtain ⟨hx, hb, hml, hown, hts, hE, hlocks, hR, hl', htr⟩ := hC
  subst hl'
  subst hR; subst hs
  intro H locs ls hG hS hl
  exact g_run (va_runV (Ts := gwA) (b := b) (As := As) (rest := rest) ⟨hx, hb, hml, hown, hts⟩ hM.met ⟨gC_B hts hw.1 hR', hts _ hw.2.1, hts _ hw.2.2⟩ ⟨gP.blind, hG.recv hE hb' hc', fun U hU hW => ⟨rfl, by rw [hU]; exact hG, hE.callee hS hU hW⟩⟩ rfl hn hl.1 rfl (lv_room hrest) hd hf) hS hl kk
theorem g_callVX (hC : gK x l D base nL own cc rm) {b ci : Nat} {fs : List Value} {T : u_T} {N : Nat} (hM : gM l D base y c' nL' ret f loc mc' ms' (.ref b :: As) gh post' postX') (hw : gCv own idx y c' nL' ret n) (hn : As.length = n) (hb' : gh b = some (gO ci fs)) (hc' : vwCl[ci]? = some (y.cls, T, N))
    (hR' : f + 1 ≤ rm.frames ∧ 8 + (nL' + 11) + loc ≤ rm.locals) (hf : cells + mc' ≤ rm.cells ∧ slots + ms' ≤ rm.slots) (hrest : (rest.map fun v => v.category).sum ≤ 8) (hs : st = As.reverse ++ .ref b :: rest) (hd : decode cc pc = .ok (.invokevirtual idx, 3))
    (kx : ∀ (E : String) (gh' : gH), postX' E gh' → gVX x D base nL pc lv rest E gh' (cells + mc') (slots + ms'))
    (kk : ∀ (r : Option Value) (gh' : gH), post' r gh' → gV x D base nL (pc + 3) lv (r.toList ++ rest) gh' (cells + mc') (slots + ms')) : gV x D base nL pc lv st gh cells slots := by
  obtain ⟨p, l', e, R, s, m, args, below, meth, c, Q⟩ := x
  obtain ⟨hx, hb, hml, hown, hts, hE, hlocks, hR, hl', htr⟩ := hC
  subst hl'
  subst hR; subst hs
  intro H locs ls hG hS hl
  exact g_runX (vx_runV (Ts := gwA) (b := b) (As := As) (rest := rest) ⟨hx, hb, hml, hown, hts⟩ hM ⟨gC_B hts hw.1 hR', hts _ hw.2.1, hts _ hw.2.2⟩ ⟨gP.blind, hG.recv hE hb' hc', fun U hU hW => ⟨rfl, by rw [hU]; exact hG, hE.callee hS hU hW⟩⟩ rfl hn hl.1 rfl (lv_room hrest) hd hf) hS hl kx kk
theorem g_callS (hC : gK x l D base nL own cc rm) (hM : gM l D base y c' nL' ret f loc mc' ms' As gh post' gNo) (hw : gCs own idx y c' nL' ret n) (hn : As.length = n)
    (hR' : f + 1 ≤ rm.frames ∧ 8 + (nL' + 11) + loc ≤ rm.locals) (hf : cells + mc' ≤ rm.cells ∧ slots + ms' ≤ rm.slots) (hrest : (rest.map fun v => v.category).sum ≤ 8) (hs : st = As.reverse ++ rest) (hd : decode cc pc = .ok (.invokestatic idx, 3))
    (kk : ∀ (r : Option Value) (gh' : gH), post' r gh' → gV x D base nL (pc + 3) lv (r.toList ++ rest) gh' (cells + mc') (slots + ms')) : gV x D base nL pc lv st gh cells slots := by
  obtain ⟨p, l', e, R, s, m, args, below, meth, c, Q⟩ := x
  obtain ⟨hx, hb, hml, hown, hts, hE, hlocks, hR, hl', htr⟩ := hC
  subst hl'
  subst hR; subst hs
  intro H locs ls hG hS hl
  exact g_run (va_runS (Ts := gwA) (As := As) (rest := rest) ⟨hx, hb, hml, hown, hts⟩ hM.met ⟨gC_B hts hw.1 hR', hts _ hw.2⟩ ⟨gP.blind, fun U hU hW => ⟨rfl, by rw [hU]; exact hG, hE.callee hS hU hW⟩⟩ rfl hn hl.1 rfl (lv_room hrest) hd hf) hS hl kk
theorem g_callSN (hC : gK x l D base nL own cc rm) {host : String} (hM : gM l D base y c' nL' ret f loc mc' ms' As gh post' gNo) (hw : gCn own host idx y c' nL' ret n) (hn : As.length = n)
    (hR' : f + 1 ≤ rm.frames ∧ 8 + (nL' + 11) + loc ≤ rm.locals) (hf : cells + mc' ≤ rm.cells ∧ slots + ms' ≤ rm.slots) (hrest : (rest.map fun v => v.category).sum ≤ 8) (hs : st = As.reverse ++ rest) (hd : decode cc pc = .ok (.invokestatic idx, 3))
    (kk : ∀ (r : Option Value) (gh' : gH), post' r gh' → gV x D base nL (pc + 3) lv (r.toList ++ rest) gh' (cells + mc') (slots + ms')) : gV x D base nL pc lv st gh cells slots := by
  obtain ⟨p, l', e, R, s, m, args, below, meth, c, Q⟩ := x
  obtain ⟨hx, hb, hml, hown, hts, hE, hlocks, hR, hl', htr⟩ := hC
  subst hl'
  subst hR; subst hs
  intro H locs ls hG hS hl
  obtain ⟨w1, w2, w3, w4, w5⟩ := hw
  exact g_run (va_runSN (Ts := gwA) (As := As) (rest := rest) ⟨hx, hb, hml, hown, hts⟩ hM.met ⟨va_cnB n (Ts := gwA) hts (gwA_good (fun w h => h) _ w1) rfl rfl rfl (hE.2.2.2.2.2.1 _ w2 rfl) (hts _ w3) w4 hR', hts _ w5, trivial⟩ ⟨gP.blind, fun U hU hW => ⟨rfl, by rw [hU]; exact hG, hE.callee hS hU hW⟩⟩ rfl hn hl.1 rfl (lv_room hrest) hd hf) hS hl kk
theorem g_callI (hC : gK x l D base nL own cc rm) {b : Nat} (hM : gM l D base y c' nL' none f loc mc' ms' (.ref b :: As) gh post' gNo) (hw : gCi own idx y c' nL' n) (hn : As.length = n)
    (hR' : f + 1 ≤ rm.frames ∧ 8 + (nL' + 11) + loc ≤ rm.locals) (hf : cells + mc' ≤ rm.cells ∧ slots + ms' ≤ rm.slots) (hrest : (rest.map fun v => v.category).sum ≤ 8) (hs : st = As.reverse ++ .ref b :: rest) (hd : decode cc pc = .ok (.invokespecial idx, 3))
    (kk : ∀ (r : Option Value) (gh' : gH), post' r gh' → gV x D base nL (pc + 3) lv (r.toList ++ rest) gh' (cells + mc') (slots + ms')) : gV x D base nL pc lv st gh cells slots := by
  obtain ⟨p, l', e, R, s, m, args, below, meth, c, Q⟩ := x
  obtain ⟨hx, hb, hml, hown, hts, hE, hlocks, hR, hl', htr⟩ := hC
  subst hl'
  subst hR; subst hs
  intro H locs ls hG hS hl
  exact g_run (va_runI (Ts := gwA) (b := b) (As := As) (rest := rest) ⟨hx, hb, hml, hown, hts⟩ hM.met ⟨gC_B hts hw.1 hR', hw.2.2, hts _ hw.2.1⟩ ⟨gP.blind, fun U hU hW => ⟨rfl, by rw [hU]; exact hG, hE.callee hS hU hW⟩⟩ rfl hn hl.1 rfl (lv_room hrest) hd hf) hS hl kk
end
theorem g_max (hC : gK x l D base nL own cc rm) {idx : Nat} {a b : Int} (w1 : Cond.methodLink own idx Lib.Math.max.name ∈ gwA) (w2 : Cond.static Lib.Math.max.name ∈ gwA) (w3 : Cond.initialized "java/lang/Math" ∈ gwA) (w4 : Cond.code Lib.Math.max.name Lib.Math.max.code 2 (some .int) ∈ gwA) (hf : 1 ≤ rm.frames) (hlo : (st.map fun v => v.category).sum + 13 ≤ rm.locals) (hc1 : cells ≤ rm.cells) (hs1 : slots ≤ rm.slots)
    (ha : -2147483648 ≤ a ∧ a < 2147483648) (hb' : -2147483648 ≤ b ∧ b < 2147483648) (hd : decode cc pc = .ok (.invokestatic idx, 3)) (kk : gV x D base nL (pc + 3) lv (vi (max a b) :: st) gh cells slots) : gV x D base nL pc lv (vi b :: vi a :: st) gh cells slots := by
  obtain ⟨p, l', e, R, s, m, args, below, meth, c, Q⟩ := x
  obtain ⟨hx, hb, hml, hown, hts, hE, hlocks, hR, hl', htr⟩ := hC
  subst hl'
  subst hR
  intro H locs ls hG hS hl
  refine va_mmax hx hb (hml.trans hl.1.symm) hown (hts _ w1) (hts _ w2) (hts _ w3) (hts _ w4) hf hlo hc1 hs1 hd ?_
  have e0 : (if iI a < iI b then iI b else iI a) = iI (max a b) := by
    by_cases h : a < b
    · rw [if_pos ((iI_lt ha hb').mpr h), Int.max_eq_right (by omega)]
    · rw [if_neg (fun z => h ((iI_lt ha hb').mp z)), Int.max_eq_left (by omega)]
  rw [e0]
  exact kk H locs ls hG hS hl
theorem g_getN (hC : gK x l D base nL own cc rm) {host C : String} {T : u_T} {N idx ci k a : Nat} {fs : List Value} {v : Value} (hd : decode cc pc = .ok (.getfield idx, 3)) (h1 : vwCl[ci]? = some (C, T, N)) (h2 : ∀ w ∈ u_ws C T N, w ∈ gwA) (h3 : k < N) (h4 : Cond.fieldLinkNest own idx (T k).1 (T k).2.1 (T k).2.2.1 host ∈ lw_tbl) (ha : gh a = some (gO ci fs)) (hv : fs[k]? = some v)
    (kk : gV x D base nL (pc + 3) lv (v :: st) gh cells slots) : gV x D base nL pc lv (.ref a :: st) gh cells slots := by
  obtain ⟨p, l', e, R, s, m, args, below, meth, c, Q⟩ := x
  obtain ⟨hx, hb, hml, hown, hts, hE, hlocks, hR, hl', htr⟩ := hC
  subst hl'
  intro H locs ls hG hS hl
  exact va_getN hx hb hts h2 hown hE.1 (hG.one ha) 0 rfl h1 k h3 (va_Nw.use rfl (hE.2.2.2.2.2.1 _ h4 rfl)) (fun _ h => h) hv hd (kk H locs ls hG hS hl)
end GD
