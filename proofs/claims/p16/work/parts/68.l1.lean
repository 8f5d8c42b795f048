/-! rows of the law's own body: the script, the switch, long answers; calls of bodies with handlers -/
section L1
theorem lw_tswIn {p : Program} {l : Launch} {e : Env} {R : Room} {s : State} {m : MethodId} {args : Array Value} {below : List Frame} {meth : Method} {c : Code} {T : State} {locs : List Loc} {cells slots : Nat} (X : Stand p l e R s m args below meth c T locs cells slots) (hexec : p.tables.exec = Jvm.exec) {g : JFrame} (hg : g.method = m) {k : Int32} {rest : List Value}
    (hstack : g.stack = .int k :: rest) {default low high : Int} {offsets : Array Int} {len : Nat} (hdg : decode c.code g.pc = .ok (.tableswitch default low high offsets, len))
    (hin : ¬ (k.toInt < low ∨ k.toInt > high)) {off : Int} (hoffs : offsets[(k.toInt - low).toNat]? = some off) (hoff : 0 ≤ (g.pc : Int) + off)
    (target : State) (hrest : Steps p.tables e below (T.setTop { g with pc := ((g.pc : Int) + off).toNat, stack := rest }) target) : Steps p.tables e below (T.setTop g) target := by
  subst hg
  jvm_step X.here [hexec, hdg, Op.tableswitch.wp_sem, hstack, hin, hoffs]
  intro acts
  rw [afterInstr_branch e len { g with stack := rest } acts off X.here.top hoff]; exact hrest
theorem lw_tswOut {p : Program} {l : Launch} {e : Env} {R : Room} {s : State} {m : MethodId} {args : Array Value} {below : List Frame} {meth : Method} {c : Code} {T : State} {locs : List Loc} {cells slots : Nat} (X : Stand p l e R s m args below meth c T locs cells slots) (hexec : p.tables.exec = Jvm.exec) {g : JFrame} (hg : g.method = m) {k : Int32} {rest : List Value}
    (hstack : g.stack = .int k :: rest) {default low high : Int} {offsets : Array Int} {len : Nat} (hdg : decode c.code g.pc = .ok (.tableswitch default low high offsets, len))
    (hout : k.toInt < low ∨ k.toInt > high) (hoff : 0 ≤ (g.pc : Int) + default)
    (target : State) (hrest : Steps p.tables e below (T.setTop { g with pc := ((g.pc : Int) + default).toNat, stack := rest }) target) : Steps p.tables e below (T.setTop g) target := by
  subst hg
  jvm_step X.here [hexec, hdg, Op.tableswitch.wp_sem, hstack, hout]
  intro acts
  rw [afterInstr_branch e len { g with stack := rest } acts default X.here.top hoff]; exact hrest
variable {x : gX} {l : Launch} {D : gD} {base nL : Nat} {own : String} {cc : ByteArray} {rm : Room} {pc : Nat} {lv : List (Option Value)} {st : List Value} {gh : gH} {cells slots : Nat}
theorem g_tswIn (hC : gK x l D base nL own cc rm) {k : Int} (hk : -2147483648 ≤ k ∧ k < 2147483648) {default low high : Int} {offsets : Array Int} {len : Nat} (hd : decode cc pc = .ok (.tableswitch default low high offsets, len)) (hin : low ≤ k ∧ k ≤ high) {off : Int} (hoffs : offsets[(k - low).toNat]? = some off) {tgt : Nat} (ht : (pc : Int) + off = (tgt : Int)) (kk : gV x D base nL tgt lv st gh cells slots) : gV x D base nL pc lv (vi k :: st) gh cells slots := by
  obtain ⟨p, l', e, R, s, m, args, below, meth, c, Q⟩ := x
  obtain ⟨hx, hb, hml, hown, hts, hE, hlocks, hR, hl', htr⟩ := hC
  subst hb
  intro H locs ls hG hS hl T hT X
  obtain ⟨t, a, b⟩ := kk H locs ls hG hS hl T hT X
  refine ⟨t, ?_, b⟩
  have e1 : (iI k).toInt = k := iI_toInt hk.1 hk.2
  refine lw_tswIn X hx (g := F0 m pc ls (.int (iI k) :: st)) rfl rfl hd (by rw [e1]; omega) (by rw [e1]; exact hoffs) (by show 0 ≤ (pc : Int) + off; omega) t ?_
  show Steps p.tables e below (T.setTop (F0 m ((pc : Int) + off).toNat ls st)) t
  rw [ht, Int.toNat_natCast]
  exact a
theorem g_tswOut (hC : gK x l D base nL own cc rm) {k : Int} (hk : -2147483648 ≤ k ∧ k < 2147483648) {default low high : Int} {offsets : Array Int} {len : Nat} (hd : decode cc pc = .ok (.tableswitch default low high offsets, len)) (hout : k < low ∨ high < k) {tgt : Nat} (ht : (pc : Int) + default = (tgt : Int)) (kk : gV x D base nL tgt lv st gh cells slots) : gV x D base nL pc lv (vi k :: st) gh cells slots := by
  obtain ⟨p, l', e, R, s, m, args, below, meth, c, Q⟩ := x
  obtain ⟨hx, hb, hml, hown, hts, hE, hlocks, hR, hl', htr⟩ := hC
  subst hb
  intro H locs ls hG hS hl T hT X
  obtain ⟨t, a, b⟩ := kk H locs ls hG hS hl T hT X
  refine ⟨t, ?_, b⟩
  have e1 : (iI k).toInt = k := iI_toInt hk.1 hk.2
  refine lw_tswOut X hx (g := F0 m pc ls (.int (iI k) :: st)) rfl rfl hd (by rw [e1]; omega) (by show 0 ≤ (pc : Int) + default; omega) t ?_
  show Steps p.tables e below (T.setTop (F0 m ((pc : Int) + default).toNat ls st)) t
  rw [ht, Int.toNat_natCast]
  exact a
theorem g_lcmpE (hC : gK x l D base nL own cc rm) {v : Int64} (hd : decode cc pc = .ok (.lcmp, 1)) (kk : gV x D base nL (pc + 1) lv (vi 0 :: st) gh cells slots) : gV x D base nL pc lv (.long v :: .long v :: st) gh cells slots := by
  obtain ⟨p, l', e, R, s, m, args, below, meth, c, Q⟩ := x
  obtain ⟨hx, hb, hml, hown, hts, hE, hlocks, hR, hl', htr⟩ := hC
  intro H locs ls hG hS hl
  refine W.lcmp hx hb hd ?_
  rw [show lg_cmp v v = iI 0 by simp [lg_cmp]; rfl]
  exact kk H locs ls hG hS hl
theorem iI_and15 {a : Int} (h : -2147483648 ≤ a ∧ a < 2147483648) : iI a &&& iI 15 = iI (a % 16) := by
  have h1 := Jvm.Kit.i32_mask (iI a) (iI 15) (k := 4) (by decide) (by decide)
  rw [iI_toInt h.1 h.2] at h1
  rw [show ((2 : Int) ^ 4) = 16 from rfl] at h1
  rw [iI_of (iI a &&& iI 15), h1]
theorem iI_i2cC {a : Int} (h : -2147483648 ≤ a ∧ a < 2147483648) : ((iI a).toUInt32 % 65536).toInt32 = iI (a % 65536) := by
  have h1 := lg_i2c_toInt (iI a)
  rw [iI_toInt h.1 h.2] at h1
  rw [show ((2 : Int) ^ 16) = 65536 from rfl] at h1
  rw [lg_i2c_nf, iI_of ((iI a).toUInt32.toUInt16.toUInt32.toInt32), h1]
/-- the script: ints that lie outside the law's own cells -/
def gScr (x : gX) (base b L : Nat) (xs : Nat → Int32) : Prop :=
  match x with
  | (_, _, _, _, s, _, _, _, _, _, _) => va_X b L xs s s.heap ∧ b < s.heap.size ∧ b < base
theorem g_slen (hC : gK x l D base nL own cc rm) {b L : Nat} {xs : Nat → Int32} (hX : gScr x base b L xs) (hd : decode cc pc = .ok (.arraylength, 1)) (kk : gV x D base nL (pc + 1) lv (vi (L : Int) :: st) gh cells slots) : gV x D base nL pc lv (.ref b :: st) gh cells slots := by
  obtain ⟨p, l', e, R, s, m, args, below, meth, c, Q⟩ := x
  obtain ⟨hx, hb, hml, hown, hts, hE, hlocks, hR, hl', htr⟩ := hC
  obtain ⟨h1, h2, h3⟩ := hX
  intro H locs ls hG hS hl
  refine va_slen hx hb h1 h2 (by omega) hS hd ?_
  rw [show Int32.ofNat L = iI (L : Int) from (iI_nI L).symm]
  exact kk H locs ls hG hS hl
theorem g_sld (hC : gK x l D base nL own cc rm) {b L : Nat} {xs : Nat → Int32} (hX : gScr x base b L xs) (hL : L < 2147483648) {i : Int} (j : Nat) (hi : i = (j : Int)) (hj : j < L) (hd : decode cc pc = .ok (.iaload, 1)) (kk : gV x D base nL (pc + 1) lv (vi (xs j).toInt :: st) gh cells slots) : gV x D base nL pc lv (vi i :: .ref b :: st) gh cells slots := by
  obtain ⟨p, l', e, R, s, m, args, below, meth, c, Q⟩ := x
  obtain ⟨hx, hb, hml, hown, hts, hE, hlocks, hR, hl', htr⟩ := hC
  obtain ⟨h1, h2, h3⟩ := hX
  subst hi
  intro H locs ls hG hS hl
  refine va_sld hx hb h1 h2 (by omega) hS (iI_in (by omega) (by omega) (by omega)) hd ?_
  rw [iI_clamp (by omega) (by omega), Int.toNat_natCast, iI_of (xs j)]
  exact kk H locs ls hG hS hl
theorem gwA_self : ∀ w ∈ gwA, w ∈ gwA := fun _ h => h
theorem g_callSW (hC : gK x l D base nL own cc rm) {idx nL' n f loc mc' ms' : Nat} {y : MethodName} {c' : ByteArray} {ret : Option FieldType} {post' : Option Value → gH → Prop} {As rest : List Value} {hh' : List (Nat × Nat × Nat × Nat)} (hM : gMW l D base y c' nL' ret hh' f loc mc' ms' As gh post') (hw : gCsW own idx y c' nL' ret hh' n) (hn : As.length = n)
    (hR' : f + 1 ≤ rm.frames ∧ 8 + (nL' + 11) + loc ≤ rm.locals) (hf : cells + mc' ≤ rm.cells ∧ slots + ms' ≤ rm.slots) (hrest : (rest.map fun v => v.category).sum ≤ 8) (hs : st = As.reverse ++ rest) (hd : decode cc pc = .ok (.invokestatic idx, 3))
    (kk : ∀ (r : Option Value) (gh' : gH), post' r gh' → gV x D base nL (pc + 3) lv (r.toList ++ rest) gh' (cells + mc') (slots + ms')) : gV x D base nL pc lv st gh cells slots := by
  obtain ⟨p, l', e, R, s, m, args, below, meth, c, Q⟩ := x
  obtain ⟨hx, hb, hml, hown, hts, hE, hlocks, hR, hl', htr⟩ := hC
  subst hl'
  subst hR; subst hs
  intro H locs ls hG hS hl
  obtain ⟨w1, w2, w3, w4, w5⟩ := hw
  have hgood : GoodIn gwA (va_wsS own idx y (Cond.codeWith y c' nL' ret hh' :: gwA)) := by
    intro w hw
    have h1 : w ∈ gwA := by
      unfold va_wsS at hw
      rcases List.mem_append.mp hw with h | h
      · simp only [List.mem_cons, List.not_mem_nil, or_false] at h
        rcases h with rfl | rfl | rfl
        · exact w2
        · exact w4
        · exact w3
      · rcases List.mem_cons.mp h with rfl | h
        · exact w1
        · exact h
    exact ⟨h1, good_of_word (List.mem_filter.mp h1).2⟩
  exact g_run (vx_runSW (Ts := gwA) (As := As) (rest := rest) ⟨hx, hb, hml, hown, hts⟩ hM.met (vx_cwSW n hts hgood rfl rfl rfl w5 hR') ⟨gP.blind, fun U hU hW => ⟨rfl, by rw [hU]; exact hG, hE.callee hS hU hW⟩⟩ rfl hn hl.1 rfl (lv_room hrest) hd hf) hS hl kk
end L1
