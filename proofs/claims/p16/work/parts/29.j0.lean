/-! calls of a superclass's own method, of inherited and private methods; statics; copies of bytes -/
section J0
theorem gwA_goodIn {ws : List Cond} (h : ∀ w ∈ ws, w ∈ gwA) : GoodIn gwA ws := fun w hw => ⟨h w hw, good_of_word (List.mem_filter.mp (h w hw)).2⟩
/-- a private method is what a call of it selects, whatever class the object has -/
theorem g_selPriv {C : String} {y y0 : MethodName} {s : State} {args : Array Value} (hy : y.cls ≠ "java/lang/invoke/MethodHandle" ∧ y.cls ≠ "java/lang/invoke/VarHandle")
    (h0 : (Cond.selects C y0 y0).before args s = true) (he : y0.cls = y.cls) (hpriv : (Cond.privateMethod y).before args s = true) (hinst : (Cond.instanceMethod y).before args s = true) :
    (Cond.selects C y y).before args s = true := by
  obtain ⟨c, r, m0, hc, -, hn0, -, kP, hkP, hni⟩ := Cond.selects_spec h0
  obtain ⟨mk, methM, hnamed, hmethM, -, -⟩ := Cond.instanceMethod_spec hinst
  have hfound : s.methodFound? y.cls y.name y.desc = some mk := State.methodFound?_of_named hnamed hy
  have h1 := findClass_of_methodNamed hn0
  rw [he] at h1
  have hcls : mk.cls = m0.cls := Option.some.inj ((findClass_of_methodNamed hnamed).symm.trans h1)
  have hsel : selectMethod {} s.vm c mk = .method mk := selectMethod_private hmethM (Cond.privateMethod_at hpriv mk methM hnamed hmethM)
  simp only [Cond.before, Cond.holds, Cond.value, hc, hfound, hnamed, hsel, hcls, hkP]
  simp
  exact hni
variable {x : gX} {l : Launch} {D : gD} {base nL : Nat} {own : String} {cc : ByteArray} {rm : Room} {pc : Nat} {lv : List (Option Value)} {st : List Value} {gh : gH} {cells slots : Nat}
theorem g_compact (hC : gK x l D base nL own cc rm) {idx : Nat} (hd : decode cc pc = .ok (.getstatic idx, 3)) (hw : Cond.fieldLink own idx "java/lang/String" "COMPACT_STRINGS" "Z" ∈ gwA) (k : gV x D base nL (pc + 3) lv (vi 1 :: st) gh cells slots) : gV x D base nL pc lv st gh cells slots := by
  obtain ⟨p, l', e, R, s, m, args, below, meth, c, Q⟩ := x
  obtain ⟨hx, hb, hml, hown, hts, hE, hlocks, hR, hl', htr⟩ := hC
  intro H locs ls hG hS hl
  exact va_gets hx hb hE.2.2.2.2.2.2.2.2.1 hS hown (hts _ hw) (fun _ h => h) hd (k H locs ls hG hS hl)
theorem g_sioobe (hC : gK x l D base nL own cc rm) {idx : Nat} (hd : decode cc pc = .ok (.getstatic idx, 3)) (hw : Cond.fieldLink own idx "jdk/internal/util/Preconditions" "SIOOBE_FORMATTER" "Ljava/util/function/BiFunction;" ∈ gwA) (k : ∀ v : Option Nat, gV x D base nL (pc + 3) lv (va_rf v :: st) gh cells slots) : gV x D base nL pc lv st gh cells slots := by
  obtain ⟨p, l', e, R, s, m, args, below, meth, c, Q⟩ := x
  obtain ⟨hx, hb, hml, hown, hts, hE, hlocks, hR, hl', htr⟩ := hC
  intro H locs ls hG hS hl
  rcases hE.2.2.2.2.2.2.2.2.2 with h | ⟨t, h⟩
  · exact va_gets hx hb h hS hown (hts _ hw) (fun _ h => h) hd (k none H locs ls hG hS hl)
  · exact va_gets hx hb h hS hown (hts _ hw) (fun _ h => h) hd (k (some t) H locs ls hG hS hl)
def gCsu (own : String) (idx : Nat) (y : MethodName) (c' : ByteArray) (nL' : Nat) (ret : Option FieldType) (n : Nat) : Prop := (∀ w ∈ va_wsSU own idx y [Cond.code y c' nL' ret], w ∈ gwA) ∧ y.name ≠ "<init>" ∧ (parseMethodDescriptor y.desc).map (fun d => d.parameters.length) = some n
def gCu (own C : String) (idx : Nat) (y : MethodName) (c' : ByteArray) (nL' : Nat) (ret : Option FieldType) (n : Nat) : Prop := (∀ w ∈ va_wsU own idx C y.cls y y [Cond.code y c' nL' ret], w ∈ gwA) ∧ y.cls ≠ "java/lang/invoke/MethodHandle" ∧ y.cls ≠ "java/lang/invoke/VarHandle" ∧ (parseMethodDescriptor y.desc).map (fun d => d.parameters.length) = some n
/-- an inherited method that the object's class has of its own -/
def gCo (own C owner : String) (idx : Nat) (x y : MethodName) (c' : ByteArray) (nL' : Nat) (ret : Option FieldType) (n : Nat) : Prop := (∀ w ∈ va_wsO own idx C owner x y [Cond.code y c' nL' ret], w ∈ gwA) ∧ (∃ b0 m0 r0, Cond.code ⟨owner, x.name, x.desc⟩ b0 m0 r0 ∈ gwA) ∧ owner ≠ "java/lang/invoke/MethodHandle" ∧ owner ≠ "java/lang/invoke/VarHandle" ∧ (parseMethodDescriptor x.desc).map (fun d => d.parameters.length) = some n
section
variable {idx nL' n f loc mc' ms' : Nat} {y : MethodName} {c' : ByteArray} {ret : Option FieldType} {post' : Option Value → gH → Prop} {As rest : List Value}
theorem g_callSU (hC : gK x l D base nL own cc rm) {b ci : Nat} {fs : List Value} {q : vw_C} (hM : gM l D base y c' nL' ret f loc mc' ms' (.ref b :: As) gh post' gNo) (hw : gCsu own idx y c' nL' ret n) (hn : As.length = n) (hb' : gh b = some (gO ci fs)) (hc' : vwCl[ci]? = some q)
    (hR' : f + 1 ≤ rm.frames ∧ 8 + (nL' + 11) + loc ≤ rm.locals) (hf : cells + mc' ≤ rm.cells ∧ slots + ms' ≤ rm.slots) (hrest : (rest.map fun v => v.category).sum ≤ 8) (hs : st = As.reverse ++ .ref b :: rest) (hd : decode cc pc = .ok (.invokespecial idx, 3))
    (kk : ∀ (r : Option Value) (gh' : gH), post' r gh' → gV x D base nL (pc + 3) lv (r.toList ++ rest) gh' (cells + mc') (slots + ms')) : gV x D base nL pc lv st gh cells slots := by
  obtain ⟨p, l', e, R, s, m, args, below, meth, c, Q⟩ := x
  obtain ⟨hx, hb, hml, hown, hts, hE, hlocks, hR, hl', htr⟩ := hC
  subst hl'
  subst hR; subst hs
  intro H locs ls hG hS hl
  have hg : ∀ w ∈ va_wsSU own idx y (Cond.code y c' nL' ret :: gwA), w ∈ gwA := by
    intro w h
    unfold va_wsSU at h
    rcases List.mem_append.mp h with h | h
    · exact hw.1 w (by unfold va_wsSU; exact List.mem_append_left _ h)
    · rcases List.mem_cons.mp h with h | h
      · exact hw.1 w (by unfold va_wsSU; exact List.mem_append_right _ (by rw [h]; exact List.mem_cons_self))
      · exact h
  exact g_run (va_runSU (Ts := gwA) (b := b) (As := As) (rest := rest) (hE.1.1 ci q hc').2 ⟨hx, hb, hml, hown, hts⟩ hM.met (va_cwSU n hts (gwA_goodIn hg) rfl rfl rfl hw.2 hR') ⟨gP.blind, hG.recv hE hb' hc', fun U hU hW => ⟨rfl, by rw [hU]; exact hG, hE.callee hS hU hW⟩⟩ rfl hn hl.1 rfl (lv_room hrest) hd hf) hS hl kk
theorem g_callU (hC : gK x l D base nL own cc rm) {b ci : Nat} {fs : List Value} {q : vw_C} (hM : gM l D base y c' nL' ret f loc mc' ms' (.ref b :: As) gh post' gNo) (hw : gCu own q.1 idx y c' nL' ret n) (hn : As.length = n) (hb' : gh b = some (gO ci fs)) (hc' : vwCl[ci]? = some q)
    (hR' : f + 1 ≤ rm.frames ∧ 8 + (nL' + 11) + loc ≤ rm.locals) (hf : cells + mc' ≤ rm.cells ∧ slots + ms' ≤ rm.slots) (hrest : (rest.map fun v => v.category).sum ≤ 8) (hs : st = As.reverse ++ .ref b :: rest) (hd : decode cc pc = .ok (.invokevirtual idx, 3))
    (kk : ∀ (r : Option Value) (gh' : gH), post' r gh' → gV x D base nL (pc + 3) lv (r.toList ++ rest) gh' (cells + mc') (slots + ms')) : gV x D base nL pc lv st gh cells slots := by
  obtain ⟨p, l', e, R, s, m, args, below, meth, c, Q⟩ := x
  obtain ⟨hx, hb, hml, hown, hts, hE, hlocks, hR, hl', htr⟩ := hC
  subst hl'
  subst hR; subst hs
  intro H locs ls hG hS hl
  have hg : ∀ w ∈ va_wsU own idx q.1 y.cls y y (Cond.code y c' nL' ret :: gwA), w ∈ gwA := by
    intro w h
    unfold va_wsU at h
    rcases List.mem_append.mp h with h | h
    · exact hw.1 w (by unfold va_wsU; exact List.mem_append_left _ h)
    · rcases List.mem_cons.mp h with h | h
      · exact hw.1 w (by unfold va_wsU; exact List.mem_append_right _ (by rw [h]; exact List.mem_cons_self))
      · exact h
  exact g_run (va_runU (Ts := gwA) (b := b) (As := As) (rest := rest) ⟨hx, hb, hml, hown, hts⟩ hM.met (va_cwU n hts (gwA_goodIn hg) rfl rfl rfl rfl hw.2 hR') ⟨gP.blind, hG.recv hE hb' hc', fun U hU hW => ⟨rfl, by rw [hU]; exact hG, hE.callee hS hU hW⟩⟩ rfl hn hl.1 rfl (lv_room hrest) hd hf) hS hl kk
theorem g_callO (hC : gK x l D base nL own cc rm) {b ci : Nat} {fs : List Value} {q : vw_C} {owner : String} {x0 : MethodName} (hM : gM l D base y c' nL' ret f loc mc' ms' (.ref b :: As) gh post' gNo) (hw : gCo own q.1 owner idx x0 y c' nL' ret n) (hn : As.length = n) (hb' : gh b = some (gO ci fs)) (hc' : vwCl[ci]? = some q)
    (hR' : f + 1 ≤ rm.frames ∧ 8 + (nL' + 11) + loc ≤ rm.locals) (hf : cells + mc' ≤ rm.cells ∧ slots + ms' ≤ rm.slots) (hrest : (rest.map fun v => v.category).sum ≤ 8) (hs : st = As.reverse ++ .ref b :: rest) (hd : decode cc pc = .ok (.invokevirtual idx, 3))
    (kk : ∀ (r : Option Value) (gh' : gH), post' r gh' → gV x D base nL (pc + 3) lv (r.toList ++ rest) gh' (cells + mc') (slots + ms')) : gV x D base nL pc lv st gh cells slots := by
  obtain ⟨p, l', e, R, s, m, args, below, meth, c, Q⟩ := x
  obtain ⟨hx, hb, hml, hown, hts, hE, hlocks, hR, hl', htr⟩ := hC
  subst hl'
  subst hR; subst hs
  intro H locs ls hG hS hl
  obtain ⟨w1, ⟨b0, m0, r0, w2⟩, w3⟩ := hw
  have hg : ∀ w ∈ va_wsO own idx q.1 owner x0 y (Cond.code y c' nL' ret :: gwA), w ∈ gwA := by
    intro w h
    unfold va_wsO at h
    rcases List.mem_append.mp h with h | h
    · exact w1 w (by unfold va_wsO; exact List.mem_append_left _ h)
    · rcases List.mem_cons.mp h with h | h
      · exact w1 w (by unfold va_wsO; exact List.mem_append_right _ (by rw [h]; exact List.mem_cons_self))
      · exact h
  exact g_run (va_runU (Ts := gwA) (b := b) (As := As) (rest := rest) ⟨hx, hb, hml, hown, hts⟩ hM.met (va_cwO n hts (gwA_goodIn hg) rfl rfl rfl w2 w3 hR') ⟨gP.blind, hG.recv hE hb' hc', fun U hU hW => ⟨rfl, by rw [hU]; exact hG, hE.callee hS hU hW⟩⟩ rfl hn hl.1 rfl (lv_room hrest) hd hf) hS hl kk
end
theorem g_acopyB (hC : gK x l D base nL own cc rm) {idx a0 a n0 n1 : Nat} {F G : Nat → Int} {sp dp n : Nat} (hd : decode cc pc = .ok (.invokestatic idx, 3))
    (hw : Cond.methodLink own idx arraycopyName ∈ gwA ∧ Cond.native arraycopyName ∈ gwA ∧ Cond.static arraycopyName ∈ gwA ∧ Cond.initialized "java/lang/System" ∈ gwA)
    (h0 : gh a0 = some (gI 2 n0 F)) (h1 : gh a = some (gI 2 n1 G)) (h4 : sp + n ≤ n0) (h5 : dp + n ≤ n1) (hn0 : n0 < 2147483648) (hn1 : n1 < 2147483648) (hfit : ∀ i, i < n → -128 ≤ F (sp + i) ∧ F (sp + i) < 128)
    (hframes : 1 ≤ rm.frames) (hlo : (st.map fun v => v.category).sum + (nativeFrameWords "java/lang/System" "arraycopy" 5 + 11) ≤ rm.locals)
    (kk : gV x D base nL (pc + 3) lv st (gset gh a (gI 2 n1 (fun j => if dp ≤ j ∧ j < dp + n then F (sp + (j - dp)) else G j))) cells slots) : gV x D base nL pc lv (vi (n : Int) :: vi (dp : Int) :: .ref a :: vi (sp : Int) :: .ref a0 :: st) gh cells slots := by
  obtain ⟨p, l', e, R, s, m, args, below, meth, c, Q⟩ := x
  obtain ⟨hx, hb, hml, hown, hts, hE, hlocks, hR, hl', htr⟩ := hC
  subst hR
  intro H locs ls hG hS hl T hT X
  have nn : ∀ k : Nat, k < 2147483648 → (iI (k : Int)).toInt = (k : Int) ∧ (iI (k : Int)).toNatClampNeg = k ∧ ¬ iI (k : Int) < 0 := fun k hk => ⟨iI_toInt (by omega) (by omega), by rw [iI_clamp (by omega) (by omega)]; rfl, fun h => by have := (iI_lt (a := (k : Int)) (b := 0) (by omega) (by decide)).mp h; omega⟩
  have c0 : H[a0]? = some (vp_cell (D.2 2) (n0, .inl (fun j => iI (F j)))) := (hG _ _ h0).2
  have c1 : H[a]? = some (vp_cell (D.2 2) (n1, .inl (fun j => iI (G j)))) := (hG _ _ h1).2
  obtain ⟨hK2, -⟩ := hE.1.2 2 (D.2 2, .byte) (gtys_at D (by decide))
  obtain ⟨-, k0, hk0, cm0, hkk0⟩ := hK2 n0 (fun j => .int (iI (F j)))
  obtain ⟨-, k1, hk1, cm1, hkk1⟩ := hK2 n1 (fun j => .int (iI (G j)))
  obtain ⟨s1, s2, s3⟩ := nn sp (by omega)
  obtain ⟨d1, d2, d3⟩ := nn dp (by omega)
  obtain ⟨e1, e2, e3⟩ := nn n (by omega)
  obtain ⟨vm', X', step⟩ := X.arraycopy hx hown (hts _ hw.1) (hts _ hw.2.1) (hts _ hw.2.2.1) (hts _ hw.2.2.2) (src := a0) (dst := a) (cs := vp_cell (D.2 2) (n0, .inl (fun j => iI (F j)))) (cd := vp_cell (D.2 2) (n1, .inl (fun j => iI (G j)))) (sType := .byte) (dType := .byte) (srcPos := iI (sp : Int)) (destPos := iI (dp : Int)) (n := iI (n : Int)) (by rw [hT]; exact c0) (by rw [hT]; exact c1)
    (fun _ h => by cases h) (fun _ h => by cases h) (fun h => by cases h) (fun h => by cases h) hk0 hk1 hkk0 hkk1 (by decide) s3 d3 e3
    (by rw [s1, e1]; show ¬ _ > ((arrV (D.2 2) n0 (fun j => .int (iI (F j)))).slots.size : Int); rw [arrV_size]; omega)
    (by rw [d1, e1]; show ¬ _ > ((arrV (D.2 2) n1 (fun j => .int (iI (G j)))).slots.size : Int); rw [arrV_size]; omega)
    (fun vm₁ _ i hi => by
      rw [e2] at hi
      have ev : (vp_cell (D.2 2) (n0, .inl (fun j => iI (F j)))).slots.getD ((iI (sp : Int)).toNatClampNeg + i) .null = .int (iI (F (sp + i))) := by
        show (arrV (D.2 2) n0 (fun j => .int (iI (F j)))).slots.getD _ _ = _
        rw [s2, Array.getD_eq_getD_getElem?, arrV_read _ _ (by omega)]
        rfl
      have hf := hfit i hi
      rw [ev]
      refine ⟨?_, trivial⟩
      show fits .byte (.int (iI (F (sp + i)))) = true
      simp only [fits]
      simp
      exact ⟨(iI_le (a := -128) (by decide) (by omega)).mpr hf.1, (iI_le (b := 127) (by omega) (by decide)).mpr (by omega)⟩)
    (g := F0 m pc ls (vi (n : Int) :: vi (dp : Int) :: .ref a :: vi (sp : Int) :: .ref a0 :: st)) rfl (by rw [hml]; exact hl.1) (rest := st) rfl (by rw [hb]; exact hd) hframes (by show 2 * 0 + _ + _ ≤ _; omega)
  have ec : copied (vp_cell (D.2 2) (n0, .inl (fun j => iI (F j)))) (vp_cell (D.2 2) (n1, .inl (fun j => iI (G j)))) (iI (sp : Int)) (iI (dp : Int)) (iI (n : Int)) = vp_cell (D.2 2) (n1, .inl (fun j => iI (if dp ≤ j ∧ j < dp + n then F (sp + (j - dp)) else G j))) := by
    refine (va_copied (fun z => .int z) (D.2 2) (D.2 2) (fun j => iI (F j)) (fun j => iI (G j)) (by rw [s2, e2]; exact h4)).trans ?_
    rw [s2, d2, e2]
    rw [vp_cell_i]
    exact arrV_congr (fun j _ => by
      show Value.int (va_cpy (fun j => iI (F j)) (fun j => iI (G j)) sp dp n j) = _
      unfold va_cpy
      split <;> rfl)
  rw [ec] at X' step
  have hlt : a < H.size := (Array.getElem?_eq_some_iff.mp c1).1
  have oq : ∀ q : Nat, q ≠ a → ((T.setVm vm').setCell a (vp_cell (D.2 2) (n1, .inl (fun j => iI (if dp ≤ j ∧ j < dp + n then F (sp + (j - dp)) else G j))))).heap[q]? = H[q]? := fun q hq => by
    rw [← hT]
    show (T.heap.setIfInBounds a _)[q]? = _
    simp [Array.getElem?_setIfInBounds, Ne.symm hq]
  obtain ⟨t, a1, b1⟩ := kk _ _ ls (hG.set (hG _ _ h1).1 (show ((T.setVm vm').setCell a _).heap[a]? = some _ by
      show (T.heap.setIfInBounds a _)[a]? = _
      rw [hT]
      simp [Array.getElem?_setIfInBounds, hlt]) oq) ⟨by show _ ≤ (T.heap.setIfInBounds a _).size; rw [hT]; simp; exact hS.1, fun q g1 g2 => by
      rw [oq q (fun e => g2 (by rw [e]; exact (hG _ _ h1).1))]
      exact hS.2.1 q g1 g2, fun q hq => by
      rcases List.mem_append.mp hq with h | h
      · exact hS.2.2 q h
      · obtain ⟨z, -, hz⟩ := List.mem_map.mp h
        rw [← hz]
        exact (hG _ _ h1).1⟩ hl _ rfl X'
  exact ⟨t, step t a1, b1⟩
end J0
