/-! THE CLAIM OUT OF ONE WALK OF THE LAW'S BODY. Your part is whole_start (and what it stands on); all else here is the same for every law, but numbers. -/
def R_law : String := "GraticulePressLaw"
def lw_P (b : Addr) (xs : List Int32) (args : Array Value) (s : State) : Prop := args = #[.ref b] ∧ s.IntsAt b xs ∧ xs.length ≤ 260 ∧ (Jvm.Cond.and given_1 narrow_1).before args s = true
/-- what a walk over the start with the record d0 says of its end, said of the start itself -/
theorem lw_closed {s t : State} {o : Outcome} {d0 : Drawn} {L : List Loc} {k n : Nat} (hd0 : s.drawn.sameBut d0 lw_cs) (hv : ∃ v, o = .returned v) (hW : (s.setDrawn d0).WarmedH t.vm) (hs : (s.setDrawn d0).sameButNew ({ t with vm := s.vm } : State) L k n) : State.butDraws s t lw_cs (fun t1 => Framed s o t1 L k n) := by
  have h2 : t.drawn = d0 := congrArg State.drawn hs.1
  refine ⟨⟨hv, hW, State.sameButNew.setDrawn hs s.drawn⟩, ?_, by decide⟩
  rw [h2]
  exact hd0
def lw_Q (_ : Array Value) (s : State) (o : Outcome) (t : State) : Prop := o = .returned (some (.int 1)) ∧ State.butDraws s t lw_cs (fun t1 => Framed s o t1 [] 600104 7301313)
def lw_Z (below : List Frame) (a : Array Value) (s : State) : State → Prop := fun t => ∃ o, t.status = .running ∧ Ended t below o ∧ lw_Q a s o t
/-- the law's own end, with 1 on the stack, nothing written that was there before, its room as the claim has it; d0: the record of draws at this point (at the entry s.drawn: begin with 'refine W.base ?_' and 'have hd0 := Drawn.sameBut.refl s.drawn lw_cs') -/
theorem lw_ret {p : Program} {l : Launch} {e : Env} {s : State} {m : MethodId} {below : List Frame} {meth : Method} {c : Code} {b : Nat} {d0 : Drawn} (hd0 : s.drawn.sameBut d0 lw_cs) (hx : p.tables.exec = Jvm.exec) (hb : c.code = code) (hr : meth.sig.returnType = ret) (hlocks : meth.locks = false) {pc : Nat} {H : Heap} {ls : Array Slot} (hdg : decode code pc = .ok (.ireturn, 1)) : W p l e room_1 (s.setDrawn d0) m #[Value.ref b] below meth c H [] 600104 7301313 (lw_Z below #[Value.ref b] s) (F0 m pc ls [.int 1]) := by
  intro T hT X
  obtain ⟨fs, hret, hrun, hended, hW, hframe⟩ := X.leave (v := some (.int 1)) (hlocks := hlocks) (fun h => by rw [hr] at h; cases h)
  have hmeth' : T.vm.method? m = some meth := X.method'
  refine ⟨T.setFrames fs, ?_, .returned (some (.int 1)), hrun, hended, rfl, lw_closed hd0 ⟨_, rfl⟩ hW hframe⟩
  jvm_step X.here [X.here.top, hx, hb, hdg, hmeth', hr, ret, narrow_b1]
  (try refine ⟨rfl, ?_⟩); (try refine ⟨rfl, ?_⟩)
  first | (intro acts; rw [hret _ acts rfl rfl rfl]) | rw [hret _ _ rfl rfl rfl]
  exact Steps.refl _
/-- what holds at the law's entry: the machine, the code, the tables' words (any of lw_tbl by 'hts w (by decide +kernel)'), the script of L ints xs at the cell b, what the Statement gives of the start (any of its parts by flat_of_before) -/
def lw_At (p : Program) (s : State) (m : MethodId) (meth : Method) (c : Code) (b L : Nat) (xs : Nat → Int32) : Prop :=
  p.tables.exec = Jvm.exec ∧ c.code = code ∧ meth.sig.returnType = ret ∧ c.maxLocals = 8 ∧ s.vm.findClass R_law = some m.cls ∧ (∀ w ∈ lw_tbl, w.before #[Value.ref b] s = true) ∧ va_X b L xs s s.heap ∧ b < s.heap.size ∧ meth.locks = false ∧ (Jvm.Cond.and given_1 narrow_1).before #[Value.ref b] s = true
section L3
theorem nw_str : ∀ q ∈ gStr, Cond.exactly (.string q.1 q.2.1) "java/lang/String" ∈ flatC (Jvm.Cond.and given_1 narrow_1) := by decide +kernel
theorem tb_str : ∀ q ∈ gStr, Cond.stringRef q.1 q.2.1 q.2.2 ∈ lw_tbl := by
  unfold gStr
  exact List.forall_mem_cons.mpr ⟨lw_at 619 (by decide +kernel), List.forall_mem_cons.mpr ⟨lw_at 627 (by decide +kernel), List.forall_mem_cons.mpr ⟨lw_at 536 (by decide +kernel), List.forall_mem_cons.mpr ⟨lw_at 537 (by decide +kernel), List.forall_mem_cons.mpr ⟨lw_at 197 (by decide +kernel), List.forall_mem_cons.mpr ⟨lw_at 711 (by decide +kernel), List.forall_mem_cons.mpr ⟨lw_at 716 (by decide +kernel), List.forall_mem_cons.mpr ⟨lw_at 579 (by decide +kernel), List.forall_mem_cons.mpr ⟨lw_at 580 (by decide +kernel), List.forall_mem_cons.mpr ⟨lw_at 940 (by decide +kernel), List.forall_mem_cons.mpr ⟨lw_at 941 (by decide +kernel), List.forall_mem_cons.mpr ⟨lw_at 391 (by decide +kernel), List.forall_mem_cons.mpr ⟨lw_at 398 (by decide +kernel), List.forall_mem_cons.mpr ⟨lw_at 166 (by decide +kernel), List.forall_mem_cons.mpr ⟨lw_at 952 (by decide +kernel), List.forall_mem_cons.mpr ⟨lw_at 237 (by decide +kernel), List.forall_mem_cons.mpr ⟨lw_at 961 (by decide +kernel), List.forall_mem_cons.mpr ⟨lw_at 598 (by decide +kernel), List.forall_mem_cons.mpr ⟨lw_at 600 (by decide +kernel), fun _ h => absurd h List.not_mem_nil⟩⟩⟩⟩⟩⟩⟩⟩⟩⟩⟩⟩⟩⟩⟩⟩⟩⟩⟩
theorem nw_nc : ∀ q ∈ gNcs, Cond.not (.castable q.1 q.2) ∈ flatC (Jvm.Cond.and given_1 narrow_1) := by decide +kernel
theorem nw_cs : Cond.eq (.static "java/lang/String" "COMPACT_STRINGS" "Z") (.int 1) ∈ flatC (Jvm.Cond.and given_1 narrow_1) := by decide +kernel
theorem nw_us : Cond.isRef (.static Bundle.tN "UNASSIGNED_STACK" Bundle.steD) ∈ flatC (Jvm.Cond.and given_1 narrow_1) := by decide +kernel
theorem nw_ss : Cond.isRef (.static Bundle.tN "SUPPRESSED_SENTINEL" Bundle.listD) ∈ flatC (Jvm.Cond.and given_1 narrow_1) := by decide +kernel
theorem nw_sf : Cond.isRef (.static "jdk/internal/util/Preconditions" "SIOOBE_FORMATTER" "Ljava/util/function/BiFunction;") ∈ flatC (Jvm.Cond.and given_1 narrow_1) := by decide +kernel
theorem tb_ao : ∀ C ∈ gAo, Cond.arrayOver (.object C) ∈ lw_tbl := by
  unfold gAo
  exact List.forall_mem_cons.mpr ⟨lw_at 73 (by decide +kernel), List.forall_mem_cons.mpr ⟨lw_at 968 (by decide +kernel), List.forall_mem_cons.mpr ⟨lw_at 69 (by decide +kernel), List.forall_mem_cons.mpr ⟨lw_at 71 (by decide +kernel), List.forall_mem_cons.mpr ⟨lw_at 544 (by decide +kernel), List.forall_mem_cons.mpr ⟨lw_at 415 (by decide +kernel), fun _ h => absurd h List.not_mem_nil⟩⟩⟩⟩⟩⟩
theorem gwA_start {s : State} {args : Array Value} (hts : ∀ w ∈ lw_tbl, w.before args s = true) : ∀ w ∈ gwA, w.before args s = true := by
  intro w hw
  rcases List.mem_append.mp (List.mem_filter.mp hw).1 with h | h
  · exact hts w h
  · unfold gXt at h
    rw [List.mem_singleton] at h
    subst h
    exact g_selPriv (C := RJ4) (y := yJ5_ensureCapacityInternal_d00df) (y0 := ⟨"java/lang/AbstractStringBuilder", "isLatin1", "()Z"⟩) ⟨by decide +kernel, by decide +kernel⟩ (hts _ (lw_at 671 (by decide +kernel))) rfl (hts _ (lw_at 636 (by decide +kernel))) (hts _ (lw_at 637 (by decide +kernel)))
theorem gE_start {s : State} {args : Array Value} (hts : ∀ w ∈ lw_tbl, w.before args s = true) (hgv : (Jvm.Cond.and given_1 narrow_1).before args s = true) : ∃ D : gD, gE D s.heap.size s := by
  have hs := flat_of_before _ hgv
  have hgw := gwA_start hts
  have hC : ∀ c : Nat, ∃ y : ClassId × (Nat → Nat), ∀ q : vw_C, vwCl[c]? = some q → u_Kn s q.1 q.2.1 q.2.2 y.1 y.2 := by
    intro c
    match c with
    | 0 => obtain ⟨cC, iS, h⟩ := u_known (ws := gwA) (n := 4) hgw gwu_0 (hts _ (lw_at 724 (by decide +kernel))); exact ⟨(cC, iS), fun q hq => by cases hq; exact h⟩
    | 1 => obtain ⟨cC, iS, h⟩ := u_known (ws := gwA) (n := 4) hgw gwu_1 (hts _ (lw_at 36 (by decide +kernel))); exact ⟨(cC, iS), fun q hq => by cases hq; exact h⟩
    | 2 => obtain ⟨cC, iS, h⟩ := u_known (ws := gwA) (n := 6) hgw gwu_2 (hts _ (lw_at 895 (by decide +kernel))); exact ⟨(cC, iS), fun q hq => by cases hq; exact h⟩
    | 3 => obtain ⟨cC, iS, h⟩ := u_known (ws := gwA) (n := 6) hgw gwu_3 (hts _ (lw_at 864 (by decide +kernel))); exact ⟨(cC, iS), fun q hq => by cases hq; exact h⟩
    | 4 => obtain ⟨cC, iS, h⟩ := u_known (ws := gwA) (n := 1) hgw gwu_4 (hts _ (lw_at 962 (by decide +kernel))); exact ⟨(cC, iS), fun q hq => by cases hq; exact h⟩
    | 5 => obtain ⟨cC, iS, h⟩ := u_known (ws := gwA) (n := 1) hgw gwu_5 (hts _ (lw_at 404 (by decide +kernel))); exact ⟨(cC, iS), fun q hq => by cases hq; exact h⟩
    | 6 => obtain ⟨cC, iS, h⟩ := u_known (ws := gwA) (n := 5) hgw gwu_6 (hts _ (lw_at 538 (by decide +kernel))); exact ⟨(cC, iS), fun q hq => by cases hq; exact h⟩
    | 7 => obtain ⟨cC, iS, h⟩ := u_known (ws := gwA) (n := 9) hgw gwu_7 (hts _ (lw_at 251 (by decide +kernel))); exact ⟨(cC, iS), fun q hq => by cases hq; exact h⟩
    | 8 => obtain ⟨cC, iS, h⟩ := u_known (ws := gwA) (n := 2) hgw gwu_8 (hts _ (lw_at 718 (by decide +kernel))); exact ⟨(cC, iS), fun q hq => by cases hq; exact h⟩
    | 9 => obtain ⟨cC, iS, h⟩ := u_known (ws := gwA) (n := 7) hgw gwu_9 (hts _ (lw_at 293 (by decide +kernel))); exact ⟨(cC, iS), fun q hq => by cases hq; exact h⟩
    | 10 => obtain ⟨cC, iS, h⟩ := u_known (ws := gwA) (n := 8) hgw gwu_10 (hts _ (lw_at 28 (by decide +kernel))); exact ⟨(cC, iS), fun q hq => by cases hq; exact h⟩
    | c + 11 => exact ⟨(0, fun _ => 0), fun q hq => by have hl := (List.getElem?_eq_some_iff.mp hq).1; have h12 : vwCl.length = 11 := rfl; omega⟩
  obtain ⟨f, hf⟩ := Classical.axiomOfChoice hC
  have hprim : ∀ ty : FieldType, (Cond.arrayClass ty).before args s = true → ∃ cA : ClassId, ArrOfT s cA ty ∧ s.vm.findClass ("[" ++ ty.toString) = some cA := by
    intro ty h
    obtain ⟨cA, kA, comp, h1, h2, h3⟩ := Cond.arrayClass_spec h
    exact ⟨cA, fun n z => ⟨fun k h => (by cases h), kA, h2, comp, h3⟩, h1⟩
  have hobj : ∀ C : String, C ∈ gAo → ∃ cA : ClassId, ArrOfT s cA (.object C) ∧ va_RA s cA (.object C) := by
    intro C hC
    obtain ⟨comp, cA, kA, h1, -, h3, h4, h5⟩ := Cond.arrayOver_spec (hts _ (tb_ao C hC))
    exact ⟨cA, fun n z => ⟨fun k h => (by cases h), kA, h3, comp, h4⟩, kA, comp, h3, h4, h1, h5⟩
  have hA : ∀ k : Nat, ∃ cA : ClassId, k < 10 → ArrOfT s cA (gty k) ∧ va_RA s cA (gty k) := by
    intro k
    match k with
    | 0 => obtain ⟨cA, h1, h2⟩ := hprim .char (hts _ (lw_at 413 (by decide +kernel))); exact ⟨cA, fun _ => ⟨h1, h2⟩⟩
    | 1 => obtain ⟨cA, h1, h2⟩ := hprim .int (hts _ (lw_at 192 (by decide +kernel))); exact ⟨cA, fun _ => ⟨h1, h2⟩⟩
    | 2 => obtain ⟨cA, h1, h2⟩ := hprim .byte (hts _ (lw_at 67 (by decide +kernel))); exact ⟨cA, fun _ => ⟨h1, h2⟩⟩
    | 3 => obtain ⟨cA, h1, h2⟩ := hprim .int (hts _ (lw_at 192 (by decide +kernel))); exact ⟨cA, fun _ => ⟨h1, h2⟩⟩
    | 4 => obtain ⟨cA, h1, h2⟩ := hobj RX2 (by unfold gAo; simp); exact ⟨cA, fun _ => ⟨h1, h2⟩⟩
    | 5 => obtain ⟨cA, h1, h2⟩ := hobj RX3 (by unfold gAo; simp); exact ⟨cA, fun _ => ⟨h1, h2⟩⟩
    | 6 => obtain ⟨cA, h1, h2⟩ := hobj RX0 (by unfold gAo; simp); exact ⟨cA, fun _ => ⟨h1, h2⟩⟩
    | 7 => obtain ⟨cA, h1, h2⟩ := hobj RX4 (by unfold gAo; simp); exact ⟨cA, fun _ => ⟨h1, h2⟩⟩
    | 8 => obtain ⟨cA, h1, h2⟩ := hobj RX5 (by unfold gAo; simp); exact ⟨cA, fun _ => ⟨h1, h2⟩⟩
    | 9 => obtain ⟨cA, h1, h2⟩ := hobj RX1 (by unfold gAo; simp); exact ⟨cA, fun _ => ⟨h1, h2⟩⟩
    | k + 10 => exact ⟨0, fun h => by omega⟩
  obtain ⟨g, hg⟩ := Classical.axiomOfChoice hA
  have hout : ∀ a : Nat, a < s.heap.size → ¬ (s.heap.size ≤ a) := fun a h1 h2 => by omega
  refine ⟨((fun c => (f c).1, fun c => (f c).2), g), ⟨fun c q hq => hf c q hq, fun k q hk => ?_⟩, Nat.le_refl _, fun q hq => ?_, ?_, ?_, fun w hw hb => va_Nw.of (gBk_tab hb) (hts w hw), fun q hq => va_Nc.of (hs _ (nw_nc q hq)), fun C hC => va_AO.of (hts _ (tb_ao C hC)), ?_, ?_⟩
  · have hk10 : k < 10 := by
      have h1 := (List.getElem?_eq_some_iff.mp hk).1
      unfold gtys at h1
      rw [List.length_map, List.length_range] at h1
      exact h1
    rw [gtys_at _ hk10] at hk
    cases hk
    exact hg k hk10
  · obtain ⟨a, c, cell, k, e1, -⟩ := Cond.exactly_spec (hs _ (nw_str q hq))
    exact ⟨a, vk_R.of (hts _ (tb_str q hq)) e1⟩
  · exact vx_Zqof (hts _ (lw_at 150 (by decide +kernel))) (hts _ (lw_at 6 (by decide +kernel))) (hs _ nw_us) hout
  · exact vx_Zqof (hts _ (lw_at 152 (by decide +kernel))) (hts _ (lw_at 6 (by decide +kernel))) (hs _ nw_ss) hout
  · exact va_Zof (hts _ (lw_at 45 (by decide +kernel))) (hts _ (lw_at 4 (by decide +kernel))) (va_eqt (hs _ nw_cs)) hout
  · exact va_Zqof (hts _ (lw_at 331 (by decide +kernel))) (hts _ (lw_at 15 (by decide +kernel))) (hs _ nw_sf) hout
/-- the walk of the law, from its entry to its end -/
theorem whole_start {p : Program} {e : Env} {s : State} {m : MethodId} {below : List Frame} {meth : Method} {c : Code} (l : Launch) (hflags : l.flags = flags0) {b L : Nat} {xs : Nat → Int32} (hL : L ≤ 260) (C0 : lw_At p s m meth c b L xs) : W p l e room_1 s m #[Value.ref b] below meth c s.heap [] 0 0 (lw_Z below #[Value.ref b] s) (entryFrame m ([Value.ref b] : List Value).toArray 8) := by
  obtain ⟨hx, hb, hr, hml, hown, hts, hXs, hbl, hlocks, hgv⟩ := C0
  obtain ⟨D, hE⟩ := gE_start hts hgv
  have hl : l.stackTraces = false := by
    show (!l.flags.contains noTraceFlag) = false
    rw [hflags]
    decide +kernel
  have hC : gK (p, l, e, room_1, s, m, #[Value.ref b], below, meth, c, lw_Z below #[Value.ref b] s) l D s.heap.size 8 RL cL_law room_1 := ⟨hx, hb, hml, hown, gwA_start hts, hE, hlocks, rfl, rfl, hl⟩
  have hend : ∀ (gh : gH) (lv : List (Option Value)), gV (p, l, e, room_1, s, m, #[Value.ref b], below, meth, c, lw_Z below #[Value.ref b] s) D s.heap.size 8 171 lv [vi 1] gh 600104 7301313 := by
    intro gh lv H locs ls hG hS hlv
    refine va_forget (fun q hq => hS.2.2 q hq) ?_
    exact lw_ret (d0 := s.drawn) (Drawn.sameBut.refl s.drawn lw_cs) hx hb hr hlocks dL_law_171
  have h := law_walk hl hC (b := b) (L := L) (xs := xs) ⟨hXs, hbl, hbl⟩ hL hend
  rw [lg_entry_eq]
  have hlve := gLv.entry [Value.ref b] (n := 8) (by simp [Value.category]) (Nat.le_of_ble_eq_true rfl)
  exact h s.heap [] _ (fun a c ha => (nomatch ha)) va_S.rf hlve
end L3
