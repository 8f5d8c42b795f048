/-! THE CLAIM OUT OF ONE WALK OF THE LAW'S BODY. Your part is whole_start (and what it stands on); all else here is the same for every law, but numbers. -/
def R_law : String := "GraticulePressLaw"
def lw_P (b : Addr) (xs : List Int32) (args : Array Value) (s : State) : Prop := args = #[.ref b] ∧ s.IntsAt b xs ∧ xs.length ≤ 2560 ∧ (Jvm.Cond.and given_1 narrow_1).before args s = true
/-- what a walk over the start with the record d0 says of its end, said of the start itself -/
theorem lw_closed {s t : State} {o : Outcome} {d0 : Drawn} {L : List Loc} {k n : Nat} (hd0 : s.drawn.sameBut d0 lw_cs) (hv : ∃ v, o = .returned v) (hW : (s.setDrawn d0).WarmedH t.vm) (hs : (s.setDrawn d0).sameButNew ({ t with vm := s.vm } : State) L k n) : State.butDraws s t lw_cs (fun t1 => Framed s o t1 L k n) := by
  have h2 : t.drawn = d0 := congrArg State.drawn hs.1
  refine ⟨⟨hv, hW, State.sameButNew.setDrawn hs s.drawn⟩, ?_, by decide⟩
  rw [h2]
  exact hd0
def lw_Q (_ : Array Value) (s : State) (o : Outcome) (t : State) : Prop := o = .returned (some (.int 1)) ∧ State.butDraws s t lw_cs (fun t1 => Framed s o t1 [] 601024 7293034)
def lw_Z (below : List Frame) (a : Array Value) (s : State) : State → Prop := fun t => ∃ o, t.status = .running ∧ Ended t below o ∧ lw_Q a s o t
/-- the law's own end, with 1 on the stack, nothing written that was there before, its room as the claim has it; d0: the record of draws at this point (at the entry s.drawn: begin with 'refine W.base ?_' and 'have hd0 := Drawn.sameBut.refl s.drawn lw_cs') -/
theorem lw_ret {p : Program} {l : Launch} {e : Env} {s : State} {m : MethodId} {below : List Frame} {meth : Method} {c : Code} {b : Nat} {d0 : Drawn} (hd0 : s.drawn.sameBut d0 lw_cs) (hx : p.tables.exec = Jvm.exec) (hb : c.code = code) (hr : meth.sig.returnType = ret) (hlocks : meth.locks = false) {pc : Nat} {H : Heap} {ls : Array Slot} (hdg : decode code pc = .ok (.ireturn, 1)) : W p l e room_1 (s.setDrawn d0) m #[Value.ref b] below meth c H [] 601024 7293034 (lw_Z below #[Value.ref b] s) (F0 m pc ls [.int 1]) := by
  intro T hT X
  obtain ⟨fs, hret, hrun, hended, hW, hframe⟩ := X.leave (v := some (.int 1)) (hlocks := hlocks) (fun h => by rw [hr] at h; cases h)
  have hmeth' : T.vm.method? m = some meth := X.method'
  refine ⟨T.setFrames fs, ?_, .returned (some (.int 1)), hrun, hended, rfl, lw_closed hd0 ⟨_, rfl⟩ hW hframe⟩
  jvm_step X.here [X.here.top, hx, hb, hdg, hmeth', hr, ret, narrow_b1]
  (try refine ⟨rfl, ?_⟩); (try refine ⟨rfl, ?_⟩)
  first | (intro acts; rw [hret _ acts rfl rfl rfl]) | rw [hret _ _ rfl rfl rfl]
  exact Steps.refl _
/-- what holds at the law's entry: the machine, the code, the tables' words (any of lw_tbl by 'hts w (by decide +kernel)'), the script of L ints xs at the cell b, what the Statement gives of the start (any of its parts by flat_of_before) -/
def lw_At (p : Program) (s : State) (m : MethodId) (meth : Method) (c : Code) (b L : Nat) (xs : Nat → Int32) : Prop :=
  p.tables.exec = Jvm.exec ∧ c.code = code ∧ meth.sig.returnType = ret ∧ c.maxLocals = 7 ∧ s.vm.findClass R_law = some m.cls ∧ (∀ w ∈ lw_tbl, w.before #[Value.ref b] s = true) ∧ va_X b L xs s s.heap ∧ b < s.heap.size ∧ meth.locks = false ∧ (Jvm.Cond.and given_1 narrow_1).before #[Value.ref b] s = true
section L3
theorem nw_str : ∀ q ∈ gStr, Cond.exactly (.string q.1 q.2.1) "java/lang/String" ∈ flatC (Jvm.Cond.and given_1 narrow_1) := by decide +kernel
theorem tb_str : ∀ q ∈ gStr, Cond.stringRef q.1 q.2.1 q.2.2 ∈ lw_tbl := by
  unfold gStr
  exact List.forall_mem_cons.mpr ⟨lw_at 152 (by decide +kernel), List.forall_mem_cons.mpr ⟨lw_at 194 (by decide +kernel), List.forall_mem_cons.mpr ⟨lw_at 306 (by decide +kernel), List.forall_mem_cons.mpr ⟨lw_at 307 (by decide +kernel), List.forall_mem_cons.mpr ⟨lw_at 518 (by decide +kernel), List.forall_mem_cons.mpr ⟨lw_at 525 (by decide +kernel), List.forall_mem_cons.mpr ⟨lw_at 530 (by decide +kernel), List.forall_mem_cons.mpr ⟨lw_at 754 (by decide +kernel), List.forall_mem_cons.mpr ⟨lw_at 755 (by decide +kernel), List.forall_mem_cons.mpr ⟨lw_at 766 (by decide +kernel), List.forall_mem_cons.mpr ⟨lw_at 767 (by decide +kernel), List.forall_mem_cons.mpr ⟨lw_at 775 (by decide +kernel), List.forall_mem_cons.mpr ⟨lw_at 776 (by decide +kernel), List.forall_mem_cons.mpr ⟨lw_at 838 (by decide +kernel), List.forall_mem_cons.mpr ⟨lw_at 858 (by decide +kernel), List.forall_mem_cons.mpr ⟨lw_at 878 (by decide +kernel), List.forall_mem_cons.mpr ⟨lw_at 907 (by decide +kernel), List.forall_mem_cons.mpr ⟨lw_at 939 (by decide +kernel), List.forall_mem_cons.mpr ⟨lw_at 940 (by decide +kernel), fun _ h => absurd h List.not_mem_nil⟩⟩⟩⟩⟩⟩⟩⟩⟩⟩⟩⟩⟩⟩⟩⟩⟩⟩⟩
theorem nw_nc : ∀ q ∈ gNcs, Cond.not (.castable q.1 q.2) ∈ flatC (Jvm.Cond.and given_1 narrow_1) := by decide +kernel
theorem nw_cs : Cond.eq (.static "java/lang/String" "COMPACT_STRINGS" "Z") (.int 1) ∈ flatC (Jvm.Cond.and given_1 narrow_1) := by decide +kernel
theorem nw_us : Cond.isRef (.static Bundle.tN "UNASSIGNED_STACK" Bundle.steD) ∈ flatC (Jvm.Cond.and given_1 narrow_1) := by decide +kernel
theorem nw_ss : Cond.isRef (.static Bundle.tN "SUPPRESSED_SENTINEL" Bundle.listD) ∈ flatC (Jvm.Cond.and given_1 narrow_1) := by decide +kernel
theorem nw_sf : Cond.isRef (.static "jdk/internal/util/Preconditions" "SIOOBE_FORMATTER" "Ljava/util/function/BiFunction;") ∈ flatC (Jvm.Cond.and given_1 narrow_1) := by decide +kernel
theorem tb_ao : ∀ C ∈ gAo, Cond.arrayOver (.object C) ∈ lw_tbl := by
  unfold gAo
  exact List.forall_mem_cons.mpr ⟨lw_at 74 (by decide +kernel), List.forall_mem_cons.mpr ⟨lw_at 914 (by decide +kernel), List.forall_mem_cons.mpr ⟨lw_at 70 (by decide +kernel), List.forall_mem_cons.mpr ⟨lw_at 72 (by decide +kernel), List.forall_mem_cons.mpr ⟨lw_at 314 (by decide +kernel), List.forall_mem_cons.mpr ⟨lw_at 792 (by decide +kernel), fun _ h => absurd h List.not_mem_nil⟩⟩⟩⟩⟩⟩
theorem gwA_start {s : State} {args : Array Value} (hts : ∀ w ∈ lw_tbl, w.before args s = true) : ∀ w ∈ gwA, w.before args s = true := by
  intro w hw
  rcases List.mem_append.mp (List.mem_filter.mp hw).1 with h | h
  · exact hts w h
  · unfold gXt at h
    rw [List.mem_singleton] at h
    subst h
    exact g_selPriv (C := RJ4) (y := yJ5_ensureCapacityInternal_d00df) (y0 := ⟨"java/lang/AbstractStringBuilder", "isLatin1", "()Z"⟩) ⟨by decide +kernel, by decide +kernel⟩ (hts _ (lw_at 246 (by decide +kernel))) rfl (hts _ (lw_at 209 (by decide +kernel))) (hts _ (lw_at 210 (by decide +kernel)))
theorem gE_start {s : State} {args : Array Value} (hts : ∀ w ∈ lw_tbl, w.before args s = true) (hgv : (Jvm.Cond.and given_1 narrow_1).before args s = true) : ∃ D : gD, gE D s.heap.size s := by
  have hs := flat_of_before _ hgv
  have hgw := gwA_start hts
  have hC : ∀ c : Nat, ∃ y : ClassId × (Nat → Nat), ∀ q : vw_C, vwCl[c]? = some q → u_Kn s q.1 q.2.1 q.2.2 y.1 y.2 := by
    intro c
    match c with
    | 0 => obtain ⟨cC, iS, h⟩ := u_known (ws := gwA) (n := 4) hgw gwu_0 (hts _ (lw_at 538 (by decide +kernel))); exact ⟨(cC, iS), fun q hq => by cases hq; exact h⟩
    | 1 => obtain ⟨cC, iS, h⟩ := u_known (ws := gwA) (n := 4) hgw gwu_1 (hts _ (lw_at 37 (by decide +kernel))); exact ⟨(cC, iS), fun q hq => by cases hq; exact h⟩
    | 2 => obtain ⟨cC, iS, h⟩ := u_known (ws := gwA) (n := 6) hgw gwu_2 (hts _ (lw_at 709 (by decide +kernel))); exact ⟨(cC, iS), fun q hq => by cases hq; exact h⟩
    | 3 => obtain ⟨cC, iS, h⟩ := u_known (ws := gwA) (n := 6) hgw gwu_3 (hts _ (lw_at 678 (by decide +kernel))); exact ⟨(cC, iS), fun q hq => by cases hq; exact h⟩
    | 4 => obtain ⟨cC, iS, h⟩ := u_known (ws := gwA) (n := 1) hgw gwu_4 (hts _ (lw_at 908 (by decide +kernel))); exact ⟨(cC, iS), fun q hq => by cases hq; exact h⟩
    | 5 => obtain ⟨cC, iS, h⟩ := u_known (ws := gwA) (n := 1) hgw gwu_5 (hts _ (lw_at 782 (by decide +kernel))); exact ⟨(cC, iS), fun q hq => by cases hq; exact h⟩
    | 6 => obtain ⟨cC, iS, h⟩ := u_known (ws := gwA) (n := 5) hgw gwu_6 (hts _ (lw_at 308 (by decide +kernel))); exact ⟨(cC, iS), fun q hq => by cases hq; exact h⟩
    | 7 => obtain ⟨cC, iS, h⟩ := u_known (ws := gwA) (n := 9) hgw gwu_7 (hts _ (lw_at 345 (by decide +kernel))); exact ⟨(cC, iS), fun q hq => by cases hq; exact h⟩
    | 8 => obtain ⟨cC, iS, h⟩ := u_known (ws := gwA) (n := 2) hgw gwu_8 (hts _ (lw_at 532 (by decide +kernel))); exact ⟨(cC, iS), fun q hq => by cases hq; exact h⟩
    | 9 => obtain ⟨cC, iS, h⟩ := u_known (ws := gwA) (n := 7) hgw gwu_9 (hts _ (lw_at 349 (by decide +kernel))); exact ⟨(cC, iS), fun q hq => by cases hq; exact h⟩
    | 10 => obtain ⟨cC, iS, h⟩ := u_known (ws := gwA) (n := 8) hgw gwu_10 (hts _ (lw_at 29 (by decide +kernel))); exact ⟨(cC, iS), fun q hq => by cases hq; exact h⟩
    | 11 => obtain ⟨cC, iS, h⟩ := u_known (ws := gwA) (n := 28) hgw gwu_11 (hts _ (lw_at 947 (by decide +kernel))); exact ⟨(cC, iS), fun q hq => by cases hq; exact h⟩
    | c + 12 => exact ⟨(0, fun _ => 0), fun q hq => by have hl := (List.getElem?_eq_some_iff.mp hq).1; have h12 : vwCl.length = 12 := rfl; omega⟩
  obtain ⟨f, hf⟩ := Classical.axiomOfChoice hC
  have hprim : ∀ ty : FieldType, (Cond.arrayClass ty).before args s = true → ∃ cA : ClassId, ArrOfT s cA ty ∧ s.vm.findClass ("[" ++ ty.toString) = some cA := by
    intro ty h
    obtain ⟨cA, kA, comp, h1, h2, h3⟩ := Cond.arrayClass_spec h
    exact ⟨cA, fun n z => ⟨fun k h => (by cases h), kA, h2, comp, h3⟩, h1⟩
  have hobj : ∀ C : String, C ∈ gAo → ∃ cA : ClassId, ArrOfT s cA (.object C) ∧ va_RA s cA (.object C) := by
    intro C hC
    obtain ⟨comp, cA, kA, h1, -, h3, h4, h5⟩ := Cond.arrayOver_spec (hts _ (tb_ao C hC))
    exact ⟨cA, fun n z => ⟨fun k h => (by cases h), kA, h3, comp, h4⟩, kA, comp, h3, h4, h1, h5⟩
  have hA : ∀ k : Nat, ∃ cA : ClassId, k < 10 → ArrOfT s cA (gty k) ∧ va_RA s cA (gty k) := by
    intro k
    match k with
    | 0 => obtain ⟨cA, h1, h2⟩ := hprim .char (hts _ (lw_at 791 (by decide +kernel))); exact ⟨cA, fun _ => ⟨h1, h2⟩⟩
    | 1 => obtain ⟨cA, h1, h2⟩ := hprim .int (hts _ (lw_at 1037 (by decide +kernel))); exact ⟨cA, fun _ => ⟨h1, h2⟩⟩
    | 2 => obtain ⟨cA, h1, h2⟩ := hprim .byte (hts _ (lw_at 68 (by decide +kernel))); exact ⟨cA, fun _ => ⟨h1, h2⟩⟩
    | 3 => obtain ⟨cA, h1, h2⟩ := hprim .long (hts _ (lw_at 1170 (by decide +kernel))); exact ⟨cA, fun _ => ⟨h1, h2⟩⟩
    | 4 => obtain ⟨cA, h1, h2⟩ := hobj RX2 (by unfold gAo; simp); exact ⟨cA, fun _ => ⟨h1, h2⟩⟩
    | 5 => obtain ⟨cA, h1, h2⟩ := hobj RX3 (by unfold gAo; simp); exact ⟨cA, fun _ => ⟨h1, h2⟩⟩
    | 6 => obtain ⟨cA, h1, h2⟩ := hobj RX0 (by unfold gAo; simp); exact ⟨cA, fun _ => ⟨h1, h2⟩⟩
    | 7 => obtain ⟨cA, h1, h2⟩ := hobj RX4 (by unfold gAo; simp); exact ⟨cA, fun _ => ⟨h1, h2⟩⟩
    | 8 => obtain ⟨cA, h1, h2⟩ := hobj RX5 (by unfold gAo; simp); exact ⟨cA, fun _ => ⟨h1, h2⟩⟩
    | 9 => obtain ⟨cA, h1, h2⟩ := hobj RX1 (by unfold gAo; simp); exact ⟨cA, fun _ => ⟨h1, h2⟩⟩
    | k + 10 => exact ⟨0, fun h => by omega⟩
  obtain ⟨g, hg⟩ := Classical.axiomOfChoice hA
  have hout : ∀ a : Nat, a < s.heap.size → ¬ (s.heap.size ≤ a) := fun a h1 h2 => by omega
  refine ⟨((fun c => (f c).1, fun c => (f c).2), g), ⟨fun c q hq => hf c q hq, fun k q hk => ?_⟩, Nat.le_refl _, fun q hq => ?_, ?_, ?_, fun w hw hb => va_Nw.of (gBk_tab hb) (hts w hw), fun q hq => va_Nc.of (hs _ (nw_nc q hq)), fun C hC => va_AO.of (hts _ (tb_ao C hC)), ?_, ?_⟩
  · have hk10 : k < 10 := by
      have h1 := (List.getElem?_eq_some_iff.mp hk).1
      unfold gtys at h1
      rw [List.length_map, List.length_range] at h1
      exact h1
    rw [gtys_at _ hk10] at hk
    cases hk
    exact hg k hk10
  · obtain ⟨a, c, cell, k, e1, -⟩ := Cond.exactly_spec (hs _ (nw_str q hq))
    exact ⟨a, vk_R.of (hts _ (tb_str q hq)) e1⟩
  · exact vx_Zqof (hts _ (lw_at 136 (by decide +kernel))) (hts _ (lw_at 7 (by decide +kernel))) (hs _ nw_us) hout
  · exact vx_Zqof (hts _ (lw_at 138 (by decide +kernel))) (hts _ (lw_at 7 (by decide +kernel))) (hs _ nw_ss) hout
  · exact va_Zof (hts _ (lw_at 46 (by decide +kernel))) (hts _ (lw_at 4 (by decide +kernel))) (va_eqt (hs _ nw_cs)) hout
  · exact va_Zqof (hts _ (lw_at 271 (by decide +kernel))) (hts _ (lw_at 17 (by decide +kernel))) (hs _ nw_sf) hout
end L3
