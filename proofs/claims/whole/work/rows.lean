section
-- ===== PART A: goes FIRST, ahead of the names: the tables' words, and 'selects' of the private methods out of them =====
/-- a private method of a class that the tables say can be made, by its rows of tables_1 -/
def lw_okq (q : MethodName × Nat) : Prop := (q.1.cls ≠ "java/lang/invoke/MethodHandle" ∧ q.1.cls ≠ "java/lang/invoke/VarHandle") ∧ Cond.instantiable q.1.cls q.2 ∈ tables_1 ∧ Cond.privateMethod q.1 ∈ tables_1 ∧ Cond.instanceMethod q.1 ∈ tables_1
theorem lw_p0 : lw_okq (⟨"java/lang/Throwable", "fillInStackTrace", "(I)Ljava/lang/Throwable;"⟩, 6) := ⟨⟨by decide +kernel, by decide +kernel⟩, List.mem_of_getElem? (i := 150) (by decide +kernel), List.mem_of_getElem? (i := 148) (by decide +kernel), List.mem_of_getElem? (i := 149) (by decide +kernel)⟩
theorem lw_p1 : lw_okq (⟨"GraticulePress", "showOnAllSheets", "(LGraticulePress$Place;)V"⟩, 8) := ⟨⟨by decide +kernel, by decide +kernel⟩, List.mem_of_getElem? (i := 29) (by decide +kernel), List.mem_of_getElem? (i := 335) (by decide +kernel), List.mem_of_getElem? (i := 336) (by decide +kernel)⟩
theorem lw_p2 : lw_okq (⟨"GraticulePress$Sheet", "has", "(LGraticulePress$Place;)Z"⟩, 9) := ⟨⟨by decide +kernel, by decide +kernel⟩, List.mem_of_getElem? (i := 345) (by decide +kernel), List.mem_of_getElem? (i := 343) (by decide +kernel), List.mem_of_getElem? (i := 344) (by decide +kernel)⟩
theorem lw_p3 : lw_okq (⟨"GraticulePress$Sheet", "columnOf", "(LGraticulePress$Place;)I"⟩, 9) := ⟨⟨by decide +kernel, by decide +kernel⟩, List.mem_of_getElem? (i := 345) (by decide +kernel), List.mem_of_getElem? (i := 351) (by decide +kernel), List.mem_of_getElem? (i := 352) (by decide +kernel)⟩
theorem lw_p4 : lw_okq (⟨"GraticulePress$Sheet", "rowOf", "(LGraticulePress$Place;)I"⟩, 9) := ⟨⟨by decide +kernel, by decide +kernel⟩, List.mem_of_getElem? (i := 345) (by decide +kernel), List.mem_of_getElem? (i := 360) (by decide +kernel), List.mem_of_getElem? (i := 361) (by decide +kernel)⟩
theorem lw_p5 : lw_okq (⟨"GraticulePress$Sheet", "listNamed", "()V"⟩, 9) := ⟨⟨by decide +kernel, by decide +kernel⟩, List.mem_of_getElem? (i := 345) (by decide +kernel), List.mem_of_getElem? (i := 409) (by decide +kernel), List.mem_of_getElem? (i := 410) (by decide +kernel)⟩
theorem lw_p6 : lw_okq (⟨"GraticulePress$Sheet", "drawDots", "(LGraticulePress$Grid;)V"⟩, 9) := ⟨⟨by decide +kernel, by decide +kernel⟩, List.mem_of_getElem? (i := 345) (by decide +kernel), List.mem_of_getElem? (i := 421) (by decide +kernel), List.mem_of_getElem? (i := 422) (by decide +kernel)⟩
theorem lw_p7 : lw_okq (⟨"GraticulePress$Spot", "rowAt", "(I)I"⟩, 7) := ⟨⟨by decide +kernel, by decide +kernel⟩, List.mem_of_getElem? (i := 349) (by decide +kernel), List.mem_of_getElem? (i := 454) (by decide +kernel), List.mem_of_getElem? (i := 455) (by decide +kernel)⟩
theorem lw_p8 : lw_okq (⟨"GraticulePress$Spot", "firstColumnAt", "(II)I"⟩, 7) := ⟨⟨by decide +kernel, by decide +kernel⟩, List.mem_of_getElem? (i := 349) (by decide +kernel), List.mem_of_getElem? (i := 458) (by decide +kernel), List.mem_of_getElem? (i := 459) (by decide +kernel)⟩
theorem lw_p9 : lw_okq (⟨"GraticulePress", "placeNumbered", "(I)LGraticulePress$Place;"⟩, 8) := ⟨⟨by decide +kernel, by decide +kernel⟩, List.mem_of_getElem? (i := 29) (by decide +kernel), List.mem_of_getElem? (i := 506) (by decide +kernel), List.mem_of_getElem? (i := 507) (by decide +kernel)⟩
theorem lw_p10 : lw_okq (⟨"GraticulePress", "placeAllSheetsAnew", "(I)I"⟩, 8) := ⟨⟨by decide +kernel, by decide +kernel⟩, List.mem_of_getElem? (i := 29) (by decide +kernel), List.mem_of_getElem? (i := 736) (by decide +kernel), List.mem_of_getElem? (i := 737) (by decide +kernel)⟩
theorem lw_p11 : lw_okq (⟨"GraticulePress", "spotOn", "(II)LGraticulePress$Spot;"⟩, 8) := ⟨⟨by decide +kernel, by decide +kernel⟩, List.mem_of_getElem? (i := 29) (by decide +kernel), List.mem_of_getElem? (i := 831) (by decide +kernel), List.mem_of_getElem? (i := 832) (by decide +kernel)⟩
theorem lw_p12 : lw_okq (⟨"GraticulePress", "sheetNumbered", "(I)LGraticulePress$Sheet;"⟩, 8) := ⟨⟨by decide +kernel, by decide +kernel⟩, List.mem_of_getElem? (i := 29) (by decide +kernel), List.mem_of_getElem? (i := 835) (by decide +kernel), List.mem_of_getElem? (i := 836) (by decide +kernel)⟩
theorem lw_p13 : lw_okq (⟨"GraticulePress", "editionNumbered", "(I)LGraticulePress$Edition;"⟩, 8) := ⟨⟨by decide +kernel, by decide +kernel⟩, List.mem_of_getElem? (i := 29) (by decide +kernel), List.mem_of_getElem? (i := 936) (by decide +kernel), List.mem_of_getElem? (i := 937) (by decide +kernel)⟩
theorem lw_p14 : lw_okq (⟨"GraticulePressModel", "goes", "(ZZZ)Z"⟩, 28) := ⟨⟨by decide +kernel, by decide +kernel⟩, List.mem_of_getElem? (i := 947) (by decide +kernel), List.mem_of_getElem? (i := 1050) (by decide +kernel), List.mem_of_getElem? (i := 1051) (by decide +kernel)⟩
theorem lw_p15 : lw_okq (⟨"GraticulePressModel", "isPlace", "(I)Z"⟩, 28) := ⟨⟨by decide +kernel, by decide +kernel⟩, List.mem_of_getElem? (i := 947) (by decide +kernel), List.mem_of_getElem? (i := 1062) (by decide +kernel), List.mem_of_getElem? (i := 1063) (by decide +kernel)⟩
def lw_privs_1 : List (MethodName × Nat) := [(⟨"java/lang/Throwable", "fillInStackTrace", "(I)Ljava/lang/Throwable;"⟩, 6), (⟨"GraticulePress", "showOnAllSheets", "(LGraticulePress$Place;)V"⟩, 8), (⟨"GraticulePress$Sheet", "has", "(LGraticulePress$Place;)Z"⟩, 9), (⟨"GraticulePress$Sheet", "columnOf", "(LGraticulePress$Place;)I"⟩, 9), (⟨"GraticulePress$Sheet", "rowOf", "(LGraticulePress$Place;)I"⟩, 9), (⟨"GraticulePress$Sheet", "listNamed", "()V"⟩, 9), (⟨"GraticulePress$Sheet", "drawDots", "(LGraticulePress$Grid;)V"⟩, 9), (⟨"GraticulePress$Spot", "rowAt", "(I)I"⟩, 7), (⟨"GraticulePress$Spot", "firstColumnAt", "(II)I"⟩, 7), (⟨"GraticulePress", "placeNumbered", "(I)LGraticulePress$Place;"⟩, 8), (⟨"GraticulePress", "placeAllSheetsAnew", "(I)I"⟩, 8), (⟨"GraticulePress", "spotOn", "(II)LGraticulePress$Spot;"⟩, 8), (⟨"GraticulePress", "sheetNumbered", "(I)LGraticulePress$Sheet;"⟩, 8), (⟨"GraticulePress", "editionNumbered", "(I)LGraticulePress$Edition;"⟩, 8), (⟨"GraticulePressModel", "goes", "(ZZZ)Z"⟩, 28), (⟨"GraticulePressModel", "isPlace", "(I)Z"⟩, 28)]
theorem lw_r1 : ∀ q ∈ lw_privs_1, lw_okq q := List.forall_mem_cons.mpr ⟨lw_p0, List.forall_mem_cons.mpr ⟨lw_p1, List.forall_mem_cons.mpr ⟨lw_p2, List.forall_mem_cons.mpr ⟨lw_p3, List.forall_mem_cons.mpr ⟨lw_p4, List.forall_mem_cons.mpr ⟨lw_p5, List.forall_mem_cons.mpr ⟨lw_p6, List.forall_mem_cons.mpr ⟨lw_p7, List.forall_mem_cons.mpr ⟨lw_p8, List.forall_mem_cons.mpr ⟨lw_p9, List.forall_mem_cons.mpr ⟨lw_p10, List.forall_mem_cons.mpr ⟨lw_p11, List.forall_mem_cons.mpr ⟨lw_p12, List.forall_mem_cons.mpr ⟨lw_p13, List.forall_mem_cons.mpr ⟨lw_p14, List.forall_mem_cons.mpr ⟨lw_p15, fun _ h => absurd h List.not_mem_nil⟩⟩⟩⟩⟩⟩⟩⟩⟩⟩⟩⟩⟩⟩⟩⟩
theorem lw_p16 : lw_okq (⟨"GraticulePressModel", "lays", "(I)V"⟩, 28) := ⟨⟨by decide +kernel, by decide +kernel⟩, List.mem_of_getElem? (i := 947) (by decide +kernel), List.mem_of_getElem? (i := 1066) (by decide +kernel), List.mem_of_getElem? (i := 1067) (by decide +kernel)⟩
theorem lw_p17 : lw_okq (⟨"GraticulePressModel", "dots", "(II)V"⟩, 28) := ⟨⟨by decide +kernel, by decide +kernel⟩, List.mem_of_getElem? (i := 947) (by decide +kernel), List.mem_of_getElem? (i := 1070) (by decide +kernel), List.mem_of_getElem? (i := 1071) (by decide +kernel)⟩
theorem lw_p18 : lw_okq (⟨"GraticulePressModel", "isOn", "(II)Z"⟩, 28) := ⟨⟨by decide +kernel, by decide +kernel⟩, List.mem_of_getElem? (i := 947) (by decide +kernel), List.mem_of_getElem? (i := 1074) (by decide +kernel), List.mem_of_getElem? (i := 1075) (by decide +kernel)⟩
theorem lw_p19 : lw_okq (⟨"GraticulePressModel", "columnOf", "(II)I"⟩, 28) := ⟨⟨by decide +kernel, by decide +kernel⟩, List.mem_of_getElem? (i := 947) (by decide +kernel), List.mem_of_getElem? (i := 1078) (by decide +kernel), List.mem_of_getElem? (i := 1079) (by decide +kernel)⟩
theorem lw_p20 : lw_okq (⟨"GraticulePressModel", "rowOf", "(II)I"⟩, 28) := ⟨⟨by decide +kernel, by decide +kernel⟩, List.mem_of_getElem? (i := 947) (by decide +kernel), List.mem_of_getElem? (i := 1086) (by decide +kernel), List.mem_of_getElem? (i := 1087) (by decide +kernel)⟩
theorem lw_p21 : lw_okq (⟨"GraticulePressModel", "hasName", "(I)Z"⟩, 28) := ⟨⟨by decide +kernel, by decide +kernel⟩, List.mem_of_getElem? (i := 947) (by decide +kernel), List.mem_of_getElem? (i := 1090) (by decide +kernel), List.mem_of_getElem? (i := 1091) (by decide +kernel)⟩
theorem lw_p22 : lw_okq (⟨"GraticulePressModel", "nameOn", "(II)I"⟩, 28) := ⟨⟨by decide +kernel, by decide +kernel⟩, List.mem_of_getElem? (i := 947) (by decide +kernel), List.mem_of_getElem? (i := 1094) (by decide +kernel), List.mem_of_getElem? (i := 1095) (by decide +kernel)⟩
theorem lw_p23 : lw_okq (⟨"GraticulePressModel", "mayStand", "(III)Z"⟩, 28) := ⟨⟨by decide +kernel, by decide +kernel⟩, List.mem_of_getElem? (i := 947) (by decide +kernel), List.mem_of_getElem? (i := 1098) (by decide +kernel), List.mem_of_getElem? (i := 1099) (by decide +kernel)⟩
theorem lw_p24 : lw_okq (⟨"GraticulePressModel", "puts", "(III)V"⟩, 28) := ⟨⟨by decide +kernel, by decide +kernel⟩, List.mem_of_getElem? (i := 947) (by decide +kernel), List.mem_of_getElem? (i := 1108) (by decide +kernel), List.mem_of_getElem? (i := 1109) (by decide +kernel)⟩
theorem lw_p25 : lw_okq (⟨"GraticulePressModel", "isSheet", "(I)Z"⟩, 28) := ⟨⟨by decide +kernel, by decide +kernel⟩, List.mem_of_getElem? (i := 947) (by decide +kernel), List.mem_of_getElem? (i := 1128) (by decide +kernel), List.mem_of_getElem? (i := 1129) (by decide +kernel)⟩
theorem lw_p26 : lw_okq (⟨"GraticulePressModel", "canTry", "(I)Z"⟩, 28) := ⟨⟨by decide +kernel, by decide +kernel⟩, List.mem_of_getElem? (i := 947) (by decide +kernel), List.mem_of_getElem? (i := 1151) (by decide +kernel), List.mem_of_getElem? (i := 1152) (by decide +kernel)⟩
theorem lw_p27 : lw_okq (⟨"GraticulePressModel", "worthOf", "(I)I"⟩, 28) := ⟨⟨by decide +kernel, by decide +kernel⟩, List.mem_of_getElem? (i := 947) (by decide +kernel), List.mem_of_getElem? (i := 1155) (by decide +kernel), List.mem_of_getElem? (i := 1156) (by decide +kernel)⟩
theorem lw_p28 : lw_okq (⟨"GraticulePressModel", "takes", "(III)V"⟩, 28) := ⟨⟨by decide +kernel, by decide +kernel⟩, List.mem_of_getElem? (i := 947) (by decide +kernel), List.mem_of_getElem? (i := 1159) (by decide +kernel), List.mem_of_getElem? (i := 1160) (by decide +kernel)⟩
def lw_privs_2 : List (MethodName × Nat) := [(⟨"GraticulePressModel", "lays", "(I)V"⟩, 28), (⟨"GraticulePressModel", "dots", "(II)V"⟩, 28), (⟨"GraticulePressModel", "isOn", "(II)Z"⟩, 28), (⟨"GraticulePressModel", "columnOf", "(II)I"⟩, 28), (⟨"GraticulePressModel", "rowOf", "(II)I"⟩, 28), (⟨"GraticulePressModel", "hasName", "(I)Z"⟩, 28), (⟨"GraticulePressModel", "nameOn", "(II)I"⟩, 28), (⟨"GraticulePressModel", "mayStand", "(III)Z"⟩, 28), (⟨"GraticulePressModel", "puts", "(III)V"⟩, 28), (⟨"GraticulePressModel", "isSheet", "(I)Z"⟩, 28), (⟨"GraticulePressModel", "canTry", "(I)Z"⟩, 28), (⟨"GraticulePressModel", "worthOf", "(I)I"⟩, 28), (⟨"GraticulePressModel", "takes", "(III)V"⟩, 28)]
theorem lw_r2 : ∀ q ∈ lw_privs_2, lw_okq q := List.forall_mem_cons.mpr ⟨lw_p16, List.forall_mem_cons.mpr ⟨lw_p17, List.forall_mem_cons.mpr ⟨lw_p18, List.forall_mem_cons.mpr ⟨lw_p19, List.forall_mem_cons.mpr ⟨lw_p20, List.forall_mem_cons.mpr ⟨lw_p21, List.forall_mem_cons.mpr ⟨lw_p22, List.forall_mem_cons.mpr ⟨lw_p23, List.forall_mem_cons.mpr ⟨lw_p24, List.forall_mem_cons.mpr ⟨lw_p25, List.forall_mem_cons.mpr ⟨lw_p26, List.forall_mem_cons.mpr ⟨lw_p27, List.forall_mem_cons.mpr ⟨lw_p28, fun _ h => absurd h List.not_mem_nil⟩⟩⟩⟩⟩⟩⟩⟩⟩⟩⟩⟩⟩
def lw_privs : List (MethodName × Nat) := lw_privs_1 ++ (lw_privs_2)
def lw_tbl : List Cond := k2_sels lw_privs ++ tables_1
theorem lw_privs_ok : ∀ q ∈ lw_privs, lw_okq q := by
  show ∀ q ∈ lw_privs_1 ++ (lw_privs_2), lw_okq q
  exact List.forall_mem_append.mpr ⟨lw_r1, lw_r2⟩
/-- the streams that the claim lets the run draw from -/
abbrev lw_cs : List Choice := [Jvm.Choice.named "NaN.bits"]
theorem lw_bits : nanBits ∈ lw_cs := by first | decide | exact List.mem_cons_self | simp [lw_cs, nanBits]
-- ===== end of PART A; then your names; then what follows =====
end
section
/-! ===== BEGIN words of one list among another's, by their places ===== -/
theorem goodIn_r {big : List Cond} (ws : List Cond) (ps : List Nat) (hp : ws = ps.filterMap (fun i => big[i]?)) (h : ws.all goodWord = true) : GoodIn big ws := by
  intro w hw
  have h1 := List.all_eq_true.mp h w hw
  rw [hp] at hw
  obtain ⟨i, -, hi⟩ := List.mem_filterMap.mp hw
  have hm : w ∈ big := by first | exact List.mem_of_getElem? hi | exact List.getElem?_mem hi
  exact ⟨hm, good_of_word h1⟩
theorem goodIn_app {big a b : List Cond} (ha : GoodIn big a) (hb : GoodIn big b) : GoodIn big (a ++ b) := fun w h => (List.mem_append.mp h).elim (ha w) (hb w)
theorem goodIn_ca {big a b : List Cond} {c : Cond} (ha : GoodIn big (c :: a)) (hb : GoodIn big b) : GoodIn big (c :: (a ++ b)) := fun w h => (List.mem_cons.mp h).elim (fun e => ha w (List.mem_cons.mpr (Or.inl e))) (fun h => (List.mem_append.mp h).elim (fun h => ha w (List.mem_cons.mpr (Or.inr h))) (hb w))
theorem goodIn_sub {big ws : List Cond} (hm : ∀ w ∈ ws, w ∈ big) (h : ws.all goodWord = true) : GoodIn big ws := fun w hw => ⟨hm w hw, good_of_word (List.all_eq_true.mp h w hw)⟩
/-! ===== END ===== -/

/-! ===== BEGIN exceptions that leave a method, and their catching by the caller (launches without stack traces) ===== -/
section VXA
/-! The laws vx_back, vx_callV, vx_callS, vx_callSW, vx_throw0, vx_throwS follow proofs of the library, with one case more: JvmDerived/Free/Laws.lean (Back.of_free), Shelf42/LK1.lean (callV, callS), Shelf/KitTraced.lean (throwNew0V, throwNewS). -/
/-- where a method has thrown q: the class by its name, the cell, what was written, the world -/
def vx_T (XC : String → State → State → Prop) (st : State) (q : Addr) (t : State) (mc ms : Nat) (free : Addr → Prop) : Prop :=
  ∃ (E : String) (ce : Cell) (L : List Loc), XC E st t ∧ t.heap[q]? = some ce ∧ ce.vm = .none ∧ st.vm.findClass E = some ce.cls ∧ st.WarmedH t.vm ∧ st.sameButNew ({ t with vm := st.vm } : State) L mc ms ∧ ∀ z ∈ L, free z.base
def vx_Q (Qc : Array Value → State → Outcome → State → Prop) (XC : String → State → State → Prop) (mc ms : Nat) (free : Addr → Prop) : Array Value → State → Outcome → State → Prop := fun a st o t =>
  (Qc a st o t ∧ ∃ L, FrameEnd st o t L mc ms ∧ ∀ q ∈ L, free q.base) ∨ ∃ q, o = .threw q ∧ vx_T XC st q t mc ms free
/-- a callee that returns or throws -/
def vx_Met (l : Launch) (y : MethodName) (ws : List Cond) (rm : Room) (Pc : Array Value → State → Prop) (Qc : Array Value → State → Outcome → State → Prop) (XC : String → State → State → Prop) (mc ms : Nat) (free : Addr → Prop) : Prop :=
  MetFree l y (headSpec ws rm) Pc (fun _ _ _ _ _ => True) (vx_Q Qc XC mc ms free)
def vx_Post (XC : String → State → State → Prop) (mc ms : Nat) (free : Addr → Prop) : Pt → Array Value → Addr → Pt → Prop := fun A a q B =>
  ∃ (g : JFrame) (mk : MethodId) (t : State) (L : List Loc) (E : String) (ce : Cell), B.U.heap = t.heap ∧ B.U.vm = t.vm ∧ XC E (A.U.calling g mk a) t ∧ t.heap[q]? = some ce ∧ ce.vm = .none ∧ A.U.vm.findClass E = some ce.cls ∧ B.locs = A.locs ++ L ∧ (∀ z ∈ L, free z.base) ∧ B.cells = A.cells + mc ∧ B.slots = A.slots + ms
def vx_Back (l : Launch) (R : Room) (p : Program) (e : Env) (below : List Frame) (s : State) (sargs : Array Value) (y : MethodName) (len W9 : Nat)
    (Pre : Pt → Array Value → Prop) (Post : Pt → Array Value → Option Value → Pt → Prop) (PostX : Pt → Array Value → Addr → Pt → Prop) : Prop :=
  ∀ (m : MethodId) (meth : Method) (c : Code) (A : Pt) (g : JFrame) (ig : Instr) (mk : MethodId) (a : Array Value),
    Stand p l e R s m sargs below meth c A.U A.locs A.cells A.slots → g.method = m → g.locals.size = c.maxLocals → decode c.code g.pc = .ok (ig, len) →
    2 * g.monitorRoom + (g.stack.map fun v => v.category).sum ≤ W9 → A.U.methodNamed? y = some mk → Pre A a →
    (∃ (v : Option Value) (B : Pt), Stand p l e R s m sargs below meth c B.U B.locs B.cells B.slots ∧ Post A a v B ∧
      Steps p.tables e below (doInvoke e (A.U.setTop g) [] mk a).1 (B.U.setTop { g with pc := g.pc + len, stack := v.toList ++ g.stack })) ∨
    (∃ (q : Addr) (B : Pt), Stand p l e R s m sargs below meth c B.U B.locs B.cells B.slots ∧ PostX A a q B ∧
      Steps p.tables e below (doInvoke e (A.U.setTop g) [] mk a).1 ((B.U.setTop g).pushFrame (.throwing q)))
section Payer
variable {l : Launch} {R : Room} {p : Program} {e : Env} {below : List Frame} {s : State} {sargs : Array Value} {y : MethodName} {len W9 : Nat}
theorem vx_back {ws : List Cond} {rm : Room} {Pc : Array Value → State → Prop} {Qc : Array Value → State → Outcome → State → Prop} {XC : String → State → State → Prop} {mc ms : Nat} {free : Addr → Prop} {bytes : ByteArray} {maxL : Nat} {ret : Option FieldType}
    (hM : vx_Met l y ws rm Pc Qc XC mc ms free) (hblind : FrameBlind Pc) (hrc : rm.cells = mc) (hrs : rm.slots = ms)
    (hframes : rm.frames + 1 ≤ R.frames) (hlocals : W9 + (maxL + 11) + rm.locals ≤ R.locals)
    (hws : ∀ w ∈ ws, ∀ a' U, s.WarmedH U.vm → w.before a' U = true) (hcode : Cond.code y bytes maxL ret ∈ ws) (hinit : ∀ a' U, s.WarmedH U.vm → (Cond.initialized y.cls).before a' U = true) :
    vx_Back l R p e below s sargs y len W9 (PreOf R mc ms Pc) (PostOf Qc mc ms free) (vx_Post XC mc ms free) := by
  intro m meth c A g ig mk a X hg hsize hdg hW hn hp
  have h1 : (headSpec ws rm).pre.before a A.U = true := atoms_intro fun w hw => hws w hw _ _ X.warmed
  have h2 : (Cond.code y bytes maxL ret).before a A.U = true := hws _ hcode _ _ X.warmed
  have h3 : (Cond.initialized y.cls).before a A.U = true := hinit _ _ X.warmed
  have h4 : A.cells + (headSpec ws rm).room.cells ≤ R.cells := by rw [show (headSpec ws rm).room.cells = mc from hrc]; exact hp.1
  have h5 : A.slots + (headSpec ws rm).room.slots ≤ R.slots := by rw [show (headSpec ws rm).room.slots = ms from hrs]; exact hp.2.1
  have hPc : Pc a (A.U.calling g mk a) := hblind _ _ _ _ hp.2.2
  obtain ⟨U, Ls, c0, s0⟩ := A
  dsimp only [Pt.U, Pt.locs, Pt.cells, Pt.slots] at h1 h2 h3 h4 h5 X hn hPc ⊢
  obtain ⟨methY, cY, hmY, hcY, -, hlY, -, -, -, -⟩ := Cond.code_spec hn h2
  obtain ⟨kY, hkY, -⟩ := className_of_methodNamed hn
  have hinitY : kY.init = .initialized := Cond.initialized_spec (findClass_of_methodNamed hn) hkY h3
  have h : At U g.method c below := by rw [hg]; exact X.here
  have hlocals9 : W9 + (maxL + 11) + (headSpec ws rm).room.locals ≤ R.locals := hlocals
  have happ : (headSpec ws rm).appliesLoose y e.platform (U.calling g mk a) = true :=
    Spec.appliesLoose_calling (g := g) h hdg hn hkY hinitY
      (X.room_calling (g := g) (R' := (headSpec ws rm).room) hsize hmY hcY hframes (by rw [hlY]; omega) h4 h5) h1
  obtain ⟨mid, hmid⟩ := h.above
  have hfr : (U.setTop g).frames = (.java g :: mid) ++ below := by rw [State.frames_setTop' g h.top, hmid]; rfl
  obtain ⟨o, s₂, hsteps, -, hend, hq⟩ := Steps.callFree hM p X.admits X.cas X.clock (acts := []) hfr happ hPc trivial
  have hq' : vx_Q Qc XC mc ms free a (U.calling g mk a) o s₂ := hq
  rw [State.frames_setTop' g h.top] at hend
  obtain ⟨g₀, hg0⟩ := Option.isSome_iff_exists.mp h.top
  obtain ⟨r, hr⟩ := State.topJava?_eq_some.mp hg0
  have hr' : (({ U with heap := s₂.heap, slotsUsed := s₂.slotsUsed } : State).setVm s₂.vm).frames = .java g₀ :: r := hr
  rcases hq' with ⟨hqc, L, hfe, hL⟩ | ⟨q, rfl, E, ce, L, hx, hce, hcv, hcl, hW₂, hsm, hL⟩
  · obtain ⟨⟨v, rfl⟩, hW₂, e2, q2, q3, q4, q5, q6⟩ := id hfe
    have e3 : s₂ = ({ (U.calling g mk a).setFrames s₂.frames with heap := s₂.heap, slotsUsed := s₂.slotsUsed } : State).setVm s₂.vm := by
      have : s₂ = ({ s₂ with vm := (U.calling g mk a).vm } : State).setVm s₂.vm := rfl
      rw [e2] at this
      exact this
    obtain ⟨c₂, i₂, len₂, hc₂, hd₂, hf₂⟩ := hend
    have hW' : U.WarmedH s₂.vm := hW₂
    have hcc : c₂ = c := by
      have h1 : s₂.code? g.method = U.code? g.method := by
        rw [State.code?_eq, State.code?_eq, hW'.alike.method?]
      exact Option.some.inj (hc₂.symm.trans (h1.trans h.code))
    subst hcc
    have hlen : len₂ = len := by rw [hdg] at hd₂; cases hd₂; rfl
    subst hlen
    have hs₂ : s₂ = (({ U with heap := s₂.heap, slotsUsed := s₂.slotsUsed } : State).setVm s₂.vm).setTop { g with pc := g.pc + len₂, stack := v.toList ++ g.stack } := by
      refine e3.trans ?_
      rw [hf₂, State.calling_eq h.top, State.setFrames_setFrames, State.setTop_of_frames _ hr', hr]
      rfl
    have hsame : U.sameButNew ({ U with heap := s₂.heap, slotsUsed := s₂.slotsUsed } : State) L mc ms := by
      refine ⟨?_, q2, q3, q4, q5, q6⟩
      obtain ⟨t, ht, -⟩ := State.frames_cons hr
      show ({ U with heap := s₂.heap, slotsUsed := s₂.slotsUsed } : State) = { U.setFrames U.frames with heap := s₂.heap, slotsUsed := s₂.slotsUsed }
      rw [State.setFrames_self ht]
    subst hg
    refine Or.inl ⟨v, ⟨(({ U with heap := s₂.heap, slotsUsed := s₂.slotsUsed } : State).setVm s₂.vm), Ls ++ L, c0 + mc, s0 + ms⟩,
      ⟨X.admits, X.cas, X.clock, X.frames, X.room, X.hears, X.method, X.code, (X.here.setHeapUsed s₂.heap s₂.slotsUsed).setVm hW'.alike, X.tail, State.WarmedH.trans X.warmed hW', X.limits, X.bytes, X.same.trans (hsame.setVm s.vm)⟩,
      ⟨g, mk, s₂, L, rfl, rfl, hqc, rfl, hL, rfl, rfl⟩, ?_⟩
    show Steps p.tables e below _ ((({ U with heap := s₂.heap, slotsUsed := s₂.slotsUsed } : State).setVm s₂.vm).setTop { g with pc := g.pc + len₂, stack := v.toList ++ g.stack })
    rw [← hs₂]
    exact hsteps
  · obtain ⟨e2, q2, q3, q4, q5, q6⟩ := id hsm
    have e3 : s₂ = ({ (U.calling g mk a).setFrames s₂.frames with heap := s₂.heap, slotsUsed := s₂.slotsUsed } : State).setVm s₂.vm := by
      have : s₂ = ({ s₂ with vm := (U.calling g mk a).vm } : State).setVm s₂.vm := rfl
      rw [e2] at this
      exact this
    have hf₂ : s₂.frames = .throwing q :: .java g :: U.frames.tail := hend
    have hW' : U.WarmedH s₂.vm := hW₂
    have hs₂ : s₂ = ((({ U with heap := s₂.heap, slotsUsed := s₂.slotsUsed } : State).setVm s₂.vm).setTop g).pushFrame (.throwing q) := by
      refine e3.trans ?_
      rw [hf₂, State.calling_eq h.top, State.setFrames_setFrames, State.pushFrame, State.frames_setTop _ hr', State.setTop_of_frames _ hr', State.setFrames_setFrames, hr]
      rfl
    have hsame : U.sameButNew ({ U with heap := s₂.heap, slotsUsed := s₂.slotsUsed } : State) L mc ms := by
      refine ⟨?_, q2, q3, q4, q5, q6⟩
      obtain ⟨t, ht, -⟩ := State.frames_cons hr
      show ({ U with heap := s₂.heap, slotsUsed := s₂.slotsUsed } : State) = { U.setFrames U.frames with heap := s₂.heap, slotsUsed := s₂.slotsUsed }
      rw [State.setFrames_self ht]
    subst hg
    refine Or.inr ⟨q, ⟨(({ U with heap := s₂.heap, slotsUsed := s₂.slotsUsed } : State).setVm s₂.vm), Ls ++ L, c0 + mc, s0 + ms⟩,
      ⟨X.admits, X.cas, X.clock, X.frames, X.room, X.hears, X.method, X.code, (X.here.setHeapUsed s₂.heap s₂.slotsUsed).setVm hW'.alike, X.tail, State.WarmedH.trans X.warmed hW', X.limits, X.bytes, X.same.trans (hsame.setVm s.vm)⟩,
      ⟨g, mk, s₂, L, E, ce, rfl, rfl, hx, hce, hcv, hcl, rfl, hL, rfl, rfl⟩, ?_⟩
    show Steps p.tables e below _ (((({ U with heap := s₂.heap, slotsUsed := s₂.slotsUsed } : State).setVm s₂.vm).setTop g).pushFrame (.throwing q))
    rw [← hs₂]
    exact hsteps
end Payer
section Calls
variable {p : Program} {l : Launch} {e : Env} {R : Room} {s : State} {m : MethodId} {args : Array Value} {below : List Frame} {meth : Method} {c : Code} {T : State} {locs : List Loc} {cells slots : Nat}
theorem vx_callV (X : Stand p l e R s m args below meth c T locs cells slots) (hexec : p.tables.exec = Jvm.exec) {own C : String} {index : Nat} {y : MethodName} {bytes : ByteArray} {maxL : Nat} {ret : Option FieldType}
    (hown : s.vm.findClass own = some m.cls) (hlink : (Cond.methodLink own index y).before args s = true) (hinst : (Cond.instanceMethod y).before args s = true) (hsel : (Cond.selects C y y).before args s = true)
    (hcode : (Cond.code y bytes maxL ret).before args s = true) (hy : y.cls ≠ "java/lang/invoke/MethodHandle" ∧ y.cls ≠ "java/lang/invoke/VarHandle")
    {W9 : Nat} {Pre : Pt → Array Value → Prop} {Post : Pt → Array Value → Option Value → Pt → Prop} {PostX : Pt → Array Value → Addr → Pt → Prop} (hK : vx_Back l R p e below s args y 3 W9 Pre Post PostX)
    {b : Addr} {cellB : Cell} (hcell : T.heap[b]? = some cellB) (hobj : cellB.vm.isStatics = false) (hcls : s.vm.findClass C = some cellB.cls)
    {g : JFrame} (hg : g.method = m) (hsize : g.locals.size = c.maxLocals) {argsL rest : List Value} (hlen : ∀ sig, parseMethodDescriptor y.desc = some sig → argsL.length = sig.parameters.length)
    (hstack : g.stack = argsL.reverse ++ .ref b :: rest) (hW : 2 * g.monitorRoom + (rest.map fun v => v.category).sum ≤ W9) (hdg : decode c.code g.pc = .ok (.invokevirtual index, 3))
    (hpre : ∀ vm₁, s.WarmedH vm₁ → Pre ⟨T.setVm vm₁, locs, cells, slots⟩ (Value.ref b :: argsL).toArray) :
    (∃ (v : Option Value) (vm₁ : Vm) (B : Pt), s.WarmedH vm₁ ∧ Stand p l e R s m args below meth c B.U B.locs B.cells B.slots ∧ Post ⟨T.setVm vm₁, locs, cells, slots⟩ (Value.ref b :: argsL).toArray v B ∧
      ∀ target, Steps p.tables e below (B.U.setTop { g with pc := g.pc + 3, stack := v.toList ++ rest }) target → Steps p.tables e below (T.setTop g) target) ∨
    (∃ (q : Addr) (vm₁ : Vm) (B : Pt), s.WarmedH vm₁ ∧ Stand p l e R s m args below meth c B.U B.locs B.cells B.slots ∧ PostX ⟨T.setVm vm₁, locs, cells, slots⟩ (Value.ref b :: argsL).toArray q B ∧
      Steps p.tables e below (T.setTop g) ((B.U.setTop { g with stack := rest }).pushFrame (.throwing q))) := by
  obtain ⟨mk, methM, hnamed, hmethM, hstM, habM⟩ := Cond.instanceMethod_spec hinst
  obtain ⟨methM', cM, hmethM', -, -, -, -, -, -, hsigM⟩ := Cond.code_spec hnamed hcode
  cases hmethM.symm.trans hmethM'
  obtain ⟨c2, r2, m2, q1, q2, q3, q4, kP, hkP, hkPi⟩ := Cond.selects_spec hsel
  cases hcls.symm.trans q1
  cases (State.methodFound?_of_named hnamed hy).symm.trans q2
  cases hnamed.symm.trans q3
  have hselP : selectMethod e.platform s.vm cellB.cls mk = .method mk := by rw [Launch.admits_selectMethod X.admits]; exact q4
  obtain ⟨vm₁, X₁, hstep₁⟩ := X.invokevirtual hexec hown hlink hnamed hmethM hstM hkP hkPi hy (a := b) (cell := cellB) hcell
    (fun z h => by rw [h] at hobj; cases hobj) hselP hmethM habM hkP hkPi (g := g) hg (argsL := argsL) (rest := rest) (hlen _ hsigM) hstack hdg
  rcases hK m meth c ⟨T.setVm vm₁, locs, cells, slots⟩ { g with stack := rest } (.invokevirtual index) mk (Value.ref b :: argsL).toArray X₁ hg hsize hdg hW (X₁.named hnamed) (hpre vm₁ X₁.warmed) with ⟨v, B, X', hpost, hsteps⟩ | ⟨q, B, X', hpost, hsteps⟩
  · exact Or.inl ⟨v, vm₁, B, X₁.warmed, X', hpost, fun target h => hstep₁ _ fun acts => by rw [doInvoke_state]; exact hsteps.trans h⟩
  · exact Or.inr ⟨q, vm₁, B, X₁.warmed, X', hpost, hstep₁ _ fun acts => by rw [doInvoke_state]; exact hsteps⟩
theorem vx_callS (X : Stand p l e R s m args below meth c T locs cells slots) (hexec : p.tables.exec = Jvm.exec) {own : String} {index : Nat} {y : MethodName} {bytes : ByteArray} {maxL : Nat} {ret : Option FieldType}
    (hown : s.vm.findClass own = some m.cls) (hlink : (Cond.methodLink own index y).before args s = true) (hstat : (Cond.static y).before args s = true) (hinit : (Cond.initialized y.cls).before args s = true)
    (hcode : (Cond.code y bytes maxL ret).before args s = true) (hy : y.cls ≠ "java/lang/invoke/MethodHandle" ∧ y.cls ≠ "java/lang/invoke/VarHandle")
    {W9 : Nat} {Pre : Pt → Array Value → Prop} {Post : Pt → Array Value → Option Value → Pt → Prop} {PostX : Pt → Array Value → Addr → Pt → Prop} (hK : vx_Back l R p e below s args y 3 W9 Pre Post PostX)
    {g : JFrame} (hg : g.method = m) (hsize : g.locals.size = c.maxLocals) {argsL rest : List Value} (hlen : ∀ sig, parseMethodDescriptor y.desc = some sig → argsL.length = sig.parameters.length)
    (hstack : g.stack = argsL.reverse ++ rest) (hW : 2 * g.monitorRoom + (rest.map fun v => v.category).sum ≤ W9) (hdg : decode c.code g.pc = .ok (.invokestatic index, 3))
    (hpre : ∀ vm₁, s.WarmedH vm₁ → Pre ⟨T.setVm vm₁, locs, cells, slots⟩ argsL.toArray) :
    (∃ (v : Option Value) (vm₁ : Vm) (B : Pt), s.WarmedH vm₁ ∧ Stand p l e R s m args below meth c B.U B.locs B.cells B.slots ∧ Post ⟨T.setVm vm₁, locs, cells, slots⟩ argsL.toArray v B ∧
      ∀ target, Steps p.tables e below (B.U.setTop { g with pc := g.pc + 3, stack := v.toList ++ rest }) target → Steps p.tables e below (T.setTop g) target) ∨
    (∃ (q : Addr) (vm₁ : Vm) (B : Pt), s.WarmedH vm₁ ∧ Stand p l e R s m args below meth c B.U B.locs B.cells B.slots ∧ PostX ⟨T.setVm vm₁, locs, cells, slots⟩ argsL.toArray q B ∧
      Steps p.tables e below (T.setTop g) ((B.U.setTop { g with stack := rest }).pushFrame (.throwing q))) := by
  obtain ⟨mk, hnamed⟩ := Cond.code_named hcode
  obtain ⟨methM, cM, hmethM, -, -, -, -, -, -, hsigM⟩ := Cond.code_spec hnamed hcode
  have hstatic : methM.isStatic = true := Cond.static_spec hnamed hmethM hstat
  obtain ⟨kP, hkP, -⟩ := className_of_methodNamed hnamed
  have hinitP : kP.init = .initialized := Cond.initialized_spec (findClass_of_methodNamed hnamed) hkP hinit
  obtain ⟨vm₁, X₁, hstep₁⟩ := X.invokestatic hexec hown hlink hnamed hmethM hstatic hkP hinitP hy (g := g) hg (argsL := argsL) (rest := rest) (hlen _ hsigM) hstack hdg
  rcases hK m meth c ⟨T.setVm vm₁, locs, cells, slots⟩ { g with stack := rest } (.invokestatic index) mk argsL.toArray X₁ hg hsize hdg hW (X₁.named hnamed) (hpre vm₁ X₁.warmed) with ⟨v, B, X', hpost, hsteps⟩ | ⟨q, B, X', hpost, hsteps⟩
  · exact Or.inl ⟨v, vm₁, B, X₁.warmed, X', hpost, fun target h => hstep₁ _ fun acts => by rw [doInvoke_state]; exact hsteps.trans h⟩
  · exact Or.inr ⟨q, vm₁, B, X₁.warmed, X', hpost, hstep₁ _ fun acts => by rw [doInvoke_state]; exact hsteps⟩
end Calls
theorem vx_cls {s : State} {T : State} {vm₁ : Vm} {E : String} {k : ClassId} (hW : s.WarmedH vm₁) (h : (T.setVm vm₁).vm.findClass E = some k) : s.vm.findClass E = some k := by
  have h1 : vm₁.findClass E = some k := h
  rw [hW.alike.findClass] at h1
  exact h1
/-- the method's frame g, with q thrown over it -/
def vx_W (p : Program) (l : Launch) (e : Env) (R : Room) (s : State) (m : MethodId) (args : Array Value) (below : List Frame) (meth : Method) (c : Code) (H : Heap) (locs : List Loc) (cells slots : Nat) (Q : State → Prop) (g : JFrame) (q : Addr) : Prop :=
  ∀ T : State, T.heap = H → Stand p l e R s m args below meth c T locs cells slots → ∃ t, Steps p.tables e below ((T.setTop g).pushFrame (.throwing q)) t ∧ Q t
def vx_Run (p : Program) (l : Launch) (e : Env) (R : Room) (s : State) (m : MethodId) (args : Array Value) (below : List Frame) (meth : Method) (c : Code) (H : Heap) (locs : List Loc) (cells slots mc ms : Nat) (g : JFrame) (rest : List Value) (Qa : State → Outcome → State → Prop) (XC : String → State → State → Prop) (free : Addr → Prop) : Prop :=
  ∀ T : State, T.heap = H → Stand p l e R s m args below meth c T locs cells slots →
    (∃ (v : Option Value) (st₀ t T' : State) (L : List Loc), st₀.heap = H ∧ Stand p l e R s m args below meth c T' (locs ++ L) (cells + mc) (slots + ms) ∧ (∀ q ∈ L, free q.base) ∧ T'.heap = t.heap ∧ T'.vm = t.vm ∧ Qa st₀ (.returned v) t ∧
      Goes p e below T g T' { g with pc := g.pc + 3, stack := v.toList ++ rest }) ∨
    (∃ (q : Addr) (st₀ t T' : State) (L : List Loc) (E : String) (ce : Cell), st₀.heap = H ∧ Stand p l e R s m args below meth c T' (locs ++ L) (cells + mc) (slots + ms) ∧ (∀ z ∈ L, free z.base) ∧ T'.heap = t.heap ∧ T'.vm = t.vm ∧ XC E st₀ t ∧ t.heap[q]? = some ce ∧ ce.vm = .none ∧ s.vm.findClass E = some ce.cls ∧
      Steps p.tables e below (T.setTop g) ((T'.setTop { g with stack := rest }).pushFrame (.throwing q)))
def vx_X {S : Type} (px : S → Prop) (B : String → S → State → Prop) (A : Nat → Prop) : String → State → State → Prop := fun E st t => ∃ u : S, px u ∧ B E u t ∧ va_F A st t
section Runs
variable {p : Program} {l : Launch} {e : Env} {R : Room} {s : State} {m : MethodId} {args : Array Value} {below : List Frame} {meth : Method} {c : Code} {H : Heap} {locs : List Loc} {cells slots : Nat}
variable {y : MethodName} {bytes cc : ByteArray} {maxL nL mc ms n index : Nat} {ret : Option FieldType} {ws : List Cond} {rm : Room} {Pc : Array Value → State → Prop} {Qc : Array Value → State → Outcome → State → Prop} {XC : String → State → State → Prop} {free : Addr → Prop} {Ts : List Cond} {own C : String} {b : Addr} {As rest : List Value} {g : JFrame}
theorem vx_callBack (cb : CallB R s args own index y bytes maxL ret ws rm mc ms n) (hM : vx_Met l y ws rm Pc Qc XC mc ms free) (hbl : FrameBlind Pc) : vx_Back l R p e below s args y 3 8 (PreOf R mc ms Pc) (PostOf Qc mc ms free) (vx_Post XC mc ms free) := by
  obtain ⟨hrc, hrs, hfr, hlo, hws, hcw, -, hini, -⟩ := cb
  exact vx_back (bytes := bytes) (maxL := maxL) (ret := ret) hM hbl hrc hrs hfr hlo hws hcw (fun a' U hW => word_at hW (Or.inl (by first | rfl | simp [Cond.onTables, Cond.keeps, Cond.steady])) hini)
theorem vx_runV (S : CallFix p m c cc nL s args Ts own) (hM : vx_Met l y ws rm Pc Qc XC mc ms free) (cw : CallW R s args own C index y bytes maxL ret ws rm mc ms n) (hp : PreV s H C b Pc As)
    (hg : g.method = m) (hn : As.length = n) (hsize : g.locals.size = nL) (hstack : g.stack = As.reverse ++ .ref b :: rest) (hW : 2 * g.monitorRoom + (rest.map fun v => v.category).sum ≤ 8) (hdg : decode cc g.pc = .ok (.invokevirtual index, 3)) (hf : cells + mc ≤ R.cells ∧ slots + ms ≤ R.slots) :
    vx_Run p l e R s m args below meth c H locs cells slots mc ms g rest (Qc (Value.ref b :: As).toArray) XC free := by
  have hK : vx_Back l R p e below s args y 3 8 (PreOf R mc ms Pc) (PostOf Qc mc ms free) (vx_Post XC mc ms free) := vx_callBack cw.1 hM hp.1
  obtain ⟨⟨-, -, -, -, -, -, hcode, -, hy, hlen, hl⟩, hin, hse⟩ := cw
  obtain ⟨hx, hb, hml, ho, -⟩ := S
  obtain ⟨-, ⟨cellB, hcB, hoB, hclB⟩, hPc⟩ := hp
  intro T hT X
  rcases vx_callV X hx (C := C) (bytes := bytes) (maxL := maxL) (ret := ret) ho hl hin hse hcode hy hK (by rw [hT]; exact hcB) hoB hclB hg (hsize.trans hml.symm) (argsL := As) (rest := rest) (fun sig h => hn.trans (hlen sig h)) hstack hW (by rw [hb]; exact hdg)
    (fun vm₁ hW₁ => ⟨hf.1, hf.2, hPc (T.setVm vm₁) hT hW₁⟩) with ⟨v, vm₁, ⟨U', l2, c2, s2⟩, hW₁, X', ⟨g', mk, t, L, e1, e2, hq, h1, hL, h2, h3⟩, st⟩ | ⟨q, vm₁, ⟨U', l2, c2, s2⟩, hW₁, X', ⟨g', mk, t, L, E, ce, e1, e2, hq, hce, hcv, hcl, h1, hL, h2, h3⟩, st⟩
  · dsimp only [Pt.U, Pt.locs, Pt.cells, Pt.slots] at X' e1 e2 h1 h2 h3 st
    subst h1; subst h2; subst h3
    exact Or.inl ⟨v, (T.setVm vm₁).calling g' mk (Value.ref b :: As).toArray, t, U', L, hT, X', hL, e1, e2, hq, st⟩
  · dsimp only [Pt.U, Pt.locs, Pt.cells, Pt.slots] at X' e1 e2 h1 h2 h3 st hcl
    subst h1; subst h2; subst h3
    exact Or.inr ⟨q, (T.setVm vm₁).calling g' mk (Value.ref b :: As).toArray, t, U', L, E, ce, hT, X', hL, e1, e2, hq, hce, hcv, vx_cls hW₁ hcl, st⟩
theorem vx_runS (S : CallFix p m c cc nL s args Ts own) (hM : vx_Met l y ws rm Pc Qc XC mc ms free) (cw : CallB R s args own index y bytes maxL ret ws rm mc ms n ∧ (Cond.static y).before args s = true) (hp : PreS s H Pc As)
    (hg : g.method = m) (hn : As.length = n) (hsize : g.locals.size = nL) (hstack : g.stack = As.reverse ++ rest) (hW : 2 * g.monitorRoom + (rest.map fun v => v.category).sum ≤ 8) (hdg : decode cc g.pc = .ok (.invokestatic index, 3)) (hf : cells + mc ≤ R.cells ∧ slots + ms ≤ R.slots) :
    vx_Run p l e R s m args below meth c H locs cells slots mc ms g rest (Qc As.toArray) XC free := by
  have hK : vx_Back l R p e below s args y 3 8 (PreOf R mc ms Pc) (PostOf Qc mc ms free) (vx_Post XC mc ms free) := vx_callBack cw.1 hM hp.1
  obtain ⟨⟨-, -, -, -, -, -, hcode, hini, hy, hlen, hl⟩, hstt⟩ := cw
  obtain ⟨hx, hb, hml, ho, -⟩ := S
  intro T hT X
  rcases vx_callS X hx (bytes := bytes) (maxL := maxL) (ret := ret) ho hl hstt hini hcode hy hK hg (hsize.trans hml.symm) (argsL := As) (rest := rest) (fun sig h => hn.trans (hlen sig h)) hstack hW (by rw [hb]; exact hdg)
    (fun vm₁ hW₁ => ⟨hf.1, hf.2, hp.2 (T.setVm vm₁) hT hW₁⟩) with ⟨v, vm₁, ⟨U', l2, c2, s2⟩, hW₁, X', ⟨g', mk, t, L, e1, e2, hq, h1, hL, h2, h3⟩, st⟩ | ⟨q, vm₁, ⟨U', l2, c2, s2⟩, hW₁, X', ⟨g', mk, t, L, E, ce, e1, e2, hq, hce, hcv, hcl, h1, hL, h2, h3⟩, st⟩
  · dsimp only [Pt.U, Pt.locs, Pt.cells, Pt.slots] at X' e1 e2 h1 h2 h3 st
    subst h1; subst h2; subst h3
    exact Or.inl ⟨v, (T.setVm vm₁).calling g' mk As.toArray, t, U', L, hT, X', hL, e1, e2, hq, st⟩
  · dsimp only [Pt.U, Pt.locs, Pt.cells, Pt.slots] at X' e1 e2 h1 h2 h3 st hcl
    subst h1; subst h2; subst h3
    exact Or.inr ⟨q, (T.setVm vm₁).calling g' mk As.toArray, t, U', L, E, ce, hT, X', hL, e1, e2, hq, hce, hcv, vx_cls hW₁ hcl, st⟩
end Runs
section Rows
variable {p : Program} {l : Launch} {e : Env} {R : Room} {s : State} {m : MethodId} {args : Array Value} {below : List Frame} {meth : Method} {c : Code} {H : Heap} {locs : List Loc} {cells slots : Nat} {Q : State → Prop}
variable {mc ms : Nat} {free : Addr → Prop} {A0 A1 : Nat → Prop} {H0 : Heap} {a : Array Value} {pc : Nat} {ls : Array Slot} {st0 rest : List Value}
theorem vx_keep {st₀ t T' : State} {L : List Loc} (h0 : st₀.heap = H) (e1 : T'.heap = t.heap) (hS : va_S A0 H0 H locs) (hA : ∀ q, q < H.size → A1 q → A0 q) (hf : ∀ q, free q → A0 q) (hL : ∀ q ∈ L, free q.base) (hF : va_F A1 st₀ t) :
    H.size ≤ T'.heap.size ∧ (∀ q : Nat, q < H.size → ¬ A1 q → T'.heap[q]? = H[q]?) ∧ va_S A0 H0 T'.heap (locs ++ L) := by
  obtain ⟨hz, hk⟩ := hF
  rw [h0] at hz hk
  exact ⟨by rw [e1]; exact hz, fun q h1 h2 => by rw [e1]; exact hk q h1 h2,
    ⟨Nat.le_trans hS.1 (by rw [e1]; exact hz), fun q h1 h2 => by rw [e1, hk q (Nat.lt_of_lt_of_le h1 hS.1) (fun z => h2 (hA q (Nat.lt_of_lt_of_le h1 hS.1) z))]; exact hS.2.1 q h1 h2, fun q hq => by
      rcases List.mem_append.mp hq with h | h
      · exact hS.2.2 q h
      · exact hf _ (hL q h)⟩⟩
theorem vx_calli {S SX : Type} {post : Int32 → S → Prop} {px : SX → Prop} {B : S → State → Prop} {BX : String → SX → State → Prop} {AX : Nat → Prop} (hr : vx_Run p l e R s m args below meth c H locs cells slots mc ms (F0 m pc ls st0) rest (va_Qi post B A1 a) (vx_X px BX AX) free) (hS : va_S A0 H0 H locs) (hA : ∀ q, q < H.size → A1 q → A0 q) (hf : ∀ q, free q → A0 q) (hAX : ∀ q, q < H.size → AX q → A0 q)
    (kx : ∀ (E : String) (ce : Cell) (q9 : Addr) (u : SX) (t : State) (H1 : Heap) (locs1 : List Loc), t.heap = H1 → s.vm.Alike t.vm → px u → BX E u t → H.size ≤ H1.size → (∀ q : Nat, q < H.size → ¬ AX q → H1[q]? = H[q]?) → va_S A0 H0 H1 locs1 → H1[q9]? = some ce → ce.vm = .none → s.vm.findClass E = some ce.cls → vx_W p l e R s m args below meth c H1 locs1 (cells + mc) (slots + ms) Q (F0 m pc ls rest) q9)
    (kk : ∀ (r : Int32) (u : S) (t : State) (H1 : Heap) (locs1 : List Loc), t.heap = H1 → s.vm.Alike t.vm → post r u → B u t → H.size ≤ H1.size → (∀ q : Nat, q < H.size → ¬ A1 q → H1[q]? = H[q]?) → va_S A0 H0 H1 locs1 → W p l e R s m args below meth c H1 locs1 (cells + mc) (slots + ms) Q (F0 m (pc + 3) ls (.int r :: rest))) : W p l e R s m args below meth c H locs cells slots Q (F0 m pc ls st0) := by
  intro T hT X
  rcases hr T hT X with ⟨v, st₀, t, T', L, h0, X', hL, e1, e2, ⟨⟨r, u, hv, hp, hb⟩, hF⟩, st⟩ | ⟨q, st₀, t, T', L, E, ce, h0, X', hL, e1, e2, ⟨u, hp, hb, hF⟩, hce, hcv, hcl, st⟩
  · cases hv
    obtain ⟨k1, k2, k3⟩ := vx_keep h0 e1 hS hA hf hL hF
    obtain ⟨t2, a1, b1⟩ := kk r u t T'.heap (locs ++ L) e1.symm (by rw [← e2]; exact X'.warmed.alike) hp hb k1 k2 k3 T' rfl X'
    exact ⟨t2, st t2 a1, b1⟩
  · obtain ⟨k1, k2, k3⟩ := vx_keep h0 e1 hS hAX hf hL hF
    obtain ⟨t2, a1, b1⟩ := kx E ce q u t T'.heap (locs ++ L) e1.symm (by rw [← e2]; exact X'.warmed.alike) hp hb k1 k2 k3 (by rw [e1]; exact hce) hcv hcl T' rfl X'
    exact ⟨t2, st.trans a1, b1⟩
theorem vx_calll {S SX : Type} {post : Int64 → S → Prop} {px : SX → Prop} {B : S → State → Prop} {BX : String → SX → State → Prop} {AX : Nat → Prop} (hr : vx_Run p l e R s m args below meth c H locs cells slots mc ms (F0 m pc ls st0) rest (va_Ql post B A1 a) (vx_X px BX AX) free) (hS : va_S A0 H0 H locs) (hA : ∀ q, q < H.size → A1 q → A0 q) (hf : ∀ q, free q → A0 q) (hAX : ∀ q, q < H.size → AX q → A0 q)
    (kx : ∀ (E : String) (ce : Cell) (q9 : Addr) (u : SX) (t : State) (H1 : Heap) (locs1 : List Loc), t.heap = H1 → s.vm.Alike t.vm → px u → BX E u t → H.size ≤ H1.size → (∀ q : Nat, q < H.size → ¬ AX q → H1[q]? = H[q]?) → va_S A0 H0 H1 locs1 → H1[q9]? = some ce → ce.vm = .none → s.vm.findClass E = some ce.cls → vx_W p l e R s m args below meth c H1 locs1 (cells + mc) (slots + ms) Q (F0 m pc ls rest) q9)
    (kk : ∀ (r : Int64) (u : S) (t : State) (H1 : Heap) (locs1 : List Loc), t.heap = H1 → s.vm.Alike t.vm → post r u → B u t → H.size ≤ H1.size → (∀ q : Nat, q < H.size → ¬ A1 q → H1[q]? = H[q]?) → va_S A0 H0 H1 locs1 → W p l e R s m args below meth c H1 locs1 (cells + mc) (slots + ms) Q (F0 m (pc + 3) ls (.long r :: rest))) : W p l e R s m args below meth c H locs cells slots Q (F0 m pc ls st0) := by
  intro T hT X
  rcases hr T hT X with ⟨v, st₀, t, T', L, h0, X', hL, e1, e2, ⟨⟨r, u, hv, hp, hb⟩, hF⟩, st⟩ | ⟨q, st₀, t, T', L, E, ce, h0, X', hL, e1, e2, ⟨u, hp, hb, hF⟩, hce, hcv, hcl, st⟩
  · cases hv
    obtain ⟨k1, k2, k3⟩ := vx_keep h0 e1 hS hA hf hL hF
    obtain ⟨t2, a1, b1⟩ := kk r u t T'.heap (locs ++ L) e1.symm (by rw [← e2]; exact X'.warmed.alike) hp hb k1 k2 k3 T' rfl X'
    exact ⟨t2, st t2 a1, b1⟩
  · obtain ⟨k1, k2, k3⟩ := vx_keep h0 e1 hS hAX hf hL hF
    obtain ⟨t2, a1, b1⟩ := kx E ce q u t T'.heap (locs ++ L) e1.symm (by rw [← e2]; exact X'.warmed.alike) hp hb k1 k2 k3 (by rw [e1]; exact hce) hcv hcl T' rfl X'
    exact ⟨t2, st.trans a1, b1⟩
theorem vx_callf {S SX : Type} {post : UInt32 → S → Prop} {px : SX → Prop} {B : S → State → Prop} {BX : String → SX → State → Prop} {AX : Nat → Prop} (hr : vx_Run p l e R s m args below meth c H locs cells slots mc ms (F0 m pc ls st0) rest (va_Qf post B A1 a) (vx_X px BX AX) free) (hS : va_S A0 H0 H locs) (hA : ∀ q, q < H.size → A1 q → A0 q) (hf : ∀ q, free q → A0 q) (hAX : ∀ q, q < H.size → AX q → A0 q)
    (kx : ∀ (E : String) (ce : Cell) (q9 : Addr) (u : SX) (t : State) (H1 : Heap) (locs1 : List Loc), t.heap = H1 → s.vm.Alike t.vm → px u → BX E u t → H.size ≤ H1.size → (∀ q : Nat, q < H.size → ¬ AX q → H1[q]? = H[q]?) → va_S A0 H0 H1 locs1 → H1[q9]? = some ce → ce.vm = .none → s.vm.findClass E = some ce.cls → vx_W p l e R s m args below meth c H1 locs1 (cells + mc) (slots + ms) Q (F0 m pc ls rest) q9)
    (kk : ∀ (r : UInt32) (u : S) (t : State) (H1 : Heap) (locs1 : List Loc), t.heap = H1 → s.vm.Alike t.vm → post r u → B u t → H.size ≤ H1.size → (∀ q : Nat, q < H.size → ¬ A1 q → H1[q]? = H[q]?) → va_S A0 H0 H1 locs1 → W p l e R s m args below meth c H1 locs1 (cells + mc) (slots + ms) Q (F0 m (pc + 3) ls (.float r :: rest))) : W p l e R s m args below meth c H locs cells slots Q (F0 m pc ls st0) := by
  intro T hT X
  rcases hr T hT X with ⟨v, st₀, t, T', L, h0, X', hL, e1, e2, ⟨⟨r, u, hv, hp, hb⟩, hF⟩, st⟩ | ⟨q, st₀, t, T', L, E, ce, h0, X', hL, e1, e2, ⟨u, hp, hb, hF⟩, hce, hcv, hcl, st⟩
  · cases hv
    obtain ⟨k1, k2, k3⟩ := vx_keep h0 e1 hS hA hf hL hF
    obtain ⟨t2, a1, b1⟩ := kk r u t T'.heap (locs ++ L) e1.symm (by rw [← e2]; exact X'.warmed.alike) hp hb k1 k2 k3 T' rfl X'
    exact ⟨t2, st t2 a1, b1⟩
  · obtain ⟨k1, k2, k3⟩ := vx_keep h0 e1 hS hAX hf hL hF
    obtain ⟨t2, a1, b1⟩ := kx E ce q u t T'.heap (locs ++ L) e1.symm (by rw [← e2]; exact X'.warmed.alike) hp hb k1 k2 k3 (by rw [e1]; exact hce) hcv hcl T' rfl X'
    exact ⟨t2, st.trans a1, b1⟩
theorem vx_calld {S SX : Type} {post : UInt64 → S → Prop} {px : SX → Prop} {B : S → State → Prop} {BX : String → SX → State → Prop} {AX : Nat → Prop} (hr : vx_Run p l e R s m args below meth c H locs cells slots mc ms (F0 m pc ls st0) rest (va_Qd post B A1 a) (vx_X px BX AX) free) (hS : va_S A0 H0 H locs) (hA : ∀ q, q < H.size → A1 q → A0 q) (hf : ∀ q, free q → A0 q) (hAX : ∀ q, q < H.size → AX q → A0 q)
    (kx : ∀ (E : String) (ce : Cell) (q9 : Addr) (u : SX) (t : State) (H1 : Heap) (locs1 : List Loc), t.heap = H1 → s.vm.Alike t.vm → px u → BX E u t → H.size ≤ H1.size → (∀ q : Nat, q < H.size → ¬ AX q → H1[q]? = H[q]?) → va_S A0 H0 H1 locs1 → H1[q9]? = some ce → ce.vm = .none → s.vm.findClass E = some ce.cls → vx_W p l e R s m args below meth c H1 locs1 (cells + mc) (slots + ms) Q (F0 m pc ls rest) q9)
    (kk : ∀ (r : UInt64) (u : S) (t : State) (H1 : Heap) (locs1 : List Loc), t.heap = H1 → s.vm.Alike t.vm → post r u → B u t → H.size ≤ H1.size → (∀ q : Nat, q < H.size → ¬ A1 q → H1[q]? = H[q]?) → va_S A0 H0 H1 locs1 → W p l e R s m args below meth c H1 locs1 (cells + mc) (slots + ms) Q (F0 m (pc + 3) ls (.double r :: rest))) : W p l e R s m args below meth c H locs cells slots Q (F0 m pc ls st0) := by
  intro T hT X
  rcases hr T hT X with ⟨v, st₀, t, T', L, h0, X', hL, e1, e2, ⟨⟨r, u, hv, hp, hb⟩, hF⟩, st⟩ | ⟨q, st₀, t, T', L, E, ce, h0, X', hL, e1, e2, ⟨u, hp, hb, hF⟩, hce, hcv, hcl, st⟩
  · cases hv
    obtain ⟨k1, k2, k3⟩ := vx_keep h0 e1 hS hA hf hL hF
    obtain ⟨t2, a1, b1⟩ := kk r u t T'.heap (locs ++ L) e1.symm (by rw [← e2]; exact X'.warmed.alike) hp hb k1 k2 k3 T' rfl X'
    exact ⟨t2, st t2 a1, b1⟩
  · obtain ⟨k1, k2, k3⟩ := vx_keep h0 e1 hS hAX hf hL hF
    obtain ⟨t2, a1, b1⟩ := kx E ce q u t T'.heap (locs ++ L) e1.symm (by rw [← e2]; exact X'.warmed.alike) hp hb k1 k2 k3 (by rw [e1]; exact hce) hcv hcl T' rfl X'
    exact ⟨t2, st.trans a1, b1⟩
theorem vx_callv {S SX : Type} {post : S → Prop} {px : SX → Prop} {B : S → State → Prop} {BX : String → SX → State → Prop} {AX : Nat → Prop} (hr : vx_Run p l e R s m args below meth c H locs cells slots mc ms (F0 m pc ls st0) rest (va_Qv post B A1 a) (vx_X px BX AX) free) (hS : va_S A0 H0 H locs) (hA : ∀ q, q < H.size → A1 q → A0 q) (hf : ∀ q, free q → A0 q) (hAX : ∀ q, q < H.size → AX q → A0 q)
    (kx : ∀ (E : String) (ce : Cell) (q9 : Addr) (u : SX) (t : State) (H1 : Heap) (locs1 : List Loc), t.heap = H1 → s.vm.Alike t.vm → px u → BX E u t → H.size ≤ H1.size → (∀ q : Nat, q < H.size → ¬ AX q → H1[q]? = H[q]?) → va_S A0 H0 H1 locs1 → H1[q9]? = some ce → ce.vm = .none → s.vm.findClass E = some ce.cls → vx_W p l e R s m args below meth c H1 locs1 (cells + mc) (slots + ms) Q (F0 m pc ls rest) q9)
    (kk : ∀ (u : S) (t : State) (H1 : Heap) (locs1 : List Loc), t.heap = H1 → s.vm.Alike t.vm → post u → B u t → H.size ≤ H1.size → (∀ q : Nat, q < H.size → ¬ A1 q → H1[q]? = H[q]?) → va_S A0 H0 H1 locs1 → W p l e R s m args below meth c H1 locs1 (cells + mc) (slots + ms) Q (F0 m (pc + 3) ls (rest))) : W p l e R s m args below meth c H locs cells slots Q (F0 m pc ls st0) := by
  intro T hT X
  rcases hr T hT X with ⟨v, st₀, t, T', L, h0, X', hL, e1, e2, ⟨⟨u, hv, hp, hb⟩, hF⟩, st⟩ | ⟨q, st₀, t, T', L, E, ce, h0, X', hL, e1, e2, ⟨u, hp, hb, hF⟩, hce, hcv, hcl, st⟩
  · cases hv
    obtain ⟨k1, k2, k3⟩ := vx_keep h0 e1 hS hA hf hL hF
    obtain ⟨t2, a1, b1⟩ := kk u t T'.heap (locs ++ L) e1.symm (by rw [← e2]; exact X'.warmed.alike) hp hb k1 k2 k3 T' rfl X'
    exact ⟨t2, st t2 a1, b1⟩
  · obtain ⟨k1, k2, k3⟩ := vx_keep h0 e1 hS hAX hf hL hF
    obtain ⟨t2, a1, b1⟩ := kx E ce q u t T'.heap (locs ++ L) e1.symm (by rw [← e2]; exact X'.warmed.alike) hp hb k1 k2 k3 (by rw [e1]; exact hce) hcv hcl T' rfl X'
    exact ⟨t2, st.trans a1, b1⟩
/-- caught by the row x of this method's table; the rows ahead don't take it -/
theorem vx_catch {own name : String} {E : String} {ce : Cell} {q : Addr} (hown : s.vm.findClass own = some m.cls) (pre : List ExceptionTableEntry) (x : ExceptionTableEntry) (suf : List ExceptionTableEntry) (hsplit : c.exceptionTable.toList = pre ++ x :: suf)
    (hpass : ∀ z ∈ pre, covers z pc = false ∨ (z.catchType ≠ 0 ∧ ∃ nm : String, (Cond.classLink own z.catchType nm).before args s = true ∧ va_Nc E nm s)) (hx : covers x pc = true) (h0 : x.catchType ≠ 0)
    (hlink : (Cond.classLink own x.catchType name).before args s = true) (hcast : (Cond.castable E name).before args s = true) (hcell : H[q]? = some ce) (hv : ce.vm = .none) (hcl : s.vm.findClass E = some ce.cls)
    (kk : W p l e R s m args below meth c H locs cells slots Q (F0 m x.handlerPc ls [.ref q])) : vx_W p l e R s m args below meth c H locs cells slots Q (F0 m pc ls rest) q := by
  intro T hT X
  have hpl : e.platform.magicAccessors = ({} : Platform).magicAccessors := by rw [X.admits.platform]
  obtain ⟨c3, c4, hc3, hc4, hasg⟩ := Cond.castable_spec hcast
  cases Option.some.inj (hc3.symm.trans hcl)
  obtain ⟨c5, hc5, hcl5⟩ := Cond.classLink_spec hown hlink e.platform hpl
  cases Option.some.inj (hc4.symm.trans hc5)
  obtain ⟨vm', X', st⟩ := X.thenCaughtThrough q (g := F0 m pc ls rest) rfl (Steps.refl _) (by rw [hT]; exact hcell) (by rw [hv]; rfl) (by obtain ⟨k9, h9, -⟩ := Vm.findClass_spec hcl; exact ⟨k9, h9⟩) pre x suf hsplit
    (fun z hz => by
      rcases hpass z hz with h | ⟨hz0, nm, hl1, hn1⟩
      · exact Or.inl h
      · obtain ⟨c6, hc6, hcl6⟩ := Cond.classLink_spec hown hl1 e.platform hpl
        obtain ⟨a8, b8, h1, h2, h3⟩ := hn1
        cases Option.some.inj (h1.symm.trans hcl)
        cases Option.some.inj (h2.symm.trans hc6)
        exact Or.inr ⟨hz0, _, hcl6, h3⟩) hx (Or.inr ⟨h0, c4, hcl5, hasg⟩)
  obtain ⟨t, a1, b1⟩ := kk (T.setVm vm') hT X'
  exact ⟨t, st.trans a1, b1⟩
end Rows
section Ends
variable {p : Program} {l : Launch} {e : Env} {R : Room} {s : State} {m : MethodId} {args : Array Value} {below : List Frame} {meth : Method} {c : Code} {H : Heap} {locs : List Loc} {cells slots : Nat} {Q : State → Prop}
variable {mc ms : Nat} {free : Addr → Prop} {A0 A1 : Nat → Prop} {H0 : Heap} {a : Array Value} {ls : Array Slot} {st0 rest : List Value}
variable {Qc : Array Value → State → Outcome → State → Prop} {XC : String → State → State → Prop}
/-- what a body that may throw owes at its end -/
def vx_MQ (below : List Frame) (Qc : Array Value → State → Outcome → State → Prop) (XC : String → State → State → Prop) (a : Array Value) (s : State) (mc ms : Nat) (free : Addr → Prop) : State → Prop := fun t =>
  ∃ o, t.status = .running ∧ Ended t below o ∧ vx_Q Qc XC mc ms free a s o t
theorem vx_ret {g : JFrame} {mc ms : Nat} (k : W p l e R s m args below meth c H locs cells slots (MQ below Qc args s mc ms free) g) : W p l e R s m args below meth c H locs cells slots (vx_MQ below Qc XC args s mc ms free) g := by
  intro T hT X
  obtain ⟨t, a1, o, b1, b2, b3, b4⟩ := k T hT X
  exact ⟨t, a1, o, b1, b2, Or.inl ⟨b3, b4⟩⟩
/-- not caught here: it goes on to the caller -/
theorem vx_widen {g : JFrame} {q : Addr} {k n : Nat} (h1 : cells ≤ k) (h2 : slots ≤ n) (kk : vx_W p l e R s m args below meth c H locs k n Q g q) : vx_W p l e R s m args below meth c H locs cells slots Q g q := fun T hT X => kk T hT (stand_widen X h1 h2)
theorem vx_out {pc : Nat} {E : String} {ce : Cell} {q : Addr} {mc ms : Nat} (hout : ∀ x ∈ c.exceptionTable.toList, covers x pc = false) (hlocks : meth.locks = false) (hcell : H[q]? = some ce) (hv : ce.vm = .none) (hcl : s.vm.findClass E = some ce.cls)
    (hx : ∀ t : State, t.heap = H → s.vm.Alike t.vm → XC E s t) (hf : ∀ z ∈ locs, free z.base) (hc : cells ≤ mc) (hs : slots ≤ ms) :
    vx_W p l e R s m args below meth c H locs cells slots (vx_MQ below Qc XC args s mc ms free) (F0 m pc ls rest) q := by
  intro T hT X
  obtain ⟨st1, hrun, hend, hW, hsm⟩ := X.leaveThrown q (g := F0 m pc ls rest) rfl rfl rfl hout hlocks
  have hcell9 : (T.setFrames (.throwing q :: below)).heap[q]? = some ce := by
    show T.heap[q]? = some ce
    rw [hT]; exact hcell
  exact ⟨_, st1, .threw q, hrun, hend, Or.inr ⟨q, rfl, E, ce, locs, hx _ hT hW.alike, hcell9, hv, hcl, hW, hsm.mono hc hs, hf⟩⟩
theorem vx_frame {U : State} {k n : Nat} (h : s.sameButNew ({ U with vm := s.vm } : State) locs k n) : s.heap.size ≤ U.heap.size ∧ ∀ q : Nat, q < s.heap.size → (∀ z ∈ locs, z.base ≠ q) → U.heap[q]? = s.heap[q]? := by
  obtain ⟨-, h2, -, -, -, h6⟩ := h
  refine ⟨h2, fun q hq hz => ?_⟩
  obtain ⟨c9, e1, e2, e3, e4⟩ := h6 q _ (Array.getElem?_eq_getElem hq)
  have hs : c9.slots = (s.heap[q]).slots := Array.ext_getElem? fun i => e4 i fun hm => hz _ hm rfl
  have h9 : c9 = s.heap[q] := by
    rw [hs] at e2
    exact e2
  have e5 : U.heap[q]? = some c9 := e1
  rw [e5, h9, Array.getElem?_eq_getElem hq]
/-- the words of a throw but the four that speak of the heap -/
def vx_no (w : Cond) : Bool := decide (w ≠ .isRef (.static Bundle.tN "UNASSIGNED_STACK" Bundle.steD)) && decide (w ≠ .isRef (.static Bundle.tN "SUPPRESSED_SENTINEL" Bundle.listD)) && decide (w ≠ .laysStatic Bundle.tN "UNASSIGNED_STACK" Bundle.steD) && decide (w ≠ .laysStatic Bundle.tN "SUPPRESSED_SENTINEL" Bundle.listD)
def vx_at0 (own : String) (ic : Nat) (X : String) (names : List String) : List Cond := (Bundle.ownAtoms0 own ic X names).filter vx_no
def vx_atS (own : String) (ic : Nat) (X : String) (names : List String) : List Cond := (Bundle.ownAtoms own ic X names).filter vx_no
/-- a word that the tables alone decide, or a good one -/
def vx_ot (w : Cond) : Bool := w.onTables || goodWord w
theorem vx_ot_at {args a' : Array Value} {s U : State} {w : Cond} (hW : s.WarmedH U.vm) (hvm : s.vm = U.vm) (hg : vx_ot w = true) (h : w.before args s = true) : w.before a' U = true := by
  simp only [vx_ot, Bool.or_eq_true] at hg
  rcases hg with hg | hg
  · exact va_tabs hg hvm h
  · exact word_at hW (good_of_word hg) h
/-- a list's words: the good ones out of the method's own list, the others by premises of their own -/
theorem vx_hat {args : Array Value} {s : State} {L B : List Cond} (h1 : ∀ w ∈ L.filter goodWord, w.before args s = true) (h2 : ∀ w ∈ L.filter (fun w => !goodWord w), w ∈ B) (h3 : ∀ w ∈ B, w.before args s = true) : ∀ w ∈ L, w.before args s = true := by
  intro w hw
  by_cases g : goodWord w = true
  · exact h1 w (List.mem_filter.mpr ⟨hw, g⟩)
  · refine h3 w (h2 w (List.mem_filter.mpr ⟨hw, ?_⟩))
    show (!goodWord w) = true
    cases hgw : goodWord w
    · rfl
    · exact absurd hgw g
theorem vx_c {args : Array Value} {s : State} {w : Cond} {B : List Cond} (h : w.before args s = true) (t : ∀ w ∈ B, w.before args s = true) : ∀ w' ∈ w :: B, w'.before args s = true := fun w' h' => (List.mem_cons.mp h').elim (fun e => by rw [e]; exact h) (t w')
theorem vx_n {args : Array Value} {s : State} : ∀ w ∈ ([] : List Cond), w.before args s = true := fun _ h => nomatch h
theorem vx_own {args : Array Value} {s : State} {L : List Cond} (h1 : ∀ w ∈ L.filter vx_no, w.before args s = true)
    (hU : (Cond.isRef (.static Bundle.tN "UNASSIGNED_STACK" Bundle.steD)).before args s = true) (hN : (Cond.isRef (.static Bundle.tN "SUPPRESSED_SENTINEL" Bundle.listD)).before args s = true)
    (lU : (Cond.laysStatic Bundle.tN "UNASSIGNED_STACK" Bundle.steD).before args s = true) (lN : (Cond.laysStatic Bundle.tN "SUPPRESSED_SENTINEL" Bundle.listD).before args s = true) : ∀ w ∈ L, w.before args s = true := by
  intro w hw
  by_cases e1 : w = .isRef (.static Bundle.tN "UNASSIGNED_STACK" Bundle.steD)
  · rw [e1]; exact hU
  · by_cases e2 : w = .isRef (.static Bundle.tN "SUPPRESSED_SENTINEL" Bundle.listD)
    · rw [e2]; exact hN
    · by_cases e3 : w = .laysStatic Bundle.tN "UNASSIGNED_STACK" Bundle.steD
      · rw [e3]; exact lU
      · by_cases e4 : w = .laysStatic Bundle.tN "SUPPRESSED_SENTINEL" Bundle.listD
        · rw [e4]; exact lN
        · exact h1 w (List.mem_filter.mpr ⟨hw, by unfold vx_no; rw [decide_eq_true e1, decide_eq_true e2, decide_eq_true e3, decide_eq_true e4]; rfl⟩)
/-- where a static field lies, its class's statics cell in H -/
def vx_L (C n d : String) (A : Nat → Prop) (U : State) (H : Heap) : Prop := ∃ (c : ClassId) (k : Class) (i : Nat) (f : Field) (a : Nat) (cell : Cell), U.vm.findClass C = some c ∧ U.fieldFound? C n d = some (c, k, i, f) ∧ f.isStatic = true ∧ k.statics = some a ∧ H[a]? = some cell ∧ cell.vm.isStatics = true ∧ cell.cls = c ∧ f.slot < cell.slots.size ∧ k.staticTypes[f.slot]? = some f.type ∧ ¬ A a
theorem vx_L.moved {C n d : String} {A : Nat → Prop} {u U : State} {H : Heap} (hvm : u.vm.Alike U.vm) (h : vx_L C n d A u H) : vx_L C n d A U H := by
  obtain ⟨c, k, i, f, a, cell, h1, h2, h3, h4, h5, h6, h7, h8, h9, h10⟩ := h
  obtain ⟨k', hi', he⟩ := State.fieldFound?_setVm hvm h2
  exact ⟨c, k', i, f, a, cell, by rw [hvm.findClass]; exact h1, hi', h3, by rw [he]; exact h4, h5, h6, h7, h8, by rw [he]; exact h9, h10⟩
theorem vx_L.kept {C n d : String} {A : Nat → Prop} {U : State} {H H1 : Heap} (h : vx_L C n d A U H) (hq : ∀ a : Nat, a < H.size → ¬ A a → H1[a]? = H[a]?) : vx_L C n d A U H1 := by
  obtain ⟨c, k, i, f, a, cell, h1, h2, h3, h4, h5, h6, h7, h8, h9, h10⟩ := h
  exact ⟨c, k, i, f, a, cell, h1, h2, h3, h4, by rw [hq a (Array.getElem?_eq_some_iff.mp h5).1 h10]; exact h5, h6, h7, h8, h9, h10⟩
theorem vx_L.narrow {C n d : String} {A B : Nat → Prop} {U : State} {H : Heap} (h : vx_L C n d A U H) (hAB : ∀ q, B q → A q) : vx_L C n d B U H := by
  obtain ⟨c, k, i, f, a, cell, h1, h2, h3, h4, h5, h6, h7, h8, h9, h10⟩ := h
  exact ⟨c, k, i, f, a, cell, h1, h2, h3, h4, h5, h6, h7, h8, h9, fun z => h10 (hAB _ z)⟩
theorem vx_L.word {C n d : String} {A : Nat → Prop} {s : State} {args : Array Value} (h : vx_L C n d A s s.heap) : (Cond.laysStatic C n d).before args s = true := by
  obtain ⟨c, k, i, f, a, cell, h1, h2, h3, h4, h5, h6, h7, h8, h9, -⟩ := h
  show (Cond.laysStatic C n d).holds args s none s [] = true
  exact Cond.laysStatic_of h1 h2 h3 h4 h5 h6 h7 h8 h9
/-- .. and what it holds: null or some reference -/
def vx_Zq (C n d : String) (A : Nat → Prop) (U : State) (H : Heap) : Prop := va_Zq C n d A U H ∧ vx_L C n d A U H
theorem vx_Zq.moved {C n d : String} {A : Nat → Prop} {u U : State} {H : Heap} (hvm : u.vm.Alike U.vm) (h : vx_Zq C n d A u H) : vx_Zq C n d A U H := ⟨va_Zq.moved hvm h.1, vx_L.moved hvm h.2⟩
theorem vx_Zq.kept {C n d : String} {A : Nat → Prop} {U : State} {H H1 : Heap} (h : vx_Zq C n d A U H) (hq : ∀ a : Nat, a < H.size → ¬ A a → H1[a]? = H[a]?) : vx_Zq C n d A U H1 := ⟨va_Zq.kept h.1 hq, vx_L.kept h.2 hq⟩
theorem vx_Zq.narrow {C n d : String} {A B : Nat → Prop} {U : State} {H : Heap} (h : vx_Zq C n d A U H) (hAB : ∀ q, B q → A q) : vx_Zq C n d B U H := ⟨va_Zq.narrow h.1 hAB, vx_L.narrow h.2 hAB⟩
theorem vx_Zqof {args : Array Value} {s : State} {C n d : String} {A : Nat → Prop} (hl : (Cond.laysStatic C n d).before args s = true) (hini : (Cond.initialized C).before args s = true) (h : (Cond.isRef (.static C n d)).before args s = true) (hA : ∀ a : Nat, a < s.heap.size → ¬ A a) : vx_Zq C n d A s s.heap := by
  refine ⟨va_Zqof hl hini h hA, ?_⟩
  obtain ⟨c, k, i, f, a, cell, h1, h2, h3, h4, h5, h6, h7, h8, h9⟩ := Cond.laysStatic_spec hl
  exact ⟨c, k, i, f, a, cell, h1, h2, h3, h4, h5, h6, h7, h8, h9, hA a (Array.getElem?_eq_some_iff.mp h5).1⟩
theorem vx_isRef {C n d : String} {v : Value} {A : Nat → Prop} {s : State} {args : Array Value} (h : va_Z C n d v A s s.heap) (hv : v.isRef = true) : (Cond.isRef (.static C n d)).before args s = true := by
  obtain ⟨cf, kf, fi, f, a, cell, h1, h2, h3, h4, h5, h6, h7, -⟩ := h
  have he : (Term.static C n d).eval args s none [] s = some v := by
    simp [Term.eval, State.fieldNamed?, h1, h2, h4, h5, h6, h7]
  simp only [Cond.before, Cond.holds, Cond.value, he]
  cases v <;> simp_all [Value.isRef]
theorem vx_isRefq {C n d : String} {A : Nat → Prop} {s : State} {args : Array Value} (h : va_Zq C n d A s s.heap) : (Cond.isRef (.static C n d)).before args s = true := by
  rcases h with h | ⟨t, h⟩
  · exact vx_isRef h rfl
  · exact vx_isRef h rfl
/-- the same frame, seen from here: as if the method were called anew in this heap -/
theorem vx_rebase {T : State} (X : Stand p l e R s m args below meth c T locs cells slots) {R' : Room} (hf : R'.frames ≤ R.frames) (hl : R'.locals ≤ R.locals) (hc : cells + R'.cells ≤ R.cells) (hs : slots + R'.slots ≤ R.slots) :
    Stand p l e R' ((T.setVm s.vm).setFrames (.invoking m args :: below)) m args below meth c T [] 0 0 := by
  have htop : (T.setVm s.vm).topJava?.isSome := X.here.top
  have hF : ((T.setVm s.vm).setFrames (.invoking m args :: below)).frames = .invoking m args :: below := State.frames_setFrames _ (State.cur_lt_of_top htop)
  obtain ⟨g₀, hg0⟩ := Option.isSome_iff_exists.mp htop
  obtain ⟨r, hr⟩ := State.topJava?_eq_some.mp hg0
  have hl9 : e.platform.stackLimits (T.setVm s.vm).me = e.platform.stackLimits s.me := X.limits
  have hb9 : (T.setVm s.vm).me.stackBytes = s.me.stackBytes := X.bytes
  refine ⟨X.admits, X.cas, X.clock, hF, ?_, X.hears, X.method, X.code, X.here, X.tail, X.warmed, ?_, ?_, ?_⟩
  · have h := X.room
    have hU : ((T.setVm s.vm).setFrames (.invoking m args :: below)).localsInUse = s.localsInUse := by
      rw [State.localsInUse_invoking hF (meth := meth) (c := c) X.method X.code, State.localsInUse_invoking X.frames X.method X.code]
    simp only [State.hasRoom, Bool.and_eq_true, decide_eq_true_eq] at h ⊢
    obtain ⟨⟨⟨⟨h1, h2, h3, h4, h5, h6⟩, h7⟩, h8⟩, h9⟩ := h
    rw [X.frames, List.length_cons] at h2 h3
    have q1 := X.heapSize
    have q2 := X.used
    simp only [hF, hU, List.length_cons, State.stackLimits_setFrames, State.stackBytes_setFrames, hl9, hb9]
    refine ⟨⟨⟨⟨by omega, by omega, by omega, by omega, by omega, h6⟩, ?_⟩, ?_⟩, X.book⟩
    · show T.heap.size + R'.cells ≤ e.platform.maxCells
      omega
    · show T.slotsUsed + R'.slots ≤ e.platform.maxSlots
      omega
  · rw [State.stackLimits_setFrames]; rfl
  · rw [State.stackBytes_setFrames]; rfl
  · refine ⟨?_, Nat.le_refl _, Nat.le_refl _, ?_, ?_, fun a c9 h9 => ⟨c9, h9, rfl, rfl, fun _ _ => rfl⟩⟩
    · obtain ⟨t, ht, -⟩ := State.frames_cons hr
      show T.setVm s.vm = { ((T.setVm s.vm).setFrames (.invoking m args :: below)).setFrames (T.setVm s.vm).frames with heap := T.heap, slotsUsed := T.slotsUsed }
      rw [State.setFrames_setFrames, State.setFrames_self ht]
      rfl
    · show T.slotsUsed = T.slotsUsed + ((T.heap.toList.drop T.heap.size).map (·.slots.size)).sum
      rw [List.drop_eq_nil_of_le (Nat.le_of_eq Array.length_toList)]
      rfl
    · show ((T.heap.toList.drop T.heap.size).map (·.slots.size)).sum ≤ 0
      rw [List.drop_eq_nil_of_le (Nat.le_of_eq Array.length_toList)]
      exact Nat.le_refl _
/-- 'throw new E()': new; dup; invokespecial; athrow -/
theorem vx_throw0 {cc : ByteArray} {pc : Nat} (hexec : p.tables.exec = Jvm.exec) (hb : c.code = cc) (hl : l.stackTraces = false) {own cls : String} {names : List String} {ik ic mc ms : Nat} {A : Nat → Prop}
    (hown : s.vm.findClass own = some m.cls) (hcls : Bundle.fit cls = true) (hnames : ∀ n ∈ names, Bundle.fit n = true)
    (hk : (Cond.classLink own ik cls).before args s = true) (hini : (Cond.initialized cls).before args s = true) (hat : ∀ w ∈ vx_at0 own ic cls names, w.before args s = true)
    (hgood : ∀ w ∈ Cond.classLink own ik cls :: Cond.initialized cls :: vx_at0 own ic cls names, vx_ot w = true)
    (hU : vx_Zq Bundle.tN "UNASSIGNED_STACK" Bundle.steD A s s.heap) (hN : vx_Zq Bundle.tN "SUPPRESSED_SENTINEL" Bundle.listD A s s.heap) (hS : va_S A s.heap H locs) (hsize : ls.size = c.maxLocals)
    (d0 : decode cc pc = .ok (.new ik, 3)) (d3 : decode cc (pc + 3) = .ok (.dup, 1)) (d4 : decode cc (pc + 4) = .ok (.invokespecial ic, 3)) (d7 : decode cc (pc + 7) = .ok (.athrow, 1))
    (hout : ∀ x ∈ c.exceptionTable.toList, covers x (pc + 7) = false)
    (hRframes : names.length + 3 < R.frames) (hRlocals : (rest.map fun v => v.category).sum + (13 * (names.length + 1) + 42) ≤ R.locals) (hRcells : cells + 1 ≤ R.cells) (hRslots : slots + 6 ≤ R.slots) (hlocks : meth.locks = false)
    (hx : ∀ t : State, s.vm.Alike t.vm → H.size ≤ t.heap.size → (∀ q : Nat, q < H.size → t.heap[q]? = H[q]?) → XC cls s t)
    (hf : ∀ z ∈ locs, free z.base) (hc : cells + 1 ≤ mc) (hs : slots + 6 ≤ ms) :
    W p l e R s m args below meth c H locs cells slots (vx_MQ below Qc XC args s mc ms free) (F0 m pc ls rest) := by
  intro T hT X
  have htr : e.platform.stackTraces = false := (show e.platform.stackTraces = l.stackTraces by rw [X.admits.platform]).trans hl
  have Y := vx_rebase X (R' := { frames := R.frames, locals := R.locals, cells := 1, slots := 6 }) (Nat.le_refl _) (Nat.le_refl _) hRcells hRslots
  obtain ⟨s', hA⟩ : ∃ z, z = (T.setVm s.vm).setFrames (.invoking m args :: below) := ⟨_, rfl⟩
  rw [← hA] at Y
  have hvm : s'.vm = s.vm := by rw [hA]; rfl
  have hhp : s'.heap = H := by rw [hA]; exact hT
  have hW0 : s.WarmedH s'.vm := by rw [hvm]; exact State.WarmedH.refl s
  have hat' : ∀ w ∈ vx_at0 own ic cls names, w.before args s' = true := fun w hw => vx_ot_at hW0 hvm.symm (hgood w (List.mem_cons_of_mem _ (List.mem_cons_of_mem _ hw))) (hat w hw)
  have hk' : (Cond.classLink own ik cls).before args s' = true := vx_ot_at hW0 hvm.symm (hgood _ List.mem_cons_self) hk
  have hini' : (Cond.initialized cls).before args s' = true := vx_ot_at hW0 hvm.symm (hgood _ (List.mem_cons_of_mem _ List.mem_cons_self)) hini
  have hU' : vx_Zq Bundle.tN "UNASSIGNED_STACK" Bundle.steD A s' s'.heap := by rw [hhp]; exact vx_Zq.moved hW0.alike (hU.kept hS.2.1)
  have hN' : vx_Zq Bundle.tN "SUPPRESSED_SENTINEL" Bundle.listD A s' s'.heap := by rw [hhp]; exact vx_Zq.moved hW0.alike (hN.kept hS.2.1)
  have h : ∀ w ∈ Bundle.ownAtoms0 own ic cls names, w.before args s' = true := vx_own hat' (vx_isRefq hU'.1) (vx_isRefq hN'.1) hU'.2.word hN'.2.word
  have hown' : s'.vm.findClass own = some m.cls := by rw [hvm]; exact hown
  have hins : (Cond.instantiable cls 6).before args s' = true := h _ (by simp [Bundle.ownAtoms0])
  obtain ⟨vm₁, cX, kX, hfX, hkX, -, -, X₁, st1⟩ := Y.newCold hexec (own := own) (C := cls) (index := ik) (n := 6) hown' hk' hins hini'
    (g := F0 m pc ls rest) rfl (by rw [hb]; exact d0) (Nat.le_refl _) (Nat.le_refl _)
  generalize hT1 : (T.setVm vm₁).pushCell { cls := cX, slots := kX.instanceTypes.map defaultValue, vm := .none } = T1 at X₁ st1
  have hcat : (Value.ref T.heap.size).category = 1 := rfl
  have hcellA : T1.heap[T.heap.size]? = some (freshCell cX kX) := by rw [← hT1]; exact State.heap_pushCell_size _ _
  have d3' : decode c.code (pc + 3) = .ok (.dup, 1) := by rw [hb]; exact d3
  obtain ⟨U, hsteps, hrun, hend, hW, hsame, ce, hce, hO⟩ := X₁.ctorThrow0 hexec htr (own := own) (cls := cls) (names := names) (ic := ic) hown' hcls hnames h (fun x hx => nomatch hx) hfX hkX hcellA (by rw [hhp, hT]; exact Nat.le_refl _)
    (g := { method := m, pc := pc + 4, locals := ls, stack := .ref T.heap.size :: .ref T.heap.size :: rest, locked := none }) rfl hsize rfl rfl (rest := rest) rfl
    (by rw [hb]; exact d4) (by rw [hb]; exact d7) hout hRframes (by simp only [List.map_cons, List.sum_cons, hcat]; omega) hlocks
  obtain ⟨f1, f2⟩ := vx_frame hsame
  rw [hhp] at f1 f2
  have hWs : s.WarmedH U.vm := State.WarmedH.trans hW0 hW
  have hcl : s.vm.findClass cls = some ce.cls := by
    have h9 := hO.cls
    rw [hvm] at h9
    exact h9
  have hall : s.sameButNew ({ U with vm := s.vm } : State) locs mc ms := by
    subst hA
    obtain ⟨e1, e2⟩ := hsame
    rw [State.setFrames_setFrames] at e1
    have h2 : (T.setVm s.vm).sameButNew ({ U with vm := s.vm } : State) [] (0 + 1) (0 + 6) := ⟨e1, e2⟩
    have h3 := X.same.trans h2
    rw [List.append_nil] at h3
    exact h3.mono hc hs
  refine ⟨U, ?_, .threw T.heap.size, hrun, hend, Or.inr ⟨T.heap.size, rfl, cls, ce, locs, hx U hWs.alike f1 (fun q hq => f2 q hq (fun z hz => nomatch hz)), hce, hO.vm, hcl, hWs, hall, hf⟩⟩
  refine st1 _ ?_
  show Steps p.tables e below (T1.setTop { method := m, pc := pc + 3, locals := ls, stack := .ref T.heap.size :: rest, locked := none }) _
  jvm_step X₁.here [X₁.here.top, hexec, d3', Value.category]
  exact hsteps
/-- 'throw new E("text")': new; dup; ldc; invokespecial; athrow -/
theorem vx_throwS {cc : ByteArray} {pc : Nat} (hexec : p.tables.exec = Jvm.exec) (hb : c.code = cc) (hl : l.stackTraces = false) {own cls text : String} {names : List String} {ik is ic mc ms sa : Nat} {A : Nat → Prop}
    (hown : s.vm.findClass own = some m.cls) (hcls : Bundle.fit cls = true) (hnames : ∀ n ∈ names, Bundle.fit n = true)
    (hk : (Cond.classLink own ik cls).before args s = true) (hini : (Cond.initialized cls).before args s = true) (hstr : vk_R own is text sa s) (hat : ∀ w ∈ vx_atS own ic cls names, w.before args s = true)
    (hgood : ∀ w ∈ Cond.classLink own ik cls :: Cond.initialized cls :: vx_atS own ic cls names, vx_ot w = true)
    (hU : vx_Zq Bundle.tN "UNASSIGNED_STACK" Bundle.steD A s s.heap) (hN : vx_Zq Bundle.tN "SUPPRESSED_SENTINEL" Bundle.listD A s s.heap) (hS : va_S A s.heap H locs) (hsize : ls.size = c.maxLocals)
    (d0 : decode cc pc = .ok (.new ik, 3)) (d3 : decode cc (pc + 3) = .ok (.dup, 1)) (d4 : decode cc (pc + 4) = .ok (.ldc is, 2)) (d6 : decode cc (pc + 6) = .ok (.invokespecial ic, 3)) (d9 : decode cc (pc + 9) = .ok (.athrow, 1))
    (hout : ∀ x ∈ c.exceptionTable.toList, covers x (pc + 9) = false)
    (hRframes : names.length + 3 < R.frames) (hRlocals : (rest.map fun v => v.category).sum + (13 * (names.length + 1) + 43) ≤ R.locals) (hRcells : cells + 1 ≤ R.cells) (hRslots : slots + 6 ≤ R.slots) (hlocks : meth.locks = false)
    (hx : ∀ t : State, s.vm.Alike t.vm → H.size ≤ t.heap.size → (∀ q : Nat, q < H.size → t.heap[q]? = H[q]?) → XC cls s t)
    (hf : ∀ z ∈ locs, free z.base) (hc : cells + 1 ≤ mc) (hs : slots + 6 ≤ ms) :
    W p l e R s m args below meth c H locs cells slots (vx_MQ below Qc XC args s mc ms free) (F0 m pc ls rest) := by
  intro T hT X
  have htr : e.platform.stackTraces = false := (show e.platform.stackTraces = l.stackTraces by rw [X.admits.platform]).trans hl
  have Y := vx_rebase X (R' := { frames := R.frames, locals := R.locals, cells := 1, slots := 6 }) (Nat.le_refl _) (Nat.le_refl _) hRcells hRslots
  obtain ⟨s', hA⟩ : ∃ z, z = (T.setVm s.vm).setFrames (.invoking m args :: below) := ⟨_, rfl⟩
  rw [← hA] at Y
  have hvm : s'.vm = s.vm := by rw [hA]; rfl
  have hhp : s'.heap = H := by rw [hA]; exact hT
  have hW0 : s.WarmedH s'.vm := by rw [hvm]; exact State.WarmedH.refl s
  have hat' : ∀ w ∈ vx_atS own ic cls names, w.before args s' = true := fun w hw => vx_ot_at hW0 hvm.symm (hgood w (List.mem_cons_of_mem _ (List.mem_cons_of_mem _ hw))) (hat w hw)
  have hk' : (Cond.classLink own ik cls).before args s' = true := vx_ot_at hW0 hvm.symm (hgood _ List.mem_cons_self) hk
  have hini' : (Cond.initialized cls).before args s' = true := vx_ot_at hW0 hvm.symm (hgood _ (List.mem_cons_of_mem _ List.mem_cons_self)) hini
  have hU' : vx_Zq Bundle.tN "UNASSIGNED_STACK" Bundle.steD A s' s'.heap := by rw [hhp]; exact vx_Zq.moved hW0.alike (hU.kept hS.2.1)
  have hN' : vx_Zq Bundle.tN "SUPPRESSED_SENTINEL" Bundle.listD A s' s'.heap := by rw [hhp]; exact vx_Zq.moved hW0.alike (hN.kept hS.2.1)
  have h : ∀ w ∈ Bundle.ownAtoms own ic cls names, w.before args s' = true := vx_own hat' (vx_isRefq hU'.1) (vx_isRefq hN'.1) hU'.2.word hN'.2.word
  have hown' : s'.vm.findClass own = some m.cls := by rw [hvm]; exact hown
  have hins : (Cond.instantiable cls 6).before args s' = true := h _ (by simp [Bundle.ownAtoms])
  obtain ⟨vm₁, cX, kX, hfX, hkX, -, -, X₁, st1⟩ := Y.newCold hexec (own := own) (C := cls) (index := ik) (n := 6) hown' hk' hins hini'
    (g := F0 m pc ls rest) rfl (by rw [hb]; exact d0) (Nat.le_refl _) (Nat.le_refl _)
  generalize hT1 : (T.setVm vm₁).pushCell { cls := cX, slots := kX.instanceTypes.map defaultValue, vm := .none } = T1 at X₁ st1
  have hcat : (Value.ref T.heap.size).category = 1 := rfl
  have hcellA : T1.heap[T.heap.size]? = some (freshCell cX kX) := by rw [← hT1]; exact State.heap_pushCell_size _ _
  have d3' : decode c.code (pc + 3) = .ok (.dup, 1) := by rw [hb]; exact d3
  have d4' : decode c.code (pc + 4) = .ok (.ldc is, 2) := by rw [hb]; exact d4
  have hstr' : vk_R own is text sa s' := vk_R.warm hW0 hstr
  obtain ⟨U, hsteps, hrun, hend, hW, hsame, ce, hce, hO⟩ := X₁.ctorThrowS hexec htr (own := own) (cls := cls) (names := names) (ic := ic) hown' hcls hnames h (fun x hx => nomatch hx) hfX hkX hcellA (by rw [hhp, hT]; exact Nat.le_refl _) (msg := .ref sa) rfl
    (g := { method := m, pc := pc + 6, locals := ls, stack := .ref sa :: .ref T.heap.size :: .ref T.heap.size :: rest, locked := none }) rfl hsize rfl rfl (rest := rest) rfl
    (by rw [hb]; exact d6) (by rw [hb]; exact d9) hout hRframes (by simp only [List.map_cons, List.sum_cons, hcat]; omega) hlocks
  obtain ⟨f1, f2⟩ := vx_frame hsame
  rw [hhp] at f1 f2
  have hWs : s.WarmedH U.vm := State.WarmedH.trans hW0 hW
  have hcl : s.vm.findClass cls = some ce.cls := by
    have h9 := hO.cls
    rw [hvm] at h9
    exact h9
  have hall : s.sameButNew ({ U with vm := s.vm } : State) locs mc ms := by
    subst hA
    obtain ⟨e1, e2⟩ := hsame
    rw [State.setFrames_setFrames] at e1
    have h2 : (T.setVm s.vm).sameButNew ({ U with vm := s.vm } : State) [] (0 + 1) (0 + 6) := ⟨e1, e2⟩
    have h3 := X.same.trans h2
    rw [List.append_nil] at h3
    exact h3.mono hc hs
  refine ⟨U, ?_, .threw T.heap.size, hrun, hend, Or.inr ⟨T.heap.size, rfl, cls, ce, locs, hx U hWs.alike f1 (fun q hq => f2 q hq (fun z hz => nomatch hz)), hce, hO.vm, hcl, hWs, hall, hf⟩⟩
  refine st1 _ ?_
  show Steps p.tables e below (T1.setTop { method := m, pc := pc + 3, locals := ls, stack := .ref T.heap.size :: rest, locked := none }) _
  jvm_step X₁.here [X₁.here.top, hexec, d3', Value.category]
  exact X₁.ldcString hexec (own := own) (text := text) (index := is) (a := sa) hown' hstr'.1 hstr'.2
    (g := { method := m, pc := pc + 4, locals := ls, stack := .ref T.heap.size :: .ref T.heap.size :: rest, locked := none }) rfl d4' _ hsteps
/-- 'throw new E("text")', the text by a wide index -/
theorem vx_throwSW {cc : ByteArray} {pc : Nat} (hexec : p.tables.exec = Jvm.exec) (hb : c.code = cc) (hl : l.stackTraces = false) {own cls text : String} {names : List String} {ik is ic mc ms sa : Nat} {A : Nat → Prop}
    (hown : s.vm.findClass own = some m.cls) (hcls : Bundle.fit cls = true) (hnames : ∀ n ∈ names, Bundle.fit n = true)
    (hk : (Cond.classLink own ik cls).before args s = true) (hini : (Cond.initialized cls).before args s = true) (hstr : vk_R own is text sa s) (hat : ∀ w ∈ vx_atS own ic cls names, w.before args s = true)
    (hgood : ∀ w ∈ Cond.classLink own ik cls :: Cond.initialized cls :: vx_atS own ic cls names, vx_ot w = true)
    (hU : vx_Zq Bundle.tN "UNASSIGNED_STACK" Bundle.steD A s s.heap) (hN : vx_Zq Bundle.tN "SUPPRESSED_SENTINEL" Bundle.listD A s s.heap) (hS : va_S A s.heap H locs) (hsize : ls.size = c.maxLocals)
    (d0 : decode cc pc = .ok (.new ik, 3)) (d3 : decode cc (pc + 3) = .ok (.dup, 1)) (d4 : decode cc (pc + 4) = .ok (.ldc_w is, 3)) (d7 : decode cc (pc + 7) = .ok (.invokespecial ic, 3)) (d10 : decode cc (pc + 10) = .ok (.athrow, 1))
    (hout : ∀ x ∈ c.exceptionTable.toList, covers x (pc + 10) = false)
    (hRframes : names.length + 3 < R.frames) (hRlocals : (rest.map fun v => v.category).sum + (13 * (names.length + 1) + 43) ≤ R.locals) (hRcells : cells + 1 ≤ R.cells) (hRslots : slots + 6 ≤ R.slots) (hlocks : meth.locks = false)
    (hx : ∀ t : State, s.vm.Alike t.vm → H.size ≤ t.heap.size → (∀ q : Nat, q < H.size → t.heap[q]? = H[q]?) → XC cls s t)
    (hf : ∀ z ∈ locs, free z.base) (hc : cells + 1 ≤ mc) (hs : slots + 6 ≤ ms) :
    W p l e R s m args below meth c H locs cells slots (vx_MQ below Qc XC args s mc ms free) (F0 m pc ls rest) := by
  intro T hT X
  have htr : e.platform.stackTraces = false := (show e.platform.stackTraces = l.stackTraces by rw [X.admits.platform]).trans hl
  have Y := vx_rebase X (R' := { frames := R.frames, locals := R.locals, cells := 1, slots := 6 }) (Nat.le_refl _) (Nat.le_refl _) hRcells hRslots
  obtain ⟨s', hA⟩ : ∃ z, z = (T.setVm s.vm).setFrames (.invoking m args :: below) := ⟨_, rfl⟩
  rw [← hA] at Y
  have hvm : s'.vm = s.vm := by rw [hA]; rfl
  have hhp : s'.heap = H := by rw [hA]; exact hT
  have hW0 : s.WarmedH s'.vm := by rw [hvm]; exact State.WarmedH.refl s
  have hat' : ∀ w ∈ vx_atS own ic cls names, w.before args s' = true := fun w hw => vx_ot_at hW0 hvm.symm (hgood w (List.mem_cons_of_mem _ (List.mem_cons_of_mem _ hw))) (hat w hw)
  have hk' : (Cond.classLink own ik cls).before args s' = true := vx_ot_at hW0 hvm.symm (hgood _ List.mem_cons_self) hk
  have hini' : (Cond.initialized cls).before args s' = true := vx_ot_at hW0 hvm.symm (hgood _ (List.mem_cons_of_mem _ List.mem_cons_self)) hini
  have hU' : vx_Zq Bundle.tN "UNASSIGNED_STACK" Bundle.steD A s' s'.heap := by rw [hhp]; exact vx_Zq.moved hW0.alike (hU.kept hS.2.1)
  have hN' : vx_Zq Bundle.tN "SUPPRESSED_SENTINEL" Bundle.listD A s' s'.heap := by rw [hhp]; exact vx_Zq.moved hW0.alike (hN.kept hS.2.1)
  have h : ∀ w ∈ Bundle.ownAtoms own ic cls names, w.before args s' = true := vx_own hat' (vx_isRefq hU'.1) (vx_isRefq hN'.1) hU'.2.word hN'.2.word
  have hown' : s'.vm.findClass own = some m.cls := by rw [hvm]; exact hown
  have hins : (Cond.instantiable cls 6).before args s' = true := h _ (by simp [Bundle.ownAtoms])
  obtain ⟨vm₁, cX, kX, hfX, hkX, -, -, X₁, st1⟩ := Y.newCold hexec (own := own) (C := cls) (index := ik) (n := 6) hown' hk' hins hini'
    (g := F0 m pc ls rest) rfl (by rw [hb]; exact d0) (Nat.le_refl _) (Nat.le_refl _)
  generalize hT1 : (T.setVm vm₁).pushCell { cls := cX, slots := kX.instanceTypes.map defaultValue, vm := .none } = T1 at X₁ st1
  have hcat : (Value.ref T.heap.size).category = 1 := rfl
  have hcellA : T1.heap[T.heap.size]? = some (freshCell cX kX) := by rw [← hT1]; exact State.heap_pushCell_size _ _
  have d3' : decode c.code (pc + 3) = .ok (.dup, 1) := by rw [hb]; exact d3
  have d4' : decode c.code (pc + 4) = .ok (.ldc_w is, 3) := by rw [hb]; exact d4
  have hstr' : vk_R own is text sa s' := vk_R.warm hW0 hstr
  obtain ⟨U, hsteps, hrun, hend, hW, hsame, ce, hce, hO⟩ := X₁.ctorThrowS hexec htr (own := own) (cls := cls) (names := names) (ic := ic) hown' hcls hnames h (fun x hx => nomatch hx) hfX hkX hcellA (by rw [hhp, hT]; exact Nat.le_refl _) (msg := .ref sa) rfl
    (g := { method := m, pc := pc + 7, locals := ls, stack := .ref sa :: .ref T.heap.size :: .ref T.heap.size :: rest, locked := none }) rfl hsize rfl rfl (rest := rest) rfl
    (by rw [hb]; exact d7) (by rw [hb]; exact d10) hout hRframes (by simp only [List.map_cons, List.sum_cons, hcat]; omega) hlocks
  obtain ⟨f1, f2⟩ := vx_frame hsame
  rw [hhp] at f1 f2
  have hWs : s.WarmedH U.vm := State.WarmedH.trans hW0 hW
  have hcl : s.vm.findClass cls = some ce.cls := by
    have h9 := hO.cls
    rw [hvm] at h9
    exact h9
  have hall : s.sameButNew ({ U with vm := s.vm } : State) locs mc ms := by
    subst hA
    obtain ⟨e1, e2⟩ := hsame
    rw [State.setFrames_setFrames] at e1
    have h2 : (T.setVm s.vm).sameButNew ({ U with vm := s.vm } : State) [] (0 + 1) (0 + 6) := ⟨e1, e2⟩
    have h3 := X.same.trans h2
    rw [List.append_nil] at h3
    exact h3.mono hc hs
  refine ⟨U, ?_, .threw T.heap.size, hrun, hend, Or.inr ⟨T.heap.size, rfl, cls, ce, locs, hx U hWs.alike f1 (fun q hq => f2 q hq (fun z hz => nomatch hz)), hce, hO.vm, hcl, hWs, hall, hf⟩⟩
  refine st1 _ ?_
  show Steps p.tables e below (T1.setTop { method := m, pc := pc + 3, locals := ls, stack := .ref T.heap.size :: rest, locked := none }) _
  jvm_step X₁.here [X₁.here.top, hexec, d3', Value.category]
  exact X₁.ldcStringW hexec (own := own) (text := text) (index := is) (a := sa) hown' hstr'.1 hstr'.2
    (g := { method := m, pc := pc + 4, locals := ls, stack := .ref T.heap.size :: .ref T.heap.size :: rest, locked := none }) rfl d4' _ hsteps
end Ends
section Bodies
variable {l : Launch}
theorem vx_ofW {y : MethodName} {ws ws' : List Cond} {rm : Room} {Pc : Array Value → State → Prop} {Qc : Array Value → State → Outcome → State → Prop} {XC : String → State → State → Prop} {mc ms : Nat} {free : Addr → Prop} {cc : ByteArray} {maxL : Nat} {ret : Option FieldType}
    (hy : plainName y.cls = true) (hw : ws = Cond.code y cc maxL ret :: ws')
    (body : ∀ p e s m args below meth c s₁, BodyLoose p l y (headSpec ws rm) cc maxL ret e s m args below meth c s₁ → c.maxLocals = maxL → (∀ x ∈ c.exceptionTable.toList, False) → Pc args s →
      W p l e (headSpec ws rm).room s m args below meth c s.heap [] 0 0 (vx_MQ below Qc XC args s mc ms free) (entryFrame m args maxL)) : vx_Met l y ws rm Pc Qc XC mc ms free := by
  refine MetFree.of_bodyS (code := cc) (maxLocals := maxL) (ret := ret) hy ?_ ?_
  · intro args s m h hn
    obtain ⟨meth, c, h1, h2, h3, h4, h5, h6, -, -⟩ := Cond.code_spec hn (atoms_spec (ws := ws) h _ (by rw [hw]; exact List.mem_cons_self))
    exact ⟨meth, c, h1, h2, h3, h4, h5, h6⟩
  · intro p e s m args below meth c s₁ B hml hP _
    have hh0 : s₁.heap = s.heap := by rw [B.state]; rfl
    have ht : ∀ x ∈ c.exceptionTable.toList, False := by
      obtain ⟨meth9, c9, h1, h2, -, -, -, -, h7, -⟩ := Cond.code_spec B.named (atoms_spec (ws := ws) B.pre _ (by rw [hw]; exact List.mem_cons_self))
      cases Option.some.inj (h1.symm.trans B.method)
      cases Option.some.inj (h2.symm.trans (Stand.of_body B).code)
      intro x hx
      rw [Array.isEmpty_iff.mp h7] at hx
      cases hx
    obtain ⟨t, a1, o, b1, b2, b3⟩ := body p e s m args below meth c s₁ B hml ht hP s₁ hh0 (Stand.of_body B)
    exact ⟨t, o, a1, b1, b2, b3⟩
/-- the table of a body with handlers -/
theorem vx_table {p : Program} {x y : MethodName} {S : Spec} {cc bytes : ByteArray} {maxL maxL' : Nat} {ret ret' : Option FieldType} {e : Env} {s s₁ : State} {m : MethodId} {args : Array Value} {below : List Frame} {meth : Method} {c : Code} {hh : List (Nat × Nat × Nat × Nat)}
    (B : BodyLoose p l y S cc maxL ret e s m args below meth c s₁) (h : (Cond.codeWith y bytes maxL' ret' hh).before args s = true) : c.exceptionTable.toList = tableOf hh := by
  obtain ⟨m9, meth9, c9, hn9, h1, h2, -, -, h6, -⟩ := Cond.codeWith_spec h
  cases Option.some.inj (hn9.symm.trans B.named)
  cases Option.some.inj (h1.symm.trans B.method)
  cases Option.some.inj (h2.symm.trans (Stand.of_body B).code)
  rw [← h6, table_eq]
end Bodies
end VXA
/-! ===== END ===== -/
/-! ===== BEGIN a static call of a method with an exception table ===== -/
section VXS
variable {p : Program} {l : Launch} {e : Env} {R : Room} {s : State} {m : MethodId} {args : Array Value} {below : List Frame} {meth : Method} {c : Code} {T : State} {H : Heap} {locs : List Loc} {cells slots : Nat}
abbrev vx_CSW (R : Room) (s : State) (args : Array Value) (own : String) (index : Nat) (y : MethodName) (bytes : ByteArray) (maxL : Nat) (ret : Option FieldType) (hh : List (Nat × Nat × Nat × Nat)) (ws : List Cond) (rm : Room) (mc ms n : Nat) : Prop :=
  (rm.cells = mc ∧ rm.slots = ms ∧ rm.frames + 1 ≤ R.frames ∧ 8 + (maxL + 11) + rm.locals ≤ R.locals ∧ (∀ w ∈ ws, ∀ (a' : Array Value) (U : State), s.WarmedH U.vm → w.before a' U = true) ∧ Cond.codeWith y bytes maxL ret hh ∈ ws) ∧
  (Cond.codeWith y bytes maxL ret hh).before args s = true ∧ (Cond.initialized y.cls).before args s = true ∧ (y.cls ≠ "java/lang/invoke/MethodHandle" ∧ y.cls ≠ "java/lang/invoke/VarHandle") ∧
  (∀ sig, parseMethodDescriptor y.desc = some sig → n = sig.parameters.length) ∧ (Cond.methodLink own index y).before args s = true ∧ (Cond.static y).before args s = true
theorem vx_cwSW {own : String} {index maxL mc ms : Nat} {y : MethodName} {bytes : ByteArray} {ret : Option FieldType} {hh : List (Nat × Nat × Nat × Nat)} {Ts ws ws' : List Cond} {rm : Room} (n : Nat) (ht : ∀ w ∈ Ts, w.before args s = true) (hT : GoodIn Ts (va_wsS own index y ws)) (hw : ws = Cond.codeWith y bytes maxL ret hh :: ws') (hrc : rm.cells = mc) (hrs : rm.slots = ms)
    (hd : y.cls ≠ "java/lang/invoke/MethodHandle" ∧ y.cls ≠ "java/lang/invoke/VarHandle" ∧ (parseMethodDescriptor y.desc).map (fun d => d.parameters.length) = some n) (hR : rm.frames + 1 ≤ R.frames ∧ 8 + (maxL + 11) + rm.locals ≤ R.locals) :
    vx_CSW R s args own index y bytes maxL ret hh ws rm mc ms n := by
  have ok : ∀ w ∈ va_wsS own index y ws, w.before args s = true := fun w h => ht w (hT w h).1
  have hG : GoodIn Ts ws := fun w h => hT w (by unfold va_wsS; exact List.mem_append_right _ h)
  have hc : Cond.codeWith y bytes maxL ret hh ∈ ws := by rw [hw]; exact List.mem_cons_self
  refine ⟨⟨hrc, hrs, hR.1, hR.2, pay_in ht hG, hc⟩, ht _ (hG _ hc).1, ok _ (by simp [va_wsS]), ⟨hd.1, hd.2.1⟩, fun sig h => ?_, ok _ (by simp [va_wsS]), ok _ (by simp [va_wsS])⟩
  have h2 := hd.2.2
  rw [h] at h2
  exact (Option.some.inj h2).symm
theorem vx_callSW (X : Stand p l e R s m args below meth c T locs cells slots) (hexec : p.tables.exec = Jvm.exec) {own : String} {index : Nat} {y : MethodName} {bytes : ByteArray} {maxL : Nat} {ret : Option FieldType} {hh : List (Nat × Nat × Nat × Nat)}
    (hown : s.vm.findClass own = some m.cls) (hlink : (Cond.methodLink own index y).before args s = true) (hstat : (Cond.static y).before args s = true) (hinit : (Cond.initialized y.cls).before args s = true)
    (hcode : (Cond.codeWith y bytes maxL ret hh).before args s = true) (hy : y.cls ≠ "java/lang/invoke/MethodHandle" ∧ y.cls ≠ "java/lang/invoke/VarHandle")
    {W9 : Nat} {Pre : Pt → Array Value → Prop} {Post : Pt → Array Value → Option Value → Pt → Prop} (hK : Back l R p e below s args y 3 W9 Pre Post)
    {g : JFrame} (hg : g.method = m) (hsize : g.locals.size = c.maxLocals) {argsL rest : List Value} (hlen : ∀ sig, parseMethodDescriptor y.desc = some sig → argsL.length = sig.parameters.length)
    (hstack : g.stack = argsL.reverse ++ rest) (hW : 2 * g.monitorRoom + (rest.map fun v => v.category).sum ≤ W9) (hdg : decode c.code g.pc = .ok (.invokestatic index, 3))
    (hpre : ∀ vm₁, s.WarmedH vm₁ → Pre ⟨T.setVm vm₁, locs, cells, slots⟩ argsL.toArray) :
    ∃ (v : Option Value) (vm₁ : Vm) (B : Pt), s.WarmedH vm₁ ∧ Stand p l e R s m args below meth c B.U B.locs B.cells B.slots ∧ Post ⟨T.setVm vm₁, locs, cells, slots⟩ argsL.toArray v B ∧
      ∀ target, Steps p.tables e below (B.U.setTop { g with pc := g.pc + 3, stack := v.toList ++ rest }) target → Steps p.tables e below (T.setTop g) target := by
  obtain ⟨mk, methM, cM, hnamed, hmethM, -, -, -, -, -, -, hsigM⟩ := Cond.codeWith_spec hcode
  have hstatic : methM.isStatic = true := Cond.static_spec hnamed hmethM hstat
  obtain ⟨kP, hkP, -⟩ := className_of_methodNamed hnamed
  have hinitP : kP.init = .initialized := Cond.initialized_spec (findClass_of_methodNamed hnamed) hkP hinit
  obtain ⟨vm₁, X₁, hstep₁⟩ := X.invokestatic hexec hown hlink hnamed hmethM hstatic hkP hinitP hy (g := g) hg (argsL := argsL) (rest := rest) (hlen _ hsigM) hstack hdg
  obtain ⟨v, B, X', hpost, hsteps⟩ := hK m meth c ⟨T.setVm vm₁, locs, cells, slots⟩ { g with stack := rest } (.invokestatic index) mk argsL.toArray X₁ hg hsize hdg hW (X₁.named hnamed) (hpre vm₁ X₁.warmed)
  exact ⟨v, vm₁, B, X₁.warmed, X', hpost, fun target h => hstep₁ _ fun acts => by rw [doInvoke_state]; exact hsteps.trans h⟩
theorem vx_runSW {y : MethodName} {bytes cc : ByteArray} {maxL nL mc ms n index : Nat} {ret : Option FieldType} {hh : List (Nat × Nat × Nat × Nat)} {ws : List Cond} {rm : Room} {Pc : Array Value → State → Prop} {Qc : Array Value → State → Outcome → State → Prop} {free : Addr → Prop} {Ts : List Cond} {own : String} {As rest : List Value} {g : JFrame}
    (S : CallFix p m c cc nL s args Ts own) (hM : Met l y ws rm Pc Qc mc ms free) (cw : vx_CSW R s args own index y bytes maxL ret hh ws rm mc ms n) (hp : PreS s H Pc As)
    (hg : g.method = m) (hn : As.length = n) (hsize : g.locals.size = nL) (hstack : g.stack = As.reverse ++ rest) (hW : 2 * g.monitorRoom + (rest.map fun v => v.category).sum ≤ 8) (hdg : decode cc g.pc = .ok (.invokestatic index, 3)) (hf : cells + mc ≤ R.cells ∧ slots + ms ≤ R.slots) :
    va_Run p l e R s m args below meth c H locs cells slots mc ms g rest (Qc As.toArray) (free) := by
  obtain ⟨⟨hrc, hrs, hfr, hlo, hws, hcw⟩, hcode, hini, hy, hlen, hl, hstt⟩ := cw
  have hK : Back l R p e below s args y 3 8 (PreOf R mc ms Pc) (PostOf Qc mc ms free) := va_backW (hh := hh) (bytes := bytes) (maxL := maxL) (ret := ret) hM hp.1 hrc hrs hfr hlo hws hcw (fun a' U hW => word_at hW (Or.inl (by first | rfl | simp [Cond.onTables, Cond.keeps, Cond.steady])) hini)
  obtain ⟨hx, hb, hml, ho, -⟩ := S
  intro T hT X
  obtain ⟨v, vm₁, ⟨U', l2, c2, s2⟩, hW₁, X', ⟨g', mk, t, L, e1, e2, hq, h1, hL, h2, h3⟩, st⟩ := vx_callSW X hx (hh := hh) (bytes := bytes) (maxL := maxL) (ret := ret) ho hl hstt hini hcode hy hK hg (hsize.trans hml.symm) (argsL := As) (rest := rest) (fun sig h => hn.trans (hlen sig h)) hstack hW (by rw [hb]; exact hdg)
    (fun vm₁ hW₁ => ⟨hf.1, hf.2, hp.2 (T.setVm vm₁) hT hW₁⟩)
  dsimp only [Pt.U, Pt.locs, Pt.cells, Pt.slots] at X' e1 e2 h1 h2 h3 st
  subst h1; subst h2; subst h3
  exact ⟨v, (T.setVm vm₁).calling g' mk As.toArray, t, U', L, hT, X', hL, e1, e2, hq, st⟩
/-- not caught here, past rows that name other classes: it goes on to the caller -/
theorem vx_outP {p : Program} {l : Launch} {e : Env} {R : Room} {s : State} {m : MethodId} {args : Array Value} {below : List Frame} {meth : Method} {c : Code} {H : Heap} {locs : List Loc} {cells slots : Nat} {free : Addr → Prop} {ls : Array Slot} {rest : List Value} {Qc : Array Value → State → Outcome → State → Prop} {XC : String → State → State → Prop}
    {pc : Nat} {own E : String} {ce : Cell} {q : Addr} {mc ms : Nat} (hown : s.vm.findClass own = some m.cls) (hlocks : meth.locks = false)
    (hpass : ∀ z ∈ c.exceptionTable.toList, covers z pc = false ∨ (z.catchType ≠ 0 ∧ ∃ nm : String, (Cond.classLink own z.catchType nm).before args s = true ∧ va_Nc E nm s)) (hcell : H[q]? = some ce) (hv : ce.vm = .none) (hcl : s.vm.findClass E = some ce.cls)
    (hx : ∀ t : State, t.heap = H → s.vm.Alike t.vm → XC E s t) (hf : ∀ z ∈ locs, free z.base) (hc : cells ≤ mc) (hs : slots ≤ ms) :
    vx_W p l e R s m args below meth c H locs cells slots (vx_MQ below Qc XC args s mc ms free) (F0 m pc ls rest) q := by
  intro T hT X
  have hpl : e.platform.magicAccessors = ({} : Platform).magicAccessors := by rw [X.admits.platform]
  obtain ⟨vm', hW', X', st⟩ := X.outThrough hlocks q (g := F0 m pc ls rest) rfl rfl rfl (cell := ce) (by rw [hT]; exact hcell) (by rw [hv]; rfl)
    (by obtain ⟨k9, h9, -⟩ := Vm.findClass_spec hcl; exact ⟨k9, h9⟩) (fun z hz => by
      rcases hpass z hz with h | ⟨hz0, nm, hl1, hn1⟩
      · exact Or.inl h
      · obtain ⟨c6, hc6, hcl6⟩ := Cond.classLink_spec hown hl1 e.platform hpl
        obtain ⟨a8, b8, h1, h2, h3⟩ := hn1
        cases Option.some.inj (h1.symm.trans hcl)
        cases Option.some.inj (h2.symm.trans hc6)
        exact Or.inr ⟨hz0, _, hcl6, h3⟩)
  obtain ⟨g₀, hfr⟩ := X'.frames_eq
  have hcell9 : ((T.setVm vm').setFrames (.throwing q :: below)).heap[q]? = some ce := by
    show T.heap[q]? = some ce
    rw [hT]; exact hcell
  have hend : Ended ((T.setVm vm').setFrames (.throwing q :: below)) below (.threw q) := State.frames_setFrames _ (State.cur_lt_of_frames hfr)
  refine ⟨(T.setVm vm').setFrames (.throwing q :: below), ?_, .threw q, X'.here.running, hend, Or.inr ⟨q, rfl, E, ce, locs, hx _ hT (X'.ends _).1.alike, hcell9, hv, hcl, (X'.ends _).1, (X'.ends _).2.mono hc hs, hf⟩⟩
  rw [X.pushThrowing_eq]
  exact st
/-- a thing of a world lies in the heap -/
theorem vx_lt {D : va_G} {cl : List vw_C} {ws : va_W} {H1 : Heap} (h : va_P D cl ws H1) {k : Nat} {q : Nat × va_E} (hk : ws[k]? = some q) : q.1 < H1.size := (h k q hk).lt
end VXS
/-! ===== END ===== -/
/-! ===== BEGIN methods with a table of their own: called by a name, returning or throwing ===== -/
section VXH
/-! vx_backW, vx_callVX, vx_callSX, vx_callVW, vx_runVW, vx_runVX, vx_runSX, vx_ofWH follow the same proofs as their sisters above (Free/Laws.lean, Shelf42/LK1.lean); vx_outP calls Shelf42/NT130.lean (outThrough). -/
section
variable {l : Launch} {R : Room} {p : Program} {e : Env} {below : List Frame} {s : State} {sargs : Array Value} {y : MethodName} {len W9 : Nat}
theorem vx_backW {ws : List Cond} {rm : Room} {Pc : Array Value → State → Prop} {Qc : Array Value → State → Outcome → State → Prop} {XC : String → State → State → Prop} {mc ms : Nat} {free : Addr → Prop} {bytes : ByteArray} {maxL : Nat} {ret : Option FieldType} {hh : List (Nat × Nat × Nat × Nat)}
    (hM : vx_Met l y ws rm Pc Qc XC mc ms free) (hblind : FrameBlind Pc) (hrc : rm.cells = mc) (hrs : rm.slots = ms)
    (hframes : rm.frames + 1 ≤ R.frames) (hlocals : W9 + (maxL + 11) + rm.locals ≤ R.locals)
    (hws : ∀ w ∈ ws, ∀ a' U, s.WarmedH U.vm → w.before a' U = true) (hcode : Cond.codeWith y bytes maxL ret hh ∈ ws) (hinit : ∀ a' U, s.WarmedH U.vm → (Cond.initialized y.cls).before a' U = true) :
    vx_Back l R p e below s sargs y len W9 (PreOf R mc ms Pc) (PostOf Qc mc ms free) (vx_Post XC mc ms free) := by
  intro m meth c A g ig mk a X hg hsize hdg hW hn hp
  have h1 : (headSpec ws rm).pre.before a A.U = true := atoms_intro fun w hw => hws w hw _ _ X.warmed
  have h2 : (Cond.codeWith y bytes maxL ret hh).before a A.U = true := hws _ hcode _ _ X.warmed
  have h3 : (Cond.initialized y.cls).before a A.U = true := hinit _ _ X.warmed
  have h4 : A.cells + (headSpec ws rm).room.cells ≤ R.cells := by rw [show (headSpec ws rm).room.cells = mc from hrc]; exact hp.1
  have h5 : A.slots + (headSpec ws rm).room.slots ≤ R.slots := by rw [show (headSpec ws rm).room.slots = ms from hrs]; exact hp.2.1
  have hPc : Pc a (A.U.calling g mk a) := hblind _ _ _ _ hp.2.2
  obtain ⟨U, Ls, c0, s0⟩ := A
  dsimp only [Pt.U, Pt.locs, Pt.cells, Pt.slots] at h1 h2 h3 h4 h5 X hn hPc ⊢
  obtain ⟨m9, methY, cY, hn9, hmY, hcY, -, hlY, -⟩ := Cond.codeWith_spec h2
  cases Option.some.inj (hn9.symm.trans hn)
  obtain ⟨kY, hkY, -⟩ := className_of_methodNamed hn
  have hinitY : kY.init = .initialized := Cond.initialized_spec (findClass_of_methodNamed hn) hkY h3
  have h : At U g.method c below := by rw [hg]; exact X.here
  have hlocals9 : W9 + (maxL + 11) + (headSpec ws rm).room.locals ≤ R.locals := hlocals
  have happ : (headSpec ws rm).appliesLoose y e.platform (U.calling g mk a) = true :=
    Spec.appliesLoose_calling (g := g) h hdg hn hkY hinitY
      (X.room_calling (g := g) (R' := (headSpec ws rm).room) hsize hmY hcY hframes (by rw [hlY]; omega) h4 h5) h1
  obtain ⟨mid, hmid⟩ := h.above
  have hfr : (U.setTop g).frames = (.java g :: mid) ++ below := by rw [State.frames_setTop' g h.top, hmid]; rfl
  obtain ⟨o, s₂, hsteps, -, hend, hq⟩ := Steps.callFree hM p X.admits X.cas X.clock (acts := []) hfr happ hPc trivial
  have hq' : vx_Q Qc XC mc ms free a (U.calling g mk a) o s₂ := hq
  rw [State.frames_setTop' g h.top] at hend
  obtain ⟨g₀, hg0⟩ := Option.isSome_iff_exists.mp h.top
  obtain ⟨r, hr⟩ := State.topJava?_eq_some.mp hg0
  have hr' : (({ U with heap := s₂.heap, slotsUsed := s₂.slotsUsed } : State).setVm s₂.vm).frames = .java g₀ :: r := hr
  rcases hq' with ⟨hqc, L, hfe, hL⟩ | ⟨q, rfl, E, ce, L, hx, hce, hcv, hcl, hW₂, hsm, hL⟩
  · obtain ⟨⟨v, rfl⟩, hW₂, e2, q2, q3, q4, q5, q6⟩ := id hfe
    have e3 : s₂ = ({ (U.calling g mk a).setFrames s₂.frames with heap := s₂.heap, slotsUsed := s₂.slotsUsed } : State).setVm s₂.vm := by
      have : s₂ = ({ s₂ with vm := (U.calling g mk a).vm } : State).setVm s₂.vm := rfl
      rw [e2] at this
      exact this
    obtain ⟨c₂, i₂, len₂, hc₂, hd₂, hf₂⟩ := hend
    have hW' : U.WarmedH s₂.vm := hW₂
    have hcc : c₂ = c := by
      have h1 : s₂.code? g.method = U.code? g.method := by
        rw [State.code?_eq, State.code?_eq, hW'.alike.method?]
      exact Option.some.inj (hc₂.symm.trans (h1.trans h.code))
    subst hcc
    have hlen : len₂ = len := by rw [hdg] at hd₂; cases hd₂; rfl
    subst hlen
    have hs₂ : s₂ = (({ U with heap := s₂.heap, slotsUsed := s₂.slotsUsed } : State).setVm s₂.vm).setTop { g with pc := g.pc + len₂, stack := v.toList ++ g.stack } := by
      refine e3.trans ?_
      rw [hf₂, State.calling_eq h.top, State.setFrames_setFrames, State.setTop_of_frames _ hr', hr]
      rfl
    have hsame : U.sameButNew ({ U with heap := s₂.heap, slotsUsed := s₂.slotsUsed } : State) L mc ms := by
      refine ⟨?_, q2, q3, q4, q5, q6⟩
      obtain ⟨t, ht, -⟩ := State.frames_cons hr
      show ({ U with heap := s₂.heap, slotsUsed := s₂.slotsUsed } : State) = { U.setFrames U.frames with heap := s₂.heap, slotsUsed := s₂.slotsUsed }
      rw [State.setFrames_self ht]
    subst hg
    refine Or.inl ⟨v, ⟨(({ U with heap := s₂.heap, slotsUsed := s₂.slotsUsed } : State).setVm s₂.vm), Ls ++ L, c0 + mc, s0 + ms⟩,
      ⟨X.admits, X.cas, X.clock, X.frames, X.room, X.hears, X.method, X.code, (X.here.setHeapUsed s₂.heap s₂.slotsUsed).setVm hW'.alike, X.tail, State.WarmedH.trans X.warmed hW', X.limits, X.bytes, X.same.trans (hsame.setVm s.vm)⟩,
      ⟨g, mk, s₂, L, rfl, rfl, hqc, rfl, hL, rfl, rfl⟩, ?_⟩
    show Steps p.tables e below _ ((({ U with heap := s₂.heap, slotsUsed := s₂.slotsUsed } : State).setVm s₂.vm).setTop { g with pc := g.pc + len₂, stack := v.toList ++ g.stack })
    rw [← hs₂]
    exact hsteps
  · obtain ⟨e2, q2, q3, q4, q5, q6⟩ := id hsm
    have e3 : s₂ = ({ (U.calling g mk a).setFrames s₂.frames with heap := s₂.heap, slotsUsed := s₂.slotsUsed } : State).setVm s₂.vm := by
      have : s₂ = ({ s₂ with vm := (U.calling g mk a).vm } : State).setVm s₂.vm := rfl
      rw [e2] at this
      exact this
    have hf₂ : s₂.frames = .throwing q :: .java g :: U.frames.tail := hend
    have hW' : U.WarmedH s₂.vm := hW₂
    have hs₂ : s₂ = ((({ U with heap := s₂.heap, slotsUsed := s₂.slotsUsed } : State).setVm s₂.vm).setTop g).pushFrame (.throwing q) := by
      refine e3.trans ?_
      rw [hf₂, State.calling_eq h.top, State.setFrames_setFrames, State.pushFrame, State.frames_setTop _ hr', State.setTop_of_frames _ hr', State.setFrames_setFrames, hr]
      rfl
    have hsame : U.sameButNew ({ U with heap := s₂.heap, slotsUsed := s₂.slotsUsed } : State) L mc ms := by
      refine ⟨?_, q2, q3, q4, q5, q6⟩
      obtain ⟨t, ht, -⟩ := State.frames_cons hr
      show ({ U with heap := s₂.heap, slotsUsed := s₂.slotsUsed } : State) = { U.setFrames U.frames with heap := s₂.heap, slotsUsed := s₂.slotsUsed }
      rw [State.setFrames_self ht]
    subst hg
    refine Or.inr ⟨q, ⟨(({ U with heap := s₂.heap, slotsUsed := s₂.slotsUsed } : State).setVm s₂.vm), Ls ++ L, c0 + mc, s0 + ms⟩,
      ⟨X.admits, X.cas, X.clock, X.frames, X.room, X.hears, X.method, X.code, (X.here.setHeapUsed s₂.heap s₂.slotsUsed).setVm hW'.alike, X.tail, State.WarmedH.trans X.warmed hW', X.limits, X.bytes, X.same.trans (hsame.setVm s.vm)⟩,
      ⟨g, mk, s₂, L, E, ce, rfl, rfl, hx, hce, hcv, hcl, rfl, hL, rfl, rfl⟩, ?_⟩
    show Steps p.tables e below _ (((({ U with heap := s₂.heap, slotsUsed := s₂.slotsUsed } : State).setVm s₂.vm).setTop g).pushFrame (.throwing q))
    rw [← hs₂]
    exact hsteps
end
variable {p : Program} {l : Launch} {e : Env} {R : Room} {s : State} {m : MethodId} {args : Array Value} {below : List Frame} {meth : Method} {c : Code} {T : State} {H : Heap} {locs : List Loc} {cells slots : Nat}
theorem vx_callVX (X : Stand p l e R s m args below meth c T locs cells slots) (hexec : p.tables.exec = Jvm.exec) {own C : String} {index : Nat} {y : MethodName} {bytes : ByteArray} {maxL : Nat} {ret : Option FieldType} {hh : List (Nat × Nat × Nat × Nat)}
    (hown : s.vm.findClass own = some m.cls) (hlink : (Cond.methodLink own index y).before args s = true) (hinst : (Cond.instanceMethod y).before args s = true) (hsel : (Cond.selects C y y).before args s = true)
    (hcode : (Cond.codeWith y bytes maxL ret hh).before args s = true) (hy : y.cls ≠ "java/lang/invoke/MethodHandle" ∧ y.cls ≠ "java/lang/invoke/VarHandle")
    {W9 : Nat} {Pre : Pt → Array Value → Prop} {Post : Pt → Array Value → Option Value → Pt → Prop} {PostX : Pt → Array Value → Addr → Pt → Prop} (hK : vx_Back l R p e below s args y 3 W9 Pre Post PostX)
    {b : Addr} {cellB : Cell} (hcell : T.heap[b]? = some cellB) (hobj : cellB.vm.isStatics = false) (hcls : s.vm.findClass C = some cellB.cls)
    {g : JFrame} (hg : g.method = m) (hsize : g.locals.size = c.maxLocals) {argsL rest : List Value} (hlen : ∀ sig, parseMethodDescriptor y.desc = some sig → argsL.length = sig.parameters.length)
    (hstack : g.stack = argsL.reverse ++ .ref b :: rest) (hW : 2 * g.monitorRoom + (rest.map fun v => v.category).sum ≤ W9) (hdg : decode c.code g.pc = .ok (.invokevirtual index, 3))
    (hpre : ∀ vm₁, s.WarmedH vm₁ → Pre ⟨T.setVm vm₁, locs, cells, slots⟩ (Value.ref b :: argsL).toArray) :
    (∃ (v : Option Value) (vm₁ : Vm) (B : Pt), s.WarmedH vm₁ ∧ Stand p l e R s m args below meth c B.U B.locs B.cells B.slots ∧ Post ⟨T.setVm vm₁, locs, cells, slots⟩ (Value.ref b :: argsL).toArray v B ∧
      ∀ target, Steps p.tables e below (B.U.setTop { g with pc := g.pc + 3, stack := v.toList ++ rest }) target → Steps p.tables e below (T.setTop g) target) ∨
    (∃ (q : Addr) (vm₁ : Vm) (B : Pt), s.WarmedH vm₁ ∧ Stand p l e R s m args below meth c B.U B.locs B.cells B.slots ∧ PostX ⟨T.setVm vm₁, locs, cells, slots⟩ (Value.ref b :: argsL).toArray q B ∧
      Steps p.tables e below (T.setTop g) ((B.U.setTop { g with stack := rest }).pushFrame (.throwing q))) := by
  obtain ⟨mk, methM, hnamed, hmethM, hstM, habM⟩ := Cond.instanceMethod_spec hinst
  obtain ⟨m8, methM', cM, hn8, hmethM', -, -, -, -, -, -, hsigM⟩ := Cond.codeWith_spec hcode
  cases Option.some.inj (hn8.symm.trans hnamed)
  cases hmethM.symm.trans hmethM'
  obtain ⟨c2, r2, m2, q1, q2, q3, q4, kP, hkP, hkPi⟩ := Cond.selects_spec hsel
  cases hcls.symm.trans q1
  cases (State.methodFound?_of_named hnamed hy).symm.trans q2
  cases hnamed.symm.trans q3
  have hselP : selectMethod e.platform s.vm cellB.cls mk = .method mk := by rw [Launch.admits_selectMethod X.admits]; exact q4
  obtain ⟨vm₁, X₁, hstep₁⟩ := X.invokevirtual hexec hown hlink hnamed hmethM hstM hkP hkPi hy (a := b) (cell := cellB) hcell
    (fun z h => by rw [h] at hobj; cases hobj) hselP hmethM habM hkP hkPi (g := g) hg (argsL := argsL) (rest := rest) (hlen _ hsigM) hstack hdg
  rcases hK m meth c ⟨T.setVm vm₁, locs, cells, slots⟩ { g with stack := rest } (.invokevirtual index) mk (Value.ref b :: argsL).toArray X₁ hg hsize hdg hW (X₁.named hnamed) (hpre vm₁ X₁.warmed) with ⟨v, B, X', hpost, hsteps⟩ | ⟨q, B, X', hpost, hsteps⟩
  · exact Or.inl ⟨v, vm₁, B, X₁.warmed, X', hpost, fun target h => hstep₁ _ fun acts => by rw [doInvoke_state]; exact hsteps.trans h⟩
  · exact Or.inr ⟨q, vm₁, B, X₁.warmed, X', hpost, hstep₁ _ fun acts => by rw [doInvoke_state]; exact hsteps⟩
theorem vx_callSX (X : Stand p l e R s m args below meth c T locs cells slots) (hexec : p.tables.exec = Jvm.exec) {own : String} {index : Nat} {y : MethodName} {bytes : ByteArray} {maxL : Nat} {ret : Option FieldType} {hh : List (Nat × Nat × Nat × Nat)}
    (hown : s.vm.findClass own = some m.cls) (hlink : (Cond.methodLink own index y).before args s = true) (hstat : (Cond.static y).before args s = true) (hinit : (Cond.initialized y.cls).before args s = true)
    (hcode : (Cond.codeWith y bytes maxL ret hh).before args s = true) (hy : y.cls ≠ "java/lang/invoke/MethodHandle" ∧ y.cls ≠ "java/lang/invoke/VarHandle")
    {W9 : Nat} {Pre : Pt → Array Value → Prop} {Post : Pt → Array Value → Option Value → Pt → Prop} {PostX : Pt → Array Value → Addr → Pt → Prop} (hK : vx_Back l R p e below s args y 3 W9 Pre Post PostX)
    {g : JFrame} (hg : g.method = m) (hsize : g.locals.size = c.maxLocals) {argsL rest : List Value} (hlen : ∀ sig, parseMethodDescriptor y.desc = some sig → argsL.length = sig.parameters.length)
    (hstack : g.stack = argsL.reverse ++ rest) (hW : 2 * g.monitorRoom + (rest.map fun v => v.category).sum ≤ W9) (hdg : decode c.code g.pc = .ok (.invokestatic index, 3))
    (hpre : ∀ vm₁, s.WarmedH vm₁ → Pre ⟨T.setVm vm₁, locs, cells, slots⟩ argsL.toArray) :
    (∃ (v : Option Value) (vm₁ : Vm) (B : Pt), s.WarmedH vm₁ ∧ Stand p l e R s m args below meth c B.U B.locs B.cells B.slots ∧ Post ⟨T.setVm vm₁, locs, cells, slots⟩ argsL.toArray v B ∧
      ∀ target, Steps p.tables e below (B.U.setTop { g with pc := g.pc + 3, stack := v.toList ++ rest }) target → Steps p.tables e below (T.setTop g) target) ∨
    (∃ (q : Addr) (vm₁ : Vm) (B : Pt), s.WarmedH vm₁ ∧ Stand p l e R s m args below meth c B.U B.locs B.cells B.slots ∧ PostX ⟨T.setVm vm₁, locs, cells, slots⟩ argsL.toArray q B ∧
      Steps p.tables e below (T.setTop g) ((B.U.setTop { g with stack := rest }).pushFrame (.throwing q))) := by
  obtain ⟨mk, methM, cM, hnamed, hmethM, -, -, -, -, -, -, hsigM⟩ := Cond.codeWith_spec hcode
  have hstatic : methM.isStatic = true := Cond.static_spec hnamed hmethM hstat
  obtain ⟨kP, hkP, -⟩ := className_of_methodNamed hnamed
  have hinitP : kP.init = .initialized := Cond.initialized_spec (findClass_of_methodNamed hnamed) hkP hinit
  obtain ⟨vm₁, X₁, hstep₁⟩ := X.invokestatic hexec hown hlink hnamed hmethM hstatic hkP hinitP hy (g := g) hg (argsL := argsL) (rest := rest) (hlen _ hsigM) hstack hdg
  rcases hK m meth c ⟨T.setVm vm₁, locs, cells, slots⟩ { g with stack := rest } (.invokestatic index) mk argsL.toArray X₁ hg hsize hdg hW (X₁.named hnamed) (hpre vm₁ X₁.warmed) with ⟨v, B, X', hpost, hsteps⟩ | ⟨q, B, X', hpost, hsteps⟩
  · exact Or.inl ⟨v, vm₁, B, X₁.warmed, X', hpost, fun target h => hstep₁ _ fun acts => by rw [doInvoke_state]; exact hsteps.trans h⟩
  · exact Or.inr ⟨q, vm₁, B, X₁.warmed, X', hpost, hstep₁ _ fun acts => by rw [doInvoke_state]; exact hsteps⟩
theorem vx_callVW (X : Stand p l e R s m args below meth c T locs cells slots) (hexec : p.tables.exec = Jvm.exec) {own C : String} {index : Nat} {y : MethodName} {bytes : ByteArray} {maxL : Nat} {ret : Option FieldType} {hh : List (Nat × Nat × Nat × Nat)}
    (hown : s.vm.findClass own = some m.cls) (hlink : (Cond.methodLink own index y).before args s = true) (hinst : (Cond.instanceMethod y).before args s = true) (hsel : (Cond.selects C y y).before args s = true)
    (hcode : (Cond.codeWith y bytes maxL ret hh).before args s = true) (hy : y.cls ≠ "java/lang/invoke/MethodHandle" ∧ y.cls ≠ "java/lang/invoke/VarHandle")
    {W9 : Nat} {Pre : Pt → Array Value → Prop} {Post : Pt → Array Value → Option Value → Pt → Prop} (hK : Back l R p e below s args y 3 W9 Pre Post)
    {b : Addr} {cellB : Cell} (hcell : T.heap[b]? = some cellB) (hobj : cellB.vm.isStatics = false) (hcls : s.vm.findClass C = some cellB.cls)
    {g : JFrame} (hg : g.method = m) (hsize : g.locals.size = c.maxLocals) {argsL rest : List Value} (hlen : ∀ sig, parseMethodDescriptor y.desc = some sig → argsL.length = sig.parameters.length)
    (hstack : g.stack = argsL.reverse ++ .ref b :: rest) (hW : 2 * g.monitorRoom + (rest.map fun v => v.category).sum ≤ W9) (hdg : decode c.code g.pc = .ok (.invokevirtual index, 3))
    (hpre : ∀ vm₁, s.WarmedH vm₁ → Pre ⟨T.setVm vm₁, locs, cells, slots⟩ (Value.ref b :: argsL).toArray) :
    ∃ (v : Option Value) (vm₁ : Vm) (B : Pt), s.WarmedH vm₁ ∧ Stand p l e R s m args below meth c B.U B.locs B.cells B.slots ∧ Post ⟨T.setVm vm₁, locs, cells, slots⟩ (Value.ref b :: argsL).toArray v B ∧
      ∀ target, Steps p.tables e below (B.U.setTop { g with pc := g.pc + 3, stack := v.toList ++ rest }) target → Steps p.tables e below (T.setTop g) target := by
  obtain ⟨mk, methM, hnamed, hmethM, hstM, habM⟩ := Cond.instanceMethod_spec hinst
  obtain ⟨m8, methM', cM, hn8, hmethM', -, -, -, -, -, -, hsigM⟩ := Cond.codeWith_spec hcode
  cases Option.some.inj (hn8.symm.trans hnamed)
  cases hmethM.symm.trans hmethM'
  obtain ⟨c2, r2, m2, q1, q2, q3, q4, kP, hkP, hkPi⟩ := Cond.selects_spec hsel
  cases hcls.symm.trans q1
  cases (State.methodFound?_of_named hnamed hy).symm.trans q2
  cases hnamed.symm.trans q3
  have hselP : selectMethod e.platform s.vm cellB.cls mk = .method mk := by rw [Launch.admits_selectMethod X.admits]; exact q4
  obtain ⟨vm₁, X₁, hstep₁⟩ := X.invokevirtual hexec hown hlink hnamed hmethM hstM hkP hkPi hy (a := b) (cell := cellB) hcell
    (fun z h => by rw [h] at hobj; cases hobj) hselP hmethM habM hkP hkPi (g := g) hg (argsL := argsL) (rest := rest) (hlen _ hsigM) hstack hdg
  obtain ⟨v, B, X', hpost, hsteps⟩ := hK m meth c ⟨T.setVm vm₁, locs, cells, slots⟩ { g with stack := rest } (.invokevirtual index) mk (Value.ref b :: argsL).toArray X₁ hg hsize hdg hW (X₁.named hnamed) (hpre vm₁ X₁.warmed)
  exact ⟨v, vm₁, B, X₁.warmed, X', hpost, fun target h => hstep₁ _ fun acts => by rw [doInvoke_state]; exact hsteps.trans h⟩
abbrev vx_CVW (R : Room) (s : State) (args : Array Value) (own C : String) (index : Nat) (y : MethodName) (bytes : ByteArray) (maxL : Nat) (ret : Option FieldType) (hh : List (Nat × Nat × Nat × Nat)) (ws : List Cond) (rm : Room) (mc ms n : Nat) : Prop :=
  (rm.cells = mc ∧ rm.slots = ms ∧ rm.frames + 1 ≤ R.frames ∧ 8 + (maxL + 11) + rm.locals ≤ R.locals ∧ (∀ w ∈ ws, ∀ (a' : Array Value) (U : State), s.WarmedH U.vm → w.before a' U = true) ∧ Cond.codeWith y bytes maxL ret hh ∈ ws) ∧
  (Cond.codeWith y bytes maxL ret hh).before args s = true ∧ (Cond.initialized y.cls).before args s = true ∧ (y.cls ≠ "java/lang/invoke/MethodHandle" ∧ y.cls ≠ "java/lang/invoke/VarHandle") ∧
  (∀ sig, parseMethodDescriptor y.desc = some sig → n = sig.parameters.length) ∧ (Cond.methodLink own index y).before args s = true ∧ (Cond.instanceMethod y).before args s = true ∧ (Cond.selects C y y).before args s = true
theorem vx_cwVW {own C : String} {index maxL mc ms : Nat} {y : MethodName} {bytes : ByteArray} {ret : Option FieldType} {hh : List (Nat × Nat × Nat × Nat)} {Ts ws ws' : List Cond} {rm : Room} (n : Nat) (ht : ∀ w ∈ Ts, w.before args s = true) (hT : GoodIn Ts (wsV own index C y ws)) (hw : ws = Cond.codeWith y bytes maxL ret hh :: ws') (hrc : rm.cells = mc) (hrs : rm.slots = ms)
    (hd : y.cls = C ∧ y.cls ≠ "java/lang/invoke/MethodHandle" ∧ y.cls ≠ "java/lang/invoke/VarHandle" ∧ (parseMethodDescriptor y.desc).map (fun d => d.parameters.length) = some n) (hR : rm.frames + 1 ≤ R.frames ∧ 8 + (maxL + 11) + rm.locals ≤ R.locals) :
    vx_CVW R s args own C index y bytes maxL ret hh ws rm mc ms n := by
  obtain ⟨hC, hd⟩ := hd
  subst hC
  have ok : ∀ w ∈ wsV own index y.cls y ws, w.before args s = true := fun w h => ht w (hT w h).1
  have hG : GoodIn Ts ws := fun w h => hT w (by unfold wsV; exact List.mem_append_right _ h)
  have hc : Cond.codeWith y bytes maxL ret hh ∈ ws := by rw [hw]; exact List.mem_cons_self
  refine ⟨⟨hrc, hrs, hR.1, hR.2, pay_in ht hG, hc⟩, ht _ (hG _ hc).1, ok _ (by simp [wsV]), ⟨hd.1, hd.2.1⟩, fun sig h => ?_, ok _ (by simp [wsV]), ok _ (by simp [wsV]), ok _ (by simp [wsV])⟩
  have h2 := hd.2.2
  rw [h] at h2
  exact (Option.some.inj h2).symm
theorem vx_runVW {y : MethodName} {bytes cc : ByteArray} {maxL nL mc ms n index : Nat} {ret : Option FieldType} {hh : List (Nat × Nat × Nat × Nat)} {ws : List Cond} {rm : Room} {Pc : Array Value → State → Prop} {Qc : Array Value → State → Outcome → State → Prop} {free : Addr → Prop} {Ts : List Cond} {own C : String} {b : Addr} {As rest : List Value} {g : JFrame}
    (S : CallFix p m c cc nL s args Ts own) (hM : Met l y ws rm Pc Qc mc ms free) (cw : vx_CVW R s args own C index y bytes maxL ret hh ws rm mc ms n) (hp : PreV s H C b Pc As)
    (hg : g.method = m) (hn : As.length = n) (hsize : g.locals.size = nL) (hstack : g.stack = As.reverse ++ .ref b :: rest) (hW : 2 * g.monitorRoom + (rest.map fun v => v.category).sum ≤ 8) (hdg : decode cc g.pc = .ok (.invokevirtual index, 3)) (hf : cells + mc ≤ R.cells ∧ slots + ms ≤ R.slots) :
    va_Run p l e R s m args below meth c H locs cells slots mc ms g rest (Qc (Value.ref b :: As).toArray) free := by
  obtain ⟨⟨hrc, hrs, hfr, hlo, hws, hcw⟩, hcode, hini, hy, hlen, hl, hin, hse⟩ := cw
  have hK : Back l R p e below s args y 3 8 (PreOf R mc ms Pc) (PostOf Qc mc ms free) := va_backW (hh := hh) (bytes := bytes) (maxL := maxL) (ret := ret) hM hp.1 hrc hrs hfr hlo hws hcw (fun a' U hW => word_at hW (Or.inl (by first | rfl | simp [Cond.onTables, Cond.keeps, Cond.steady])) hini)
  obtain ⟨hx, hb, hml, ho, -⟩ := S
  obtain ⟨-, ⟨cellB, hcB, hoB, hclB⟩, hPc⟩ := hp
  intro T hT X
  obtain ⟨v, vm₁, ⟨U', l2, c2, s2⟩, hW₁, X', ⟨g', mk, t, L, e1, e2, hq, h1, hL, h2, h3⟩, st⟩ := vx_callVW X hx (C := C) (hh := hh) (bytes := bytes) (maxL := maxL) (ret := ret) ho hl hin hse hcode hy hK (by rw [hT]; exact hcB) hoB hclB hg (hsize.trans hml.symm) (argsL := As) (rest := rest) (fun sig h => hn.trans (hlen sig h)) hstack hW (by rw [hb]; exact hdg)
    (fun vm₁ hW₁ => ⟨hf.1, hf.2, hPc (T.setVm vm₁) hT hW₁⟩)
  dsimp only [Pt.U, Pt.locs, Pt.cells, Pt.slots] at X' e1 e2 h1 h2 h3 st
  subst h1; subst h2; subst h3
  exact ⟨v, (T.setVm vm₁).calling g' mk (Value.ref b :: As).toArray, t, U', L, hT, X', hL, e1, e2, hq, st⟩
section
variable {y : MethodName} {bytes cc : ByteArray} {maxL nL mc ms n index : Nat} {ret : Option FieldType} {ws : List Cond} {rm : Room} {Pc : Array Value → State → Prop} {Qc : Array Value → State → Outcome → State → Prop} {XC : String → State → State → Prop} {free : Addr → Prop} {Ts : List Cond} {own C : String} {b : Addr} {As rest : List Value} {g : JFrame}
theorem vx_runVX {hh : List (Nat × Nat × Nat × Nat)} (S : CallFix p m c cc nL s args Ts own) (hM : vx_Met l y ws rm Pc Qc XC mc ms free) (cw : vx_CVW R s args own C index y bytes maxL ret hh ws rm mc ms n) (hp : PreV s H C b Pc As)
    (hg : g.method = m) (hn : As.length = n) (hsize : g.locals.size = nL) (hstack : g.stack = As.reverse ++ .ref b :: rest) (hW : 2 * g.monitorRoom + (rest.map fun v => v.category).sum ≤ 8) (hdg : decode cc g.pc = .ok (.invokevirtual index, 3)) (hf : cells + mc ≤ R.cells ∧ slots + ms ≤ R.slots) :
    vx_Run p l e R s m args below meth c H locs cells slots mc ms g rest (Qc (Value.ref b :: As).toArray) XC free := by
  obtain ⟨⟨hrc, hrs, hfr, hlo, hws, hcw⟩, hcode, hini, hy, hlen, hl, hin, hse⟩ := cw
  have hK : vx_Back l R p e below s args y 3 8 (PreOf R mc ms Pc) (PostOf Qc mc ms free) (vx_Post XC mc ms free) := vx_backW (hh := hh) (bytes := bytes) (maxL := maxL) (ret := ret) hM hp.1 hrc hrs hfr hlo hws hcw (fun a' U hW => word_at hW (Or.inl (by first | rfl | simp [Cond.onTables, Cond.keeps, Cond.steady])) hini)
  obtain ⟨hx, hb, hml, ho, -⟩ := S
  obtain ⟨-, ⟨cellB, hcB, hoB, hclB⟩, hPc⟩ := hp
  intro T hT X
  rcases vx_callVX X hx (C := C) (hh := hh) (bytes := bytes) (maxL := maxL) (ret := ret) ho hl hin hse hcode hy hK (by rw [hT]; exact hcB) hoB hclB hg (hsize.trans hml.symm) (argsL := As) (rest := rest) (fun sig h => hn.trans (hlen sig h)) hstack hW (by rw [hb]; exact hdg)
    (fun vm₁ hW₁ => ⟨hf.1, hf.2, hPc (T.setVm vm₁) hT hW₁⟩) with ⟨v, vm₁, ⟨U', l2, c2, s2⟩, hW₁, X', ⟨g', mk, t, L, e1, e2, hq, h1, hL, h2, h3⟩, st⟩ | ⟨q, vm₁, ⟨U', l2, c2, s2⟩, hW₁, X', ⟨g', mk, t, L, E, ce, e1, e2, hq, hce, hcv, hcl, h1, hL, h2, h3⟩, st⟩
  · dsimp only [Pt.U, Pt.locs, Pt.cells, Pt.slots] at X' e1 e2 h1 h2 h3 st
    subst h1; subst h2; subst h3
    exact Or.inl ⟨v, (T.setVm vm₁).calling g' mk (Value.ref b :: As).toArray, t, U', L, hT, X', hL, e1, e2, hq, st⟩
  · dsimp only [Pt.U, Pt.locs, Pt.cells, Pt.slots] at X' e1 e2 h1 h2 h3 st hcl
    subst h1; subst h2; subst h3
    exact Or.inr ⟨q, (T.setVm vm₁).calling g' mk (Value.ref b :: As).toArray, t, U', L, E, ce, hT, X', hL, e1, e2, hq, hce, hcv, vx_cls hW₁ hcl, st⟩
theorem vx_runSX {hh : List (Nat × Nat × Nat × Nat)} (S : CallFix p m c cc nL s args Ts own) (hM : vx_Met l y ws rm Pc Qc XC mc ms free) (cw : vx_CSW R s args own index y bytes maxL ret hh ws rm mc ms n) (hp : PreS s H Pc As)
    (hg : g.method = m) (hn : As.length = n) (hsize : g.locals.size = nL) (hstack : g.stack = As.reverse ++ rest) (hW : 2 * g.monitorRoom + (rest.map fun v => v.category).sum ≤ 8) (hdg : decode cc g.pc = .ok (.invokestatic index, 3)) (hf : cells + mc ≤ R.cells ∧ slots + ms ≤ R.slots) :
    vx_Run p l e R s m args below meth c H locs cells slots mc ms g rest (Qc As.toArray) XC free := by
  obtain ⟨⟨hrc, hrs, hfr, hlo, hws, hcw⟩, hcode, hini, hy, hlen, hl, hstt⟩ := cw
  have hK : vx_Back l R p e below s args y 3 8 (PreOf R mc ms Pc) (PostOf Qc mc ms free) (vx_Post XC mc ms free) := vx_backW (hh := hh) (bytes := bytes) (maxL := maxL) (ret := ret) hM hp.1 hrc hrs hfr hlo hws hcw (fun a' U hW => word_at hW (Or.inl (by first | rfl | simp [Cond.onTables, Cond.keeps, Cond.steady])) hini)
  obtain ⟨hx, hb, hml, ho, -⟩ := S
  intro T hT X
  rcases vx_callSX X hx (hh := hh) (bytes := bytes) (maxL := maxL) (ret := ret) ho hl hstt hini hcode hy hK hg (hsize.trans hml.symm) (argsL := As) (rest := rest) (fun sig h => hn.trans (hlen sig h)) hstack hW (by rw [hb]; exact hdg)
    (fun vm₁ hW₁ => ⟨hf.1, hf.2, hp.2 (T.setVm vm₁) hT hW₁⟩) with ⟨v, vm₁, ⟨U', l2, c2, s2⟩, hW₁, X', ⟨g', mk, t, L, e1, e2, hq, h1, hL, h2, h3⟩, st⟩ | ⟨q, vm₁, ⟨U', l2, c2, s2⟩, hW₁, X', ⟨g', mk, t, L, E, ce, e1, e2, hq, hce, hcv, hcl, h1, hL, h2, h3⟩, st⟩
  · dsimp only [Pt.U, Pt.locs, Pt.cells, Pt.slots] at X' e1 e2 h1 h2 h3 st
    subst h1; subst h2; subst h3
    exact Or.inl ⟨v, (T.setVm vm₁).calling g' mk As.toArray, t, U', L, hT, X', hL, e1, e2, hq, st⟩
  · dsimp only [Pt.U, Pt.locs, Pt.cells, Pt.slots] at X' e1 e2 h1 h2 h3 st hcl
    subst h1; subst h2; subst h3
    exact Or.inr ⟨q, (T.setVm vm₁).calling g' mk As.toArray, t, U', L, E, ce, hT, X', hL, e1, e2, hq, hce, hcv, vx_cls hW₁ hcl, st⟩
end
end VXH
theorem vx_ofWH {l : Launch} {y : MethodName} {ws ws' : List Cond} {rm : Room} {Pc : Array Value → State → Prop} {Qc : Array Value → State → Outcome → State → Prop} {XC : String → State → State → Prop} {mc ms : Nat} {free : Addr → Prop} {cc : ByteArray} {maxL : Nat} {ret : Option FieldType} {hh : List (Nat × Nat × Nat × Nat)}
    (hy : plainName y.cls = true) (hw : ws = Cond.codeWith y cc maxL ret hh :: ws')
    (body : ∀ p e s m args below meth c s₁, BodyLoose p l y (headSpec ws rm) cc maxL ret e s m args below meth c s₁ → c.maxLocals = maxL → Pc args s →
      W p l e (headSpec ws rm).room s m args below meth c s.heap [] 0 0 (vx_MQ below Qc XC args s mc ms free) (entryFrame m args maxL)) : vx_Met l y ws rm Pc Qc XC mc ms free := by
  refine MetFree.of_bodyS (code := cc) (maxLocals := maxL) (ret := ret) hy ?_ ?_
  · intro args s m h hn
    obtain ⟨m9, meth, c, hn9, h1, h2, h3, h4, -, h5, h6, -⟩ := Cond.codeWith_spec (atoms_spec (ws := ws) h _ (by rw [hw]; exact List.mem_cons_self))
    cases hn.symm.trans hn9
    exact ⟨meth, c, h1, h2, h3, h4, h5, h6⟩
  · intro p e s m args below meth c s₁ B hml hP _
    have hh0 : s₁.heap = s.heap := by rw [B.state]; rfl
    obtain ⟨t, a1, o, b1, b2, b3⟩ := body p e s m args below meth c s₁ B hml hP s₁ hh0 (Stand.of_body B)
    exact ⟨t, o, a1, b1, b2, b3⟩
/-! ===== END ===== -/

/-! ===== BEGIN what the machine throws by itself, no traces kept ===== -/
section VXM
set_option maxHeartbeats 1000000 in
/-- the machine throws cls with the message text, no traces kept: from its note over the frame g to 'throwing' over the same frame (follows the proofs of Stand.vmThrowsMessage, Shelf/KitTracedVmS.lean, and Stand.throwsMessageColdBareV, StandMessageColdV.lean, without the step out of the frame) -/
theorem vx_vmAt {p : Program} {l : Launch} {e : Env} {R : Room} {s : State} {m₀ : MethodId} {args : Array Value} {below : List Frame} {meth : Method} {c : Code} {W : State} {locs : List Loc} {cells slots : Nat}
    (X : Stand p l e R s m₀ args below meth c W locs cells slots) (hexec : p.tables.exec = Jvm.exec) (htr : e.platform.stackTraces = false) {cls : String} {names : List String} {text : String}
    (hcls : Bundle.fit cls = true) (hnames : ∀ n ∈ names, Bundle.fit n = true) (hsoe : (cls == "java/lang/StackOverflowError") = false) (hoom : (cls == "java/lang/OutOfMemoryError") = false)
    (h : ∀ a ∈ Bundle.messageArmAtoms cls names, a.before args s = true)
    (hlocs : ∀ x ∈ locs, ∀ cell, s.heap[x.base]? = some cell → cell.vm.isStatics = false)
    (htext : (text == notModelled) = false) (hlimit : ¬ (stringBytes (stringToUtf16 text)).size > e.platform.arrayLengthLimit) (hheap : ¬ (stringBytes (stringToUtf16 text)).size * componentBytes .byte > e.platform.maxHeapBytes)
    {g : JFrame} (hg : g.method = m₀) (hsize : g.locals.size = c.maxLocals)
    (hRframes : names.length + 4 < R.frames) (hRlocals : 2 * g.monitorRoom + (g.stack.map fun v => v.category).sum + 10240 ≤ R.locals) (hshort : 13 * names.length + 55 ≤ 10240)
    (hRcells : cells + 3 ≤ R.cells) (hRslots : slots + ((stringBytes (stringToUtf16 text)).size + 4 + 6) ≤ R.slots) (hlocks : meth.locks = false) :
    ∃ (S : State) (q : Addr) (ce : Cell), (∀ target, Steps p.tables e below ((S.setTop g).pushFrame (.throwing q)) target → Steps p.tables e below ((W.setTop g).pushFrame (.throwNew cls (some text) none)) target) ∧
      Stand p l e R s m₀ args below meth c S locs (cells + 3) (slots + ((stringBytes (stringToUtf16 text)).size + 4 + 6)) ∧ S.heap[q]? = some ce ∧ s.vm.findClass cls = some ce.cls ∧ ce.vm = .none := by
  have howns : e.platform.frameOwnsMonitors = true := by rw [X.admits.platform]
  have hfin : e.platform.finalization = false := by rw [X.admits.platform]
  have hpl : e.platform.magicAccessors = ({} : Platform).magicAccessors := by rw [X.admits.platform]
  have a : ∀ x, x ∈ Bundle.messageArmAtoms cls names → x.holds args s none s [] = true := fun x hx => h x hx
  obtain ⟨T, Z0, L, -, Y⟩ := ThrowableC.of_atoms (args := args) howns hfin hpl (fun x hx => h x (by simp [Bundle.messageArmAtoms, hx]))
  obtain ⟨Z, M, LZ, LM, hnZ⟩ := Init0T.ofS_atoms (args := args) hpl L Y (fun x hx => h x (by simp [Bundle.messageArmAtoms, hx]))
  obtain ⟨P1, Ps, hlen, L1, hL, hP1m, hlink1, hlink⟩ := Bundle.chainS (args := args) hpl hnZ names cls hcls hnames (fun x hx => h x (by simp [Bundle.messageArmAtoms, hx]))
  obtain ⟨Zs, LZs, hn4, hfitv, hfitc⟩ := StringT.of_atoms (args := args) (fun x hx => h x (by simp [Bundle.messageArmAtoms, hx]))
  have hfound : s.vm.findClass cls = some P1.m.cls := findClass_of_methodNamed hP1m
  obtain ⟨c1, kX, hc1, hk, hord, -, -, hn6⟩ := Cond.instantiable_spec (a (.instantiable cls 6) (by simp [Bundle.messageArmAtoms]))
  cases Option.some.inj (hc1.symm.trans hfound)
  have hinit := Cond.initialized_spec hfound hk (a (.initialized cls) (by simp [Bundle.messageArmAtoms]))
  have hctor : kX.findMethod "<init>" "(Ljava/lang/String;)V" = some P1.m.idx := findMethod_of_methodNamed hP1m hk
  have hsel0 : selectMethod e.platform s.vm P1.m.cls T.fill0 = .method T.fill0 := by
    obtain ⟨c2, r2, m2, q1, q2, q3, q4, -⟩ := Cond.selects_spec (a (.selects cls Bundle.tFill0 Bundle.tFill0) (by simp [Bundle.messageArmAtoms]))
    cases Option.some.inj (q1.symm.trans hfound)
    cases Option.some.inj (q2.symm.trans (State.methodFound?_of_named Y.fill0 (by decide)))
    cases Option.some.inj (q3.symm.trans Y.fill0)
    rw [Launch.admits_selectMethod X.admits]; exact q4
  have hselF : selectMethod e.platform s.vm P1.m.cls T.fill = .method T.fill := by
    obtain ⟨c2, r2, m2, q1, q2, q3, q4, -⟩ := Cond.selects_spec (a (.selects cls Bundle.tFill Bundle.tFill) (by simp [Bundle.messageArmAtoms]))
    cases Option.some.inj (q1.symm.trans hfound)
    cases Option.some.inj (q2.symm.trans (State.methodFound?_of_named Y.fill (by decide)))
    cases Option.some.inj (q3.symm.trans Y.fill)
    rw [Launch.admits_selectMethod X.admits]; exact q4
  obtain ⟨cellS0, hcS0, hiss⟩ := Y.statics
  obtain ⟨u0, hu0⟩ := Cond.staticRefV Y.unassigned L.unassignedStatic L.statics hcS0 hiss (a (.isRef (.static Bundle.tN "UNASSIGNED_STACK" Bundle.steD)) (by simp [Bundle.messageArmAtoms]))
  obtain ⟨sen, hsen⟩ := Cond.staticRefV Y.sentinel L.sentinelStatic L.statics hcS0 hiss (a (.isRef (.static Bundle.tN "SUPPRESSED_SENTINEL" Bundle.listD)) (by simp [Bundle.messageArmAtoms]))
  obtain ⟨ci198, i198, fB, hk198, hg198, ha198, hsB, -, hnB, htB, hffB⟩ := Cond.ownField (t := .object "java/lang/Object") Y.found L.cls (by decide +kernel) (a (.fieldLink Bundle.tN 198 Bundle.tN "backtrace" "Ljava/lang/Object;") (by simp [Bundle.messageArmAtoms])) (a (.lays Bundle.tN Bundle.tN "backtrace" "Ljava/lang/Object;") (by simp [Bundle.messageArmAtoms])) e.platform hpl
  obtain ⟨cellS, hcS', heS, -, hkeep⟩ := X.same.2.2.2.2.2 T.aS cellS0 hcS0
  have hcellS : W.heap[T.aS]? = some cellS := hcS'
  have hout' : ∀ i, (⟨T.aS, i⟩ : Loc) ∉ locs := fun i hmem => by
    have := hlocs _ hmem cellS0 hcS0
    rw [hiss] at this; cases this
  have hknownS : cellS.vm ≠ .unknown := by
    rw [heS]; intro hu
    rw [show cellS0.vm = .unknown from hu] at hiss
    cases hiss
  have hvU : cellS.slots[T.fUnassigned.slot]? = some u0.v := by rw [hkeep _ (hout' _)]; exact hu0
  have hvSen : cellS.slots[T.fSentinel.slot]? = some sen.v := by rw [hkeep _ (hout' _)]; exact hsen
  obtain ⟨iM, hffM⟩ := Y.msg
  obtain ⟨tyC, dC, hdC, hdnC⟩ := Cond.laysAt hfound hk Y.cause (a (.lays cls Bundle.tN "cause" "Ljava/lang/Throwable;") (by simp [Bundle.messageArmAtoms]))
  obtain ⟨tyS, dS, hdS, hdnS⟩ := Cond.laysAt hfound hk Y.stack (a (.lays cls Bundle.tN "stackTrace" Bundle.steD) (by simp [Bundle.messageArmAtoms]))
  obtain ⟨tyP, dP, hdP, hdnP⟩ := Cond.laysAt hfound hk Y.supp (a (.lays cls Bundle.tN "suppressedExceptions" Bundle.listD) (by simp [Bundle.messageArmAtoms]))
  obtain ⟨tyM, dM, hdM, hdnM⟩ := Cond.laysAt hfound hk hffM (a (.lays cls Bundle.tN "detailMessage" "Ljava/lang/String;") (by simp [Bundle.messageArmAtoms]))
  obtain ⟨tyB, dB, hdB, hdnB⟩ := Cond.laysAt hfound hk hffB (a (.lays cls Bundle.tN "backtrace" "Ljava/lang/Object;") (by simp [Bundle.messageArmAtoms]))
  have bC := Cond.laysApart hdB hdC hdnB hdnC (by rw [hnB, Y.causeName]; decide)
  have bS := Cond.laysApart hdB hdS hdnB hdnS (by rw [hnB, Y.stackName]; decide)
  have bP := Cond.laysApart hdB hdP hdnB hdnP (by rw [hnB, Y.suppName]; decide)
  have hbk : ((preparedCellV T.toThrowableT (freshCell P1.m.cls kX) (W.heap.size + 2) u0 sen).withEntry W.cur).slots[fB.slot]? = some .null := by
    have := fresh_default (c := P1.m.cls) tyB
    rw [htB] at this
    simpa [preparedCellV, Cell.setSlot, Cell.withEntry, Array.getElem?_setIfInBounds, bC, bS, bP, bC.symm, bS.symm, bP.symm, defaultValue] using this
  have tkC := Takes.of_laid (v := .ref (W.heap.size + 2)) hk hord tyC (by rw [Y.causeType]; rfl)
  have tkS := Takes.of_laid (v := u0.v) hk hord tyS (by rw [Y.stackType]; exact fits_refV_array _ u0)
  have tkP := Takes.of_laid (v := sen.v) hk hord tyP (by rw [Y.suppType]; exact fits_refV_object _ sen)
  have tkM := Takes.of_laid (v := .ref (W.heap.size + 1)) hk hord tyM (by rw [Y.msgType]; rfl)
  have hskip : SkipFacts T e.platform s (fun u => u) u0 ((preparedCellV T.toThrowableT (freshCell P1.m.cls kX) (W.heap.size + 2) u0 sen).withEntry W.cur) := ⟨{ ci198 := ci198, i198 := i198, fBack := fB }, ⟨hk198, hg198, ha198, hsB⟩, hbk, fun _ _ => rfl⟩
  have h0 : At W g.method c below := by rw [hg]; exact X.here
  obtain ⟨hbeyond, hfreeW⟩ := X.vmMayThrow hsize (.throwNew cls (some text) none) (fun f hf => by cases hf) rfl hRlocals
  have hfr' : W.frames.length + Ps.length + 4 < (e.platform.stackLimits W.me).1 := by have := X.framesAbove hRframes; omega
  have hwd' : (stackUse (.java g :: W.frames.tail)).2 + 13 * Ps.length + 55 ≤ (e.platform.stackLimits W.me).2 := by have := X.stackAbove hsize (K := 13 * Ps.length + 55) (by omega); omega
  have hslots : W.slotsUsed + (stringBytes (stringToUtf16 text)).size + Zs.kS.instanceTypes.size + kX.instanceTypes.size ≤ e.platform.maxSlots := by
    have := X.slotsAbove hRslots
    rw [hn4, hn6]
    omega
  obtain ⟨vm', hW', st⟩ := Steps.vmThrowsMessageColdByV p (s₀ := s) (S := W) (g := g) h0 hexec T L Z LZ M LM X.warmed (t := W.cur) rfl Zs LZs P1 L1 Ps hL hlink1 hlink hsoe hoom hfound hk hinit hord hctor
    (Launch.admits_hotImplicitExceptions X.admits) hbeyond hfreeW htext hlimit hheap (X.cellsAbove hRcells) hslots (hfitv _) (hfitc _)
    (Nn := fun u => u) heapOnly_id (fun _ _ => rfl) (fun _ => rfl) (fun u x y => setCell_twice _ _ _ _) (fun _ => Nat.le_refl _) (cN := ((preparedCellV T.toThrowableT (freshCell P1.m.cls kX) (W.heap.size + 2) u0 sen).withEntry W.cur))
    hsel0 hcellS hknownS hvU tkS (fun _ hu => hu) (fun _ hu => hu) rfl rfl rfl (by simp [preparedCellV, Cell.setSlot, Cell.withEntry]) hskip (fun _ _ hA hW _ hroom _ hrest => L.nativeOff p htr hA hW hroom hrest) hselF hvSen tkC tkP tkM Y.objLocals rfl hfr' hwd'
  rw [plainBareV_eq T.toThrowableT (W.heap.size + 2) u0 sen (.ref (W.heap.size + 1)) W.cur rfl rfl] at st
  obtain ⟨-, -, w3, w4, -, -, -⟩ := withThrown_facts e.platform W Zs text P1.m.cls kX
  have X3 := ((X.pushed (bytesOf Zs.cB (stringToUtf16 text))).pushed (stringAt Zs.cS Zs.kS Zs.fv Zs.fc (stringToUtf16 text) W.heap.size)).pushed (freshCell P1.m.cls kX)
  rw [← withString_eq] at X3
  have X4 := X3.noted hW'
  have ha : (W.heap.size + 2) < ((withThrown W Zs text P1.m.cls kX).setVm vm').heap.size := by show _ < (withThrown W Zs text P1.m.cls kX).heap.size; rw [w3]; omega
  have hcell : ((withThrown W Zs text P1.m.cls kX).setVm vm').heap[(W.heap.size + 2)]? = some (freshCell P1.m.cls kX) := w4
  have X5 := ((((X4.stored hcell T.fCause.slot (.ref (W.heap.size + 2))).storedAgain ha T.fStack.slot u0.v).storedAgain ha T.fSupp.slot sen.v).storedAgain ha T.fStack.slot u0.v).storedAgain ha T.fMsg.slot (.ref (W.heap.size + 1))
  obtain ⟨g₁, hfrM⟩ := X5.frames_eq
  have hU : ((((withThrown W Zs text P1.m.cls kX).setVm vm').setCell (W.heap.size + 2) (plainBareV T.toThrowableT (freshCell P1.m.cls kX) (W.heap.size + 2) u0 sen (.ref (W.heap.size + 1)))).setTop g).pushFrame (.throwing (W.heap.size + 2)) = (((withThrown W Zs text P1.m.cls kX).setVm vm').setCell (W.heap.size + 2) (plainBareV T.toThrowableT (freshCell P1.m.cls kX) (W.heap.size + 2) u0 sen (.ref (W.heap.size + 1)))).setFrames (.throwing (W.heap.size + 2) :: .java g :: below) := by
    rw [State.pushFrame, State.frames_setTop _ hfrM, State.setTop_of_frames _ hfrM, State.setFrames_setFrames]
  have b1 : (bytesOf Zs.cB (stringToUtf16 text)).slots.size = (stringBytes (stringToUtf16 text)).size := by
    rw [(Cell.writeAll_facts _ _).2.2]; simp [bytes0]
  have b2 : (stringAt Zs.cS Zs.kS Zs.fv Zs.fc (stringToUtf16 text) W.heap.size).slots.size = 4 := by simp [string0, Cell.setSlot, hn4]
  have b3 : (freshCell P1.m.cls kX).slots.size = 6 := by simp [hn6]
  rw [b1, b2, b3] at X5
  have e9 : slots + (stringBytes (stringToUtf16 text)).size + 4 + 6 = slots + ((stringBytes (stringToUtf16 text)).size + 4 + 6) := by omega
  rw [e9] at X5
  simp only [List.append_assoc, List.cons_append, List.nil_append] at X5
  refine ⟨((withThrown W Zs text P1.m.cls kX).setVm vm').setCell (W.heap.size + 2) (plainBareV T.toThrowableT (freshCell P1.m.cls kX) (W.heap.size + 2) u0 sen (.ref (W.heap.size + 1))), W.heap.size + 2, _, fun target ht => st _ (by rw [X.tail, ← hU]; exact ht),
    X5.forget (fun y hy => ?_), heapAt_setCell_self _ ha, hfound, rfl⟩
  simp only [List.mem_cons, List.not_mem_nil, or_false] at hy
  have hge : s.heap.size ≤ W.heap.size := X.same.2.1
  rcases hy with rfl | rfl | rfl | rfl | rfl <;> exact Nat.le_trans hge (Nat.le_add_right _ 2)
set_option maxHeartbeats 1000000 in
/-- the machine throws NullPointerException, no traces kept: from its note over the frame g to 'throwing' over the same frame (follows the proof of Stand.vmThrowsNpe, Shelf42/KT2.lean; throwsNpeColdBareVAt, Shelf42/NT91.lean, called) -/
theorem vx_npeAt {p : Program} {l : Launch} {e : Env} {R : Room} {s : State} {m₀ : MethodId} {args : Array Value} {below : List Frame} {meth : Method} {c : Code} {W : State} {locs : List Loc} {cells slots : Nat}
    (X : Stand p l e R s m₀ args below meth c W locs cells slots) (hexec : p.tables.exec = Jvm.exec) (htr : e.platform.stackTraces = false) {n : Nat}
    (h : ∀ a ∈ Bundle.npeArmAtoms n, a.before args s = true)
    (hlocs : ∀ x ∈ locs, ∀ cell, s.heap[x.base]? = some cell → cell.vm.isStatics = false)
    {g : JFrame} (hg : g.method = m₀) (hsize : g.locals.size = c.maxLocals)
    (hRframes : 7 < R.frames) (hRlocals : 2 * g.monitorRoom + (g.stack.map fun v => v.category).sum + 10240 ≤ R.locals)
    (hRcells : cells + 1 ≤ R.cells) (hRslots : slots + n ≤ R.slots) (hlocks : meth.locks = false) :
    ∃ (S : State) (q : Addr) (ce : Cell), (∀ target, Steps p.tables e below ((S.setTop g).pushFrame (.throwing q)) target → Steps p.tables e below ((W.setTop g).pushFrame (.throwNew "java/lang/NullPointerException" none none)) target) ∧
      Stand p l e R s m₀ args below meth c S locs (cells + 1) (slots + n) ∧ S.heap[q]? = some ce ∧ s.vm.findClass "java/lang/NullPointerException" = some ce.cls ∧ ce.vm = .none := by
  have howns : e.platform.frameOwnsMonitors = true := by rw [X.admits.platform]
  have hfin : e.platform.finalization = false := by rw [X.admits.platform]
  have hpl : e.platform.magicAccessors = ({} : Platform).magicAccessors := by rw [X.admits.platform]
  have hpl2 : e.platform.arrayCloneIsPublic = true := by rw [X.admits.platform]
  have a' : ∀ x, x ∈ Bundle.npeArmAtoms n → x.holds args s none s [] = true := fun x hx => h x hx
  obtain ⟨T, Z, L, LZ, Y⟩ := ThrowableC.of_atoms (args := args) howns hfin hpl (fun x hx => h x (by simp [Bundle.npeArmAtoms, hx]))
  obtain ⟨N, LN, hcN, hnNF, hordN, hffS⟩ := NpeC.of_atoms (args := args) hpl hpl2 L Y (fun x hx => h x (by simp [Bundle.npeArmAtoms, hx]))
  obtain ⟨P1, L1, hP1m, hP1s⟩ := PassC.of_atoms (args := args) (s := s) hpl (X := Bundle.nN) (Y := Bundle.rN) (by decide) (by decide) LibCode.NullPointerException.Init0.at_0 LibCode.NullPointerException.Init0.at_1 LibCode.NullPointerException.Init0.at_4 (fun x hx => h x (by simp [Bundle.npeArmAtoms, hx]))
  obtain ⟨PR, LR, hPRm, hPRs⟩ := PassC.of_atoms (args := args) (s := s) hpl (X := Bundle.rN) (Y := Bundle.eN) (by decide) (by decide) LibCode.RuntimeException.Init0.at_0 LibCode.RuntimeException.Init0.at_1 LibCode.RuntimeException.Init0.at_4 (fun x hx => h x (by simp [Bundle.npeArmAtoms, hx]))
  obtain ⟨PE, LEx, hPEm, hPEs⟩ := PassC.of_atoms (args := args) (s := s) hpl (X := Bundle.eN) (Y := Bundle.tN) (by decide) (by decide) LibCode.Exception.Init0.at_0 LibCode.Exception.Init0.at_1 LibCode.Exception.Init0.at_4 (fun x hx => h x (by simp [Bundle.npeArmAtoms, hx]))
  have hfound : s.vm.findClass Bundle.nN = some P1.m.cls := findClass_of_methodNamed hP1m
  have ecls : N.cN = P1.m.cls := Option.some.inj (hcN.symm.trans hfound)
  have hk : s.vm.classes[P1.m.cls]? = some N.kN := by rw [← ecls]; exact LN.cls
  have hinit := Cond.initialized_spec hfound hk (a' (.initialized Bundle.nN) (by simp [Bundle.npeArmAtoms]))
  have hctor : N.kN.findMethod "<init>" "()V" = some P1.m.idx := findMethod_of_methodNamed hP1m hk
  obtain ⟨c1, k1, hc1, hk1, -, -, -, hn⟩ := Cond.instantiable_spec (a' (.instantiable Bundle.nN n) (by simp [Bundle.npeArmAtoms]))
  cases Option.some.inj (hc1.symm.trans hfound)
  cases Option.some.inj (hk1.symm.trans hk)
  have hfsz : (freshCell P1.m.cls N.kN).slots.size = n := by simp [hn]
  have hlink1 : P1.sup = PR.m := Option.some.inj (hP1s.symm.trans hPRm)
  have hlinkR : PR.sup = PE.m := Option.some.inj (hPRs.symm.trans hPEm)
  have hlinkE : PE.sup = Z.m T.toThrowableT := Option.some.inj (hPEs.symm.trans Y.init0)
  have hLs : ∀ P, P ∈ [PR, PE] → P.Links0 e.platform s := fun P hP => by
    simp only [List.mem_cons, List.not_mem_nil, or_false] at hP
    rcases hP with rfl | rfl
    · exact LR
    · exact LEx
  have hsel0 : selectMethod e.platform s.vm P1.m.cls T.fill0 = .method T.fill0 := by
    obtain ⟨c2, r2, m2, q1, q2, q3, q4, -⟩ := Cond.selects_spec (a' (.selects Bundle.nN Bundle.tFill0 Bundle.tFill0) (by simp [Bundle.npeArmAtoms]))
    cases Option.some.inj (q1.symm.trans hfound)
    cases Option.some.inj (q2.symm.trans (State.methodFound?_of_named Y.fill0 (by decide)))
    cases Option.some.inj (q3.symm.trans Y.fill0)
    rw [Launch.admits_selectMethod X.admits]; exact q4
  have hselF : selectMethod e.platform s.vm P1.m.cls T.fill = .method N.fill := by
    obtain ⟨c2, r2, m2, q1, q2, q3, q4, -⟩ := Cond.selects_spec (a' (.selects Bundle.nN Bundle.tFill Bundle.nFill) (by simp [Bundle.npeArmAtoms]))
    cases Option.some.inj (q1.symm.trans hfound)
    cases Option.some.inj (q2.symm.trans (State.methodFound?_of_named Y.fill (by decide)))
    cases Option.some.inj (q3.symm.trans hnNF)
    rw [Launch.admits_selectMethod X.admits]; exact q4
  obtain ⟨cellS0, hcS0, hiss⟩ := Y.statics
  obtain ⟨u0, hu0⟩ := Cond.staticRefV Y.unassigned L.unassignedStatic L.statics hcS0 hiss (a' (.isRef (.static Bundle.tN "UNASSIGNED_STACK" Bundle.steD)) (by simp [Bundle.npeArmAtoms]))
  obtain ⟨sen, hsen⟩ := Cond.staticRefV Y.sentinel L.sentinelStatic L.statics hcS0 hiss (a' (.isRef (.static Bundle.tN "SUPPRESSED_SENTINEL" Bundle.listD)) (by simp [Bundle.npeArmAtoms]))
  obtain ⟨ci198, i198, fB, hk198, hg198, ha198, hsB, -, hnB, htB, hffB⟩ := Cond.ownField (t := .object "java/lang/Object") Y.found L.cls (by decide +kernel) (a' (.fieldLink Bundle.tN 198 Bundle.tN "backtrace" Bundle.objD) (by simp [Bundle.npeArmAtoms])) (a' (.lays Bundle.tN Bundle.tN "backtrace" Bundle.objD) (by simp [Bundle.npeArmAtoms])) e.platform hpl
  obtain ⟨cellS, hcS', heS, -, hkeep⟩ := X.same.2.2.2.2.2 T.aS cellS0 hcS0
  have hcellS : W.heap[T.aS]? = some cellS := hcS'
  have hout' : ∀ i, (⟨T.aS, i⟩ : Loc) ∉ locs := fun i hmem => by
    have := hlocs _ hmem cellS0 hcS0
    rw [hiss] at this; cases this
  have hknownS : cellS.vm ≠ .unknown := by
    rw [heS]; intro hu
    rw [show cellS0.vm = .unknown from hu] at hiss
    cases hiss
  have hvU : cellS.slots[T.fUnassigned.slot]? = some u0.v := by rw [hkeep _ (hout' _)]; exact hu0
  have hvSen : cellS.slots[T.fSentinel.slot]? = some sen.v := by rw [hkeep _ (hout' _)]; exact hsen
  obtain ⟨tyC, dC, hdC, hdnC⟩ := Cond.laysAt hfound hk Y.cause (a' (.lays Bundle.nN Bundle.tN "cause" "Ljava/lang/Throwable;") (by simp [Bundle.npeArmAtoms]))
  obtain ⟨tyS, dS, hdS, hdnS⟩ := Cond.laysAt hfound hk Y.stack (a' (.lays Bundle.nN Bundle.tN "stackTrace" Bundle.steD) (by simp [Bundle.npeArmAtoms]))
  obtain ⟨tyP, dP, hdP, hdnP⟩ := Cond.laysAt hfound hk Y.supp (a' (.lays Bundle.nN Bundle.tN "suppressedExceptions" Bundle.listD) (by simp [Bundle.npeArmAtoms]))
  obtain ⟨tyX, dX, hdX, hdnX⟩ := Cond.laysAt hfound hk hffS (a' (.lays Bundle.nN Bundle.nN "extendedMessageState" "I") (by simp [Bundle.npeArmAtoms, Bundle.npeAtoms]))
  obtain ⟨hnX, htX⟩ := State.fieldFound?_type hffS (t := .int) (by decide +kernel)
  have xC := Cond.laysApart hdC hdX hdnC hdnX (by rw [hnX, Y.causeName]; decide)
  have xS := Cond.laysApart hdS hdX hdnS hdnX (by rw [hnX, Y.stackName]; decide)
  have xP := Cond.laysApart hdP hdX hdnP hdnX (by rw [hnX, Y.suppName]; decide)
  have hv0 : (freshCell P1.m.cls N.kN).slots[N.fState.slot]? = some (.int 0) := by
    have := fresh_default (c := P1.m.cls) tyX
    rw [htX] at this; exact this
  obtain ⟨tyB, dB, hdB, hdnB⟩ := Cond.laysAt hfound hk hffB (a' (.lays Bundle.nN Bundle.tN "backtrace" Bundle.objD) (by simp [Bundle.npeArmAtoms]))
  have bC := Cond.laysApart hdB hdC hdnB hdnC (by rw [hnB, Y.causeName]; decide)
  have bS := Cond.laysApart hdB hdS hdnB hdnS (by rw [hnB, Y.stackName]; decide)
  have bP := Cond.laysApart hdB hdP hdnB hdnP (by rw [hnB, Y.suppName]; decide)
  have bX := Cond.laysApart hdB hdX hdnB hdnX (by rw [hnB, hnX]; decide)
  have hbk : ((npeCell N.toNpeT (preparedCellV T.toThrowableT (freshCell P1.m.cls N.kN) W.heap.size u0 sen) W.cur).withEntry W.cur).slots[fB.slot]? = some .null := by
    have := fresh_default (c := P1.m.cls) tyB
    rw [htB] at this
    simpa [npeCell, preparedCellV, Cell.setSlot, Cell.withEntry, Array.getElem?_setIfInBounds, bC, bS, bP, bX, bC.symm, bS.symm, bP.symm, bX.symm, defaultValue] using this
  have tkC := Takes.of_laid (v := .ref W.heap.size) hk hordN tyC (by rw [Y.causeType]; rfl)
  have tkS := Takes.of_laid (v := u0.v) hk hordN tyS (by rw [Y.stackType]; exact fits_refV_array _ u0)
  have tkP := Takes.of_laid (v := sen.v) hk hordN tyP (by rw [Y.suppType]; exact fits_refV_object _ sen)
  have tkX := Takes.of_laid (v := .int 1) hk hordN tyX (by rw [htX]; rfl)
  have hskip : SkipFacts T e.platform s (fun u => u) u0 ((npeCell N.toNpeT (preparedCellV T.toThrowableT (freshCell P1.m.cls N.kN) W.heap.size u0 sen) W.cur).withEntry W.cur) := ⟨{ ci198 := ci198, i198 := i198, fBack := fB }, ⟨hk198, hg198, ha198, hsB⟩, hbk, fun _ _ => rfl⟩
  obtain ⟨vm', X3, st, -⟩ := X.throwsNpeColdBareVAt hexec hg hsize T L Z LZ N LN P1 L1 [PR, PE] hLs hlink1 ⟨hlinkR, hlinkE, trivial⟩ hfound hk hinit hordN hctor hsel0 hselF hcellS hknownS hvU hvSen
    hv0 xC xS xP tkC tkS tkP tkX Y.objLocals hskip (fun _ _ hA hW _ hroom _ hrest => L.nativeOff p htr hA hW hroom hrest) (by simpa using hRframes) hRlocals (by simp) hRcells (by rw [hn]; exact hRslots)
  have hlt : W.heap.size < ((W.pushCell (freshCell P1.m.cls N.kN)).setVm vm').heap.size := by
    show W.heap.size < (W.pushCell (freshCell P1.m.cls N.kN)).heap.size
    rw [State.heap_size_pushCell]; omega
  rw [hfsz] at X3
  obtain ⟨g₁, hfrM⟩ := X3.frames_eq
  have hU : ((((W.pushCell (freshCell P1.m.cls N.kN)).setVm vm').setCell W.heap.size (npeBareV T.toThrowableT N.toNpeT (freshCell P1.m.cls N.kN) W.heap.size u0 sen)).setTop g).pushFrame (.throwing W.heap.size) = (((W.pushCell (freshCell P1.m.cls N.kN)).setVm vm').setCell W.heap.size (npeBareV T.toThrowableT N.toNpeT (freshCell P1.m.cls N.kN) W.heap.size u0 sen)).setFrames (.throwing W.heap.size :: .java g :: below) := by
    rw [State.pushFrame, State.frames_setTop _ hfrM, State.setTop_of_frames _ hfrM, State.setFrames_setFrames]
  refine ⟨_, W.heap.size, _, fun target ht => st.trans (by rw [← hU]; exact ht), X3.forget (fun y hy => ?_), heapAt_setCell_self _ hlt, hfound, rfl⟩
  simp only [List.mem_cons, List.not_mem_nil, or_false] at hy
  have hge : s.heap.size ≤ W.heap.size := X.same.2.1
  rcases hy with rfl | rfl | rfl | rfl | rfl <;> exact hge
/-- the words of a machine's NullPointerException, but the four that speak of the heap -/
def vx_atN (n : Nat) : List Cond := (Bundle.npeArmAtoms n).filter vx_no
/-- the words of a machine's throw with a message, but the four that speak of the heap -/
def vx_atM (X : String) (names : List String) : List Cond := (Bundle.messageArmAtoms X names).filter vx_no
section
variable {p : Program} {l : Launch} {e : Env} {R : Room} {s : State} {m : MethodId} {args : Array Value} {below : List Frame} {meth : Method} {c : Code} {H : Heap} {locs : List Loc} {cells slots : Nat}
/-- a frame seen from a rebased start, seen from the first start again -/
theorem vx_back9 {T S : State} {R' : Room} {k n : Nat} (X : Stand p l e R s m args below meth c T locs cells slots) (Y : Stand p l e R' ((T.setVm s.vm).setFrames (.invoking m args :: below)) m args below meth c T [] 0 0) (Z : Stand p l e R' ((T.setVm s.vm).setFrames (.invoking m args :: below)) m args below meth c S [] k n) :
    Stand p l e R s m args below meth c S locs (cells + k) (slots + n) := by
  have hW0 : s.WarmedH ((T.setVm s.vm).setFrames (.invoking m args :: below)).vm := State.WarmedH.refl s
  refine { admits := X.admits, cas := X.cas, clock := X.clock, frames := X.frames, room := X.room, hears := X.hears, method := X.method, code := X.code, here := Z.here, tail := Z.tail, warmed := State.WarmedH.trans hW0 Z.warmed, limits := Z.limits.trans (Y.limits.symm.trans X.limits), bytes := Z.bytes.trans (Y.bytes.symm.trans X.bytes), same := ?_ }
  obtain ⟨e1, e2⟩ := Z.same
  rw [State.setFrames_setFrames] at e1
  have h2 : (T.setVm s.vm).sameButNew (S.setVm s.vm) [] k n := ⟨e1, e2⟩
  have h3 := X.same.trans h2
  rw [List.append_nil] at h3
  exact h3
/-- from the machine's note that E is thrown here with this text -/
def vx_Note (p : Program) (l : Launch) (e : Env) (R : Room) (s : State) (m : MethodId) (args : Array Value) (below : List Frame) (meth : Method) (c : Code) (H : Heap) (locs : List Loc) (cells slots : Nat) (Q : State → Prop) (g : JFrame) (E text : String) : Prop :=
  ∀ T : State, T.heap = H → Stand p l e R s m args below meth c T locs cells slots → ∃ t, Steps p.tables e below ((T.setTop g).pushFrame (.throwNew E (some text) none)) t ∧ Q t
theorem vx_vm {pc : Nat} {ls : Array Slot} {rest : List Value} {Q : State → Prop} (hexec : p.tables.exec = Jvm.exec) (hl : l.stackTraces = false) {cls text : String} {names : List String} {nb : Nat} {A : Nat → Prop}
    (hcls : Bundle.fit cls = true) (hnames : ∀ n ∈ names, Bundle.fit n = true) (hsoe : (cls == "java/lang/StackOverflowError") = false) (hoom : (cls == "java/lang/OutOfMemoryError") = false)
    (hat : ∀ w ∈ vx_atM cls names, w.before args s = true) (hgood : ∀ w ∈ vx_atM cls names, vx_ot w = true)
    (hU : vx_Zq Bundle.tN "UNASSIGNED_STACK" Bundle.steD A s s.heap) (hN : vx_Zq Bundle.tN "SUPPRESSED_SENTINEL" Bundle.listD A s s.heap) (hS : va_S A s.heap H locs) (hsize : ls.size = c.maxLocals)
    (htext : (text == notModelled) = false) (hnb : (stringBytes (stringToUtf16 text)).size ≤ nb) (hnb1 : nb ≤ 1000)
    (hRframes : names.length + 4 < R.frames) (hRlocals : (rest.map fun v => v.category).sum + 10240 ≤ R.locals) (hshort : 13 * names.length + 55 ≤ 10240) (hRcells : cells + 3 ≤ R.cells) (hRslots : slots + (nb + 10) ≤ R.slots) (hlocks : meth.locks = false)
    (k : ∀ (H1 : Heap) (q9 : Addr) (ce : Cell), H.size ≤ H1.size → (∀ q : Nat, q < H.size → H1[q]? = H[q]?) → va_S A s.heap H1 locs → H1[q9]? = some ce → ce.vm = .none → s.vm.findClass cls = some ce.cls → vx_W p l e R s m args below meth c H1 locs (cells + 3) (slots + (nb + 10)) Q (F0 m pc ls rest) q9) :
    vx_Note p l e R s m args below meth c H locs cells slots Q (F0 m pc ls rest) cls text := by
  intro T hT X
  have htr : e.platform.stackTraces = false := (show e.platform.stackTraces = l.stackTraces by rw [X.admits.platform]).trans hl
  have Y := vx_rebase X (R' := { frames := R.frames, locals := R.locals, cells := 3, slots := nb + 10 }) (Nat.le_refl _) (Nat.le_refl _) hRcells hRslots
  have hhp : ((T.setVm s.vm).setFrames (.invoking m args :: below)).heap = H := hT
  have hW0 : s.WarmedH ((T.setVm s.vm).setFrames (.invoking m args :: below)).vm := State.WarmedH.refl s
  have hat' : ∀ w ∈ vx_atM cls names, w.before args ((T.setVm s.vm).setFrames (.invoking m args :: below)) = true := fun w hw => vx_ot_at hW0 rfl (hgood w hw) (hat w hw)
  have hU' : vx_Zq Bundle.tN "UNASSIGNED_STACK" Bundle.steD A ((T.setVm s.vm).setFrames (.invoking m args :: below)) ((T.setVm s.vm).setFrames (.invoking m args :: below)).heap := by rw [hhp]; exact vx_Zq.moved hW0.alike (hU.kept hS.2.1)
  have hN' : vx_Zq Bundle.tN "SUPPRESSED_SENTINEL" Bundle.listD A ((T.setVm s.vm).setFrames (.invoking m args :: below)) ((T.setVm s.vm).setFrames (.invoking m args :: below)).heap := by rw [hhp]; exact vx_Zq.moved hW0.alike (hN.kept hS.2.1)
  obtain ⟨S, q, ce, st, Z, hce, hcl', hv⟩ := vx_vmAt Y hexec htr (cls := cls) (names := names) (text := text) hcls hnames hsoe hoom (vx_own hat' (vx_isRefq hU'.1) (vx_isRefq hN'.1) hU'.2.word hN'.2.word) (fun x hx => nomatch hx) htext
    (by rw [Launch.admits_arrayLengthLimit X.admits]; omega) (by rw [Launch.admits_maxHeapBytes X.admits]; simp only [componentBytes]; omega)
    (g := F0 m pc ls rest) rfl hsize hRframes (by show 2 * 0 + (rest.map fun v => v.category).sum + 10240 ≤ R.locals; omega) hshort (by show 0 + 3 ≤ 3; omega) (by show 0 + (_ + 4 + 6) ≤ nb + 10; omega) hlocks
  obtain ⟨f1, f2⟩ := vx_frame Z.same
  have f1' : H.size ≤ S.heap.size := by rw [← hT]; exact f1
  have f2' : ∀ q : Nat, q < H.size → S.heap[q]? = H[q]? := fun q hq => by
    rw [← hT]
    exact f2 q (by rw [← hT] at hq; exact hq) (fun z hz => nomatch hz)
  have X5 := vx_back9 X Y Z
  have X6 : Stand p l e R s m args below meth c S locs (cells + 3) (slots + (nb + 10)) := { X5 with same := X5.same.mono (by omega) (by omega) }
  obtain ⟨t, a1, b1⟩ := k S.heap q ce f1' f2' ⟨Nat.le_trans hS.1 f1', fun q h1 h2 => (f2' q (Nat.lt_of_lt_of_le h1 hS.1)).trans (hS.2.1 q h1 h2), hS.2.2⟩ hce hv hcl' S rfl X6
  exact ⟨t, st t a1, b1⟩
/-- from the machine's note that NullPointerException is thrown here -/
def vx_NoteN (p : Program) (l : Launch) (e : Env) (R : Room) (s : State) (m : MethodId) (args : Array Value) (below : List Frame) (meth : Method) (c : Code) (H : Heap) (locs : List Loc) (cells slots : Nat) (Q : State → Prop) (g : JFrame) : Prop :=
  ∀ T : State, T.heap = H → Stand p l e R s m args below meth c T locs cells slots → ∃ t, Steps p.tables e below ((T.setTop g).pushFrame (.throwNew "java/lang/NullPointerException" none none)) t ∧ Q t
theorem vx_npe {pc : Nat} {ls : Array Slot} {rest : List Value} {Q : State → Prop} (hexec : p.tables.exec = Jvm.exec) (hl : l.stackTraces = false) {nb : Nat} {A : Nat → Prop}
    (hat : ∀ w ∈ vx_atN nb, w.before args s = true) (hgood : ∀ w ∈ vx_atN nb, vx_ot w = true)
    (hU : vx_Zq Bundle.tN "UNASSIGNED_STACK" Bundle.steD A s s.heap) (hN : vx_Zq Bundle.tN "SUPPRESSED_SENTINEL" Bundle.listD A s s.heap) (hS : va_S A s.heap H locs) (hsize : ls.size = c.maxLocals)
    (hRframes : 7 < R.frames) (hRlocals : (rest.map fun v => v.category).sum + 10240 ≤ R.locals) (hRcells : cells + 1 ≤ R.cells) (hRslots : slots + nb ≤ R.slots) (hlocks : meth.locks = false)
    (k : ∀ (H1 : Heap) (q9 : Addr) (ce : Cell), H.size ≤ H1.size → (∀ q : Nat, q < H.size → H1[q]? = H[q]?) → va_S A s.heap H1 locs → H1[q9]? = some ce → ce.vm = .none → s.vm.findClass "java/lang/NullPointerException" = some ce.cls → vx_W p l e R s m args below meth c H1 locs (cells + 1) (slots + nb) Q (F0 m pc ls rest) q9) :
    vx_NoteN p l e R s m args below meth c H locs cells slots Q (F0 m pc ls rest) := by
  intro T hT X
  have htr : e.platform.stackTraces = false := (show e.platform.stackTraces = l.stackTraces by rw [X.admits.platform]).trans hl
  have Y := vx_rebase X (R' := { frames := R.frames, locals := R.locals, cells := 1, slots := nb }) (Nat.le_refl _) (Nat.le_refl _) hRcells hRslots
  have hhp : ((T.setVm s.vm).setFrames (.invoking m args :: below)).heap = H := hT
  have hW0 : s.WarmedH ((T.setVm s.vm).setFrames (.invoking m args :: below)).vm := State.WarmedH.refl s
  have hat' : ∀ w ∈ vx_atN nb, w.before args ((T.setVm s.vm).setFrames (.invoking m args :: below)) = true := fun w hw => vx_ot_at hW0 rfl (hgood w hw) (hat w hw)
  have hU' : vx_Zq Bundle.tN "UNASSIGNED_STACK" Bundle.steD A ((T.setVm s.vm).setFrames (.invoking m args :: below)) ((T.setVm s.vm).setFrames (.invoking m args :: below)).heap := by rw [hhp]; exact vx_Zq.moved hW0.alike (hU.kept hS.2.1)
  have hN' : vx_Zq Bundle.tN "SUPPRESSED_SENTINEL" Bundle.listD A ((T.setVm s.vm).setFrames (.invoking m args :: below)) ((T.setVm s.vm).setFrames (.invoking m args :: below)).heap := by rw [hhp]; exact vx_Zq.moved hW0.alike (hN.kept hS.2.1)
  obtain ⟨S, q, ce, st, Z, hce, hcl', hv⟩ := vx_npeAt Y hexec htr (n := nb) (vx_own hat' (vx_isRefq hU'.1) (vx_isRefq hN'.1) hU'.2.word hN'.2.word) (fun x hx => nomatch hx)
    (g := F0 m pc ls rest) rfl hsize hRframes (by show 2 * 0 + (rest.map fun v => v.category).sum + 10240 ≤ R.locals; omega) (by show 0 + 1 ≤ 1; omega) (by show 0 + nb ≤ nb; omega) hlocks
  obtain ⟨f1, f2⟩ := vx_frame Z.same
  have f1' : H.size ≤ S.heap.size := by rw [← hT]; exact f1
  have f2' : ∀ q : Nat, q < H.size → S.heap[q]? = H[q]? := fun q hq => by
    rw [← hT]
    exact f2 q (by rw [← hT] at hq; exact hq) (fun z hz => nomatch hz)
  have X5 := vx_back9 X Y Z
  have X6 : Stand p l e R s m args below meth c S locs (cells + 1) (slots + nb) := { X5 with same := X5.same.mono (by omega) (by omega) }
  obtain ⟨t, a1, b1⟩ := k S.heap q ce f1' f2' ⟨Nat.le_trans hS.1 f1', fun q h1 h2 => (f2' q (Nat.lt_of_lt_of_le h1 hS.1)).trans (hS.2.1 q h1 h2), hS.2.2⟩ hce hv hcl' S rfl X6
  exact ⟨t, st t a1, b1⟩
variable {Q : State → Prop} {cc : ByteArray} {pc : Nat} {ls : Array Slot} {rest : List Value}
theorem vx_idivZ (hexec : p.tables.exec = Jvm.exec) (hb : c.code = cc) {a b : Int32} (h0 : b = 0) (d : decode cc pc = .ok (.idiv, 1)) (k : vx_Note p l e R s m args below meth c H locs cells slots Q (F0 m pc ls rest) "java/lang/ArithmeticException" "/ by zero") :
    W p l e R s m args below meth c H locs cells slots Q (F0 m pc ls (.int b :: .int a :: rest)) := by
  intro T hT X
  obtain ⟨t, st, q⟩ := k T hT X
  exact ⟨t, X.idivZero hexec (g := F0 m pc ls (.int b :: .int a :: rest)) rfl (a := a) (rest := rest) (by rw [h0]) (by rw [hb]; exact d) t st, q⟩
theorem vx_iremZ (hexec : p.tables.exec = Jvm.exec) (hb : c.code = cc) {a b : Int32} (h0 : b = 0) (d : decode cc pc = .ok (.irem, 1)) (k : vx_Note p l e R s m args below meth c H locs cells slots Q (F0 m pc ls rest) "java/lang/ArithmeticException" "/ by zero") :
    W p l e R s m args below meth c H locs cells slots Q (F0 m pc ls (.int b :: .int a :: rest)) := by
  intro T hT X
  obtain ⟨t, st, q⟩ := k T hT X
  exact ⟨t, X.iremZero hexec (g := F0 m pc ls (.int b :: .int a :: rest)) rfl (a := a) (rest := rest) (by rw [h0]) (by rw [hb]; exact d) t st, q⟩
theorem vx_ldivZ (hexec : p.tables.exec = Jvm.exec) (hb : c.code = cc) {a b : Int64} (h0 : b = 0) (d : decode cc pc = .ok (.ldiv, 1)) (k : vx_Note p l e R s m args below meth c H locs cells slots Q (F0 m pc ls rest) "java/lang/ArithmeticException" "/ by zero") :
    W p l e R s m args below meth c H locs cells slots Q (F0 m pc ls (.long b :: .long a :: rest)) := by
  intro T hT X
  obtain ⟨t, st, q⟩ := k T hT X
  exact ⟨t, X.ldivZero hexec (g := F0 m pc ls (.long b :: .long a :: rest)) rfl (a := a) (rest := rest) (by rw [h0]) (by rw [hb]; exact d) t st, q⟩
theorem vx_lremZ (hexec : p.tables.exec = Jvm.exec) (hb : c.code = cc) {a b : Int64} (h0 : b = 0) (d : decode cc pc = .ok (.lrem, 1)) (k : vx_Note p l e R s m args below meth c H locs cells slots Q (F0 m pc ls rest) "java/lang/ArithmeticException" "/ by zero") :
    W p l e R s m args below meth c H locs cells slots Q (F0 m pc ls (.long b :: .long a :: rest)) := by
  intro T hT X
  obtain ⟨t, st, q⟩ := k T hT X
  exact ⟨t, X.lremZero hexec (g := F0 m pc ls (.long b :: .long a :: rest)) rfl (a := a) (rest := rest) (by rw [h0]) (by rw [hb]; exact d) t st, q⟩
theorem vx_ialdZ {D : va_G} {cl : List vw_C} {ws : va_W} {tys : List (ClassId × FieldType)} {a : Nat} (hexec : p.tables.exec = Jvm.exec) (hb : c.code = cc) (hK : va_K D cl tys s) (hP : va_P D cl ws H) (q0 t0 : Nat) {cA : ClassId} {n : Nat} {f : Nat → Int32} (ha : ws[q0]? = some (a, .inl (cA, n, .inl f))) (ht : tys[t0]? = some (cA, .int)) {i : Int32} (hout : ¬ vp_in i n) (hdg : decode cc pc = .ok (.iaload, 1))
    (k : ∀ tx : String, tx = (toString "Index " ++ toString i ++ toString " out of bounds for length " ++ toString n : String) → vx_Note p l e R s m args below meth c H locs cells slots Q (F0 m pc ls rest) "java/lang/ArrayIndexOutOfBoundsException" tx) : W p l e R s m args below meth c H locs cells slots Q (F0 m pc ls (.int i :: .ref a :: rest)) := by
  intro T hT X
  obtain ⟨t, st, q⟩ := k _ rfl T hT X
  refine ⟨t, ?_, q⟩
  have h1 := X.ialoadOut hexec (by rw [hT]; exact hP q0 _ ha) ((hK.2 t0 _ ht).1 n (fun j => .int (f j))) (j := i) (by show (i < 0 ∨ (arrV _ _ _).slots.size ≤ _); rw [arrV_size]; exact Classical.byContradiction hout) (g := F0 m pc ls (.int i :: .ref a :: rest)) rfl (rest := rest) rfl (by rw [hb]; exact hdg) t
  simp only [arrV_size] at h1
  exact h1 st
theorem vx_iastZ {D : va_G} {cl : List vw_C} {ws : va_W} {tys : List (ClassId × FieldType)} {a : Nat} (hexec : p.tables.exec = Jvm.exec) (hb : c.code = cc) (hK : va_K D cl tys s) (hP : va_P D cl ws H) (q0 t0 : Nat) {cA : ClassId} {n : Nat} {f : Nat → Int32} (ha : ws[q0]? = some (a, .inl (cA, n, .inl f))) (ht : tys[t0]? = some (cA, .int)) {i : Int32} {x : Int32} (hout : ¬ vp_in i n) (hdg : decode cc pc = .ok (.iastore, 1))
    (k : ∀ tx : String, tx = (toString "Index " ++ toString i ++ toString " out of bounds for length " ++ toString n : String) → vx_Note p l e R s m args below meth c H locs cells slots Q (F0 m pc ls rest) "java/lang/ArrayIndexOutOfBoundsException" tx) : W p l e R s m args below meth c H locs cells slots Q (F0 m pc ls (.int x :: .int i :: .ref a :: rest)) := by
  intro T hT X
  obtain ⟨t, st, q⟩ := k _ rfl T hT X
  refine ⟨t, ?_, q⟩
  have h1 := X.iastoreOut hexec (by rw [hT]; exact hP q0 _ ha) ((hK.2 t0 _ ht).1 n (fun j => .int (f j))) (j := i) (by show (i < 0 ∨ (arrV _ _ _).slots.size ≤ _); rw [arrV_size]; exact Classical.byContradiction hout) (g := F0 m pc ls (.int x :: .int i :: .ref a :: rest)) rfl (rest := rest) rfl (by rw [hb]; exact hdg) t
  simp only [arrV_size] at h1
  exact h1 st
theorem vx_baldZ {D : va_G} {cl : List vw_C} {ws : va_W} {tys : List (ClassId × FieldType)} {a : Nat} (hexec : p.tables.exec = Jvm.exec) (hb : c.code = cc) (hK : va_K D cl tys s) (hP : va_P D cl ws H) (q0 t0 : Nat) {cA : ClassId} {n : Nat} {f : Nat → Int32} (ha : ws[q0]? = some (a, .inl (cA, n, .inl f))) (ht : tys[t0]? = some (cA, .byte)) {i : Int32} (hout : ¬ vp_in i n) (hdg : decode cc pc = .ok (.baload, 1))
    (k : ∀ tx : String, tx = (toString "Index " ++ toString i ++ toString " out of bounds for length " ++ toString n : String) → vx_Note p l e R s m args below meth c H locs cells slots Q (F0 m pc ls rest) "java/lang/ArrayIndexOutOfBoundsException" tx) : W p l e R s m args below meth c H locs cells slots Q (F0 m pc ls (.int i :: .ref a :: rest)) := by
  intro T hT X
  obtain ⟨t, st, q⟩ := k _ rfl T hT X
  refine ⟨t, ?_, q⟩
  have h1 := X.baloadOut hexec (by rw [hT]; exact hP q0 _ ha) ((hK.2 t0 _ ht).1 n (fun j => .int (f j))) (j := i) (by show (i < 0 ∨ (arrV _ _ _).slots.size ≤ _); rw [arrV_size]; exact Classical.byContradiction hout) (g := F0 m pc ls (.int i :: .ref a :: rest)) rfl (rest := rest) rfl (by rw [hb]; exact hdg) t
  simp only [arrV_size] at h1
  exact h1 st
theorem vx_bastZ {D : va_G} {cl : List vw_C} {ws : va_W} {tys : List (ClassId × FieldType)} {a : Nat} (hexec : p.tables.exec = Jvm.exec) (hb : c.code = cc) (hK : va_K D cl tys s) (hP : va_P D cl ws H) (q0 t0 : Nat) {cA : ClassId} {n : Nat} {f : Nat → Int32} (ha : ws[q0]? = some (a, .inl (cA, n, .inl f))) (ht : tys[t0]? = some (cA, .byte)) {i : Int32} {x : Int32} (hout : ¬ vp_in i n) (hdg : decode cc pc = .ok (.bastore, 1))
    (k : ∀ tx : String, tx = (toString "Index " ++ toString i ++ toString " out of bounds for length " ++ toString n : String) → vx_Note p l e R s m args below meth c H locs cells slots Q (F0 m pc ls rest) "java/lang/ArrayIndexOutOfBoundsException" tx) : W p l e R s m args below meth c H locs cells slots Q (F0 m pc ls (.int x :: .int i :: .ref a :: rest)) := by
  intro T hT X
  obtain ⟨t, st, q⟩ := k _ rfl T hT X
  refine ⟨t, ?_, q⟩
  have h1 := X.bastoreOut hexec (by rw [hT]; exact hP q0 _ ha) ((hK.2 t0 _ ht).1 n (fun j => .int (f j))) (j := i) (by show (i < 0 ∨ (arrV _ _ _).slots.size ≤ _); rw [arrV_size]; exact Classical.byContradiction hout) (g := F0 m pc ls (.int x :: .int i :: .ref a :: rest)) rfl (rest := rest) rfl (by rw [hb]; exact hdg) t
  simp only [arrV_size] at h1
  exact h1 st
theorem vx_zaldZ {D : va_G} {cl : List vw_C} {ws : va_W} {tys : List (ClassId × FieldType)} {a : Nat} (hexec : p.tables.exec = Jvm.exec) (hb : c.code = cc) (hK : va_K D cl tys s) (hP : va_P D cl ws H) (q0 t0 : Nat) {cA : ClassId} {n : Nat} {f : Nat → Int32} (ha : ws[q0]? = some (a, .inl (cA, n, .inl f))) (ht : tys[t0]? = some (cA, .boolean)) {i : Int32} (hout : ¬ vp_in i n) (hdg : decode cc pc = .ok (.baload, 1))
    (k : ∀ tx : String, tx = (toString "Index " ++ toString i ++ toString " out of bounds for length " ++ toString n : String) → vx_Note p l e R s m args below meth c H locs cells slots Q (F0 m pc ls rest) "java/lang/ArrayIndexOutOfBoundsException" tx) : W p l e R s m args below meth c H locs cells slots Q (F0 m pc ls (.int i :: .ref a :: rest)) := by
  intro T hT X
  obtain ⟨t, st, q⟩ := k _ rfl T hT X
  refine ⟨t, ?_, q⟩
  have h1 := X.baloadOut hexec (by rw [hT]; exact hP q0 _ ha) ((hK.2 t0 _ ht).1 n (fun j => .int (f j))) (j := i) (by show (i < 0 ∨ (arrV _ _ _).slots.size ≤ _); rw [arrV_size]; exact Classical.byContradiction hout) (g := F0 m pc ls (.int i :: .ref a :: rest)) rfl (rest := rest) rfl (by rw [hb]; exact hdg) t
  simp only [arrV_size] at h1
  exact h1 st
theorem vx_zastZ {D : va_G} {cl : List vw_C} {ws : va_W} {tys : List (ClassId × FieldType)} {a : Nat} (hexec : p.tables.exec = Jvm.exec) (hb : c.code = cc) (hK : va_K D cl tys s) (hP : va_P D cl ws H) (q0 t0 : Nat) {cA : ClassId} {n : Nat} {f : Nat → Int32} (ha : ws[q0]? = some (a, .inl (cA, n, .inl f))) (ht : tys[t0]? = some (cA, .boolean)) {i : Int32} {x : Int32} (hout : ¬ vp_in i n) (hdg : decode cc pc = .ok (.bastore, 1))
    (k : ∀ tx : String, tx = (toString "Index " ++ toString i ++ toString " out of bounds for length " ++ toString n : String) → vx_Note p l e R s m args below meth c H locs cells slots Q (F0 m pc ls rest) "java/lang/ArrayIndexOutOfBoundsException" tx) : W p l e R s m args below meth c H locs cells slots Q (F0 m pc ls (.int x :: .int i :: .ref a :: rest)) := by
  intro T hT X
  obtain ⟨t, st, q⟩ := k _ rfl T hT X
  refine ⟨t, ?_, q⟩
  have h1 := X.bastoreOut hexec (by rw [hT]; exact hP q0 _ ha) ((hK.2 t0 _ ht).1 n (fun j => .int (f j))) (j := i) (by show (i < 0 ∨ (arrV _ _ _).slots.size ≤ _); rw [arrV_size]; exact Classical.byContradiction hout) (g := F0 m pc ls (.int x :: .int i :: .ref a :: rest)) rfl (rest := rest) rfl (by rw [hb]; exact hdg) t
  simp only [arrV_size] at h1
  exact h1 st
theorem vx_caldZ {D : va_G} {cl : List vw_C} {ws : va_W} {tys : List (ClassId × FieldType)} {a : Nat} (hexec : p.tables.exec = Jvm.exec) (hb : c.code = cc) (hK : va_K D cl tys s) (hP : va_P D cl ws H) (q0 t0 : Nat) {cA : ClassId} {n : Nat} {f : Nat → Int32} (ha : ws[q0]? = some (a, .inl (cA, n, .inl f))) (ht : tys[t0]? = some (cA, .char)) {i : Int32} (hout : ¬ vp_in i n) (hdg : decode cc pc = .ok (.caload, 1))
    (k : ∀ tx : String, tx = (toString "Index " ++ toString i ++ toString " out of bounds for length " ++ toString n : String) → vx_Note p l e R s m args below meth c H locs cells slots Q (F0 m pc ls rest) "java/lang/ArrayIndexOutOfBoundsException" tx) : W p l e R s m args below meth c H locs cells slots Q (F0 m pc ls (.int i :: .ref a :: rest)) := by
  intro T hT X
  obtain ⟨t, st, q⟩ := k _ rfl T hT X
  refine ⟨t, ?_, q⟩
  have h1 := X.caloadOut hexec (by rw [hT]; exact hP q0 _ ha) ((hK.2 t0 _ ht).1 n (fun j => .int (f j))) (j := i) (by show (i < 0 ∨ (arrV _ _ _).slots.size ≤ _); rw [arrV_size]; exact Classical.byContradiction hout) (g := F0 m pc ls (.int i :: .ref a :: rest)) rfl (rest := rest) rfl (by rw [hb]; exact hdg) t
  simp only [arrV_size] at h1
  exact h1 st
theorem vx_castZ {D : va_G} {cl : List vw_C} {ws : va_W} {tys : List (ClassId × FieldType)} {a : Nat} (hexec : p.tables.exec = Jvm.exec) (hb : c.code = cc) (hK : va_K D cl tys s) (hP : va_P D cl ws H) (q0 t0 : Nat) {cA : ClassId} {n : Nat} {f : Nat → Int32} (ha : ws[q0]? = some (a, .inl (cA, n, .inl f))) (ht : tys[t0]? = some (cA, .char)) {i : Int32} {x : Int32} (hout : ¬ vp_in i n) (hdg : decode cc pc = .ok (.castore, 1))
    (k : ∀ tx : String, tx = (toString "Index " ++ toString i ++ toString " out of bounds for length " ++ toString n : String) → vx_Note p l e R s m args below meth c H locs cells slots Q (F0 m pc ls rest) "java/lang/ArrayIndexOutOfBoundsException" tx) : W p l e R s m args below meth c H locs cells slots Q (F0 m pc ls (.int x :: .int i :: .ref a :: rest)) := by
  intro T hT X
  obtain ⟨t, st, q⟩ := k _ rfl T hT X
  refine ⟨t, ?_, q⟩
  have h1 := X.castoreOut hexec (by rw [hT]; exact hP q0 _ ha) ((hK.2 t0 _ ht).1 n (fun j => .int (f j))) (j := i) (by show (i < 0 ∨ (arrV _ _ _).slots.size ≤ _); rw [arrV_size]; exact Classical.byContradiction hout) (g := F0 m pc ls (.int x :: .int i :: .ref a :: rest)) rfl (rest := rest) rfl (by rw [hb]; exact hdg) t
  simp only [arrV_size] at h1
  exact h1 st
theorem vx_saldZ {D : va_G} {cl : List vw_C} {ws : va_W} {tys : List (ClassId × FieldType)} {a : Nat} (hexec : p.tables.exec = Jvm.exec) (hb : c.code = cc) (hK : va_K D cl tys s) (hP : va_P D cl ws H) (q0 t0 : Nat) {cA : ClassId} {n : Nat} {f : Nat → Int32} (ha : ws[q0]? = some (a, .inl (cA, n, .inl f))) (ht : tys[t0]? = some (cA, .short)) {i : Int32} (hout : ¬ vp_in i n) (hdg : decode cc pc = .ok (.saload, 1))
    (k : ∀ tx : String, tx = (toString "Index " ++ toString i ++ toString " out of bounds for length " ++ toString n : String) → vx_Note p l e R s m args below meth c H locs cells slots Q (F0 m pc ls rest) "java/lang/ArrayIndexOutOfBoundsException" tx) : W p l e R s m args below meth c H locs cells slots Q (F0 m pc ls (.int i :: .ref a :: rest)) := by
  intro T hT X
  obtain ⟨t, st, q⟩ := k _ rfl T hT X
  refine ⟨t, ?_, q⟩
  have h1 := X.saloadOut hexec (by rw [hT]; exact hP q0 _ ha) ((hK.2 t0 _ ht).1 n (fun j => .int (f j))) (j := i) (by show (i < 0 ∨ (arrV _ _ _).slots.size ≤ _); rw [arrV_size]; exact Classical.byContradiction hout) (g := F0 m pc ls (.int i :: .ref a :: rest)) rfl (rest := rest) rfl (by rw [hb]; exact hdg) t
  simp only [arrV_size] at h1
  exact h1 st
theorem vx_sastZ {D : va_G} {cl : List vw_C} {ws : va_W} {tys : List (ClassId × FieldType)} {a : Nat} (hexec : p.tables.exec = Jvm.exec) (hb : c.code = cc) (hK : va_K D cl tys s) (hP : va_P D cl ws H) (q0 t0 : Nat) {cA : ClassId} {n : Nat} {f : Nat → Int32} (ha : ws[q0]? = some (a, .inl (cA, n, .inl f))) (ht : tys[t0]? = some (cA, .short)) {i : Int32} {x : Int32} (hout : ¬ vp_in i n) (hdg : decode cc pc = .ok (.sastore, 1))
    (k : ∀ tx : String, tx = (toString "Index " ++ toString i ++ toString " out of bounds for length " ++ toString n : String) → vx_Note p l e R s m args below meth c H locs cells slots Q (F0 m pc ls rest) "java/lang/ArrayIndexOutOfBoundsException" tx) : W p l e R s m args below meth c H locs cells slots Q (F0 m pc ls (.int x :: .int i :: .ref a :: rest)) := by
  intro T hT X
  obtain ⟨t, st, q⟩ := k _ rfl T hT X
  refine ⟨t, ?_, q⟩
  have h1 := X.sastoreOut hexec (by rw [hT]; exact hP q0 _ ha) ((hK.2 t0 _ ht).1 n (fun j => .int (f j))) (j := i) (by show (i < 0 ∨ (arrV _ _ _).slots.size ≤ _); rw [arrV_size]; exact Classical.byContradiction hout) (g := F0 m pc ls (.int x :: .int i :: .ref a :: rest)) rfl (rest := rest) rfl (by rw [hb]; exact hdg) t
  simp only [arrV_size] at h1
  exact h1 st
theorem vx_laldZ {D : va_G} {cl : List vw_C} {ws : va_W} {tys : List (ClassId × FieldType)} {a : Nat} (hexec : p.tables.exec = Jvm.exec) (hb : c.code = cc) (hK : va_K D cl tys s) (hP : va_P D cl ws H) (q0 t0 : Nat) {cA : ClassId} {n : Nat} {f : Nat → Int64} (ha : ws[q0]? = some (a, .inl (cA, n, .inr (.inl f)))) (ht : tys[t0]? = some (cA, .long)) {i : Int32} (hout : ¬ vp_in i n) (hdg : decode cc pc = .ok (.laload, 1))
    (k : ∀ tx : String, tx = (toString "Index " ++ toString i ++ toString " out of bounds for length " ++ toString n : String) → vx_Note p l e R s m args below meth c H locs cells slots Q (F0 m pc ls rest) "java/lang/ArrayIndexOutOfBoundsException" tx) : W p l e R s m args below meth c H locs cells slots Q (F0 m pc ls (.int i :: .ref a :: rest)) := by
  intro T hT X
  obtain ⟨t, st, q⟩ := k _ rfl T hT X
  refine ⟨t, ?_, q⟩
  have h1 := X.laloadOut hexec (by rw [hT]; exact hP q0 _ ha) ((hK.2 t0 _ ht).1 n (fun j => .long (f j))) (j := i) (by show (i < 0 ∨ (arrV _ _ _).slots.size ≤ _); rw [arrV_size]; exact Classical.byContradiction hout) (g := F0 m pc ls (.int i :: .ref a :: rest)) rfl (rest := rest) rfl (by rw [hb]; exact hdg) t
  simp only [arrV_size] at h1
  exact h1 st
theorem vx_lastZ {D : va_G} {cl : List vw_C} {ws : va_W} {tys : List (ClassId × FieldType)} {a : Nat} (hexec : p.tables.exec = Jvm.exec) (hb : c.code = cc) (hK : va_K D cl tys s) (hP : va_P D cl ws H) (q0 t0 : Nat) {cA : ClassId} {n : Nat} {f : Nat → Int64} (ha : ws[q0]? = some (a, .inl (cA, n, .inr (.inl f)))) (ht : tys[t0]? = some (cA, .long)) {i : Int32} {x : Int64} (hout : ¬ vp_in i n) (hdg : decode cc pc = .ok (.lastore, 1))
    (k : ∀ tx : String, tx = (toString "Index " ++ toString i ++ toString " out of bounds for length " ++ toString n : String) → vx_Note p l e R s m args below meth c H locs cells slots Q (F0 m pc ls rest) "java/lang/ArrayIndexOutOfBoundsException" tx) : W p l e R s m args below meth c H locs cells slots Q (F0 m pc ls (.long x :: .int i :: .ref a :: rest)) := by
  intro T hT X
  obtain ⟨t, st, q⟩ := k _ rfl T hT X
  refine ⟨t, ?_, q⟩
  have h1 := X.lastoreOut hexec (by rw [hT]; exact hP q0 _ ha) ((hK.2 t0 _ ht).1 n (fun j => .long (f j))) (j := i) (by show (i < 0 ∨ (arrV _ _ _).slots.size ≤ _); rw [arrV_size]; exact Classical.byContradiction hout) (g := F0 m pc ls (.long x :: .int i :: .ref a :: rest)) rfl (rest := rest) rfl (by rw [hb]; exact hdg) t
  simp only [arrV_size] at h1
  exact h1 st
theorem vx_faldZ {D : va_G} {cl : List vw_C} {ws : va_W} {tys : List (ClassId × FieldType)} {a : Nat} (hexec : p.tables.exec = Jvm.exec) (hb : c.code = cc) (hK : va_K D cl tys s) (hP : va_P D cl ws H) (q0 t0 : Nat) {cA : ClassId} {n : Nat} {f : Nat → UInt32} (ha : ws[q0]? = some (a, .inl (cA, n, .inr (.inr (.inl f))))) (ht : tys[t0]? = some (cA, .float)) {i : Int32} (hout : ¬ vp_in i n) (hdg : decode cc pc = .ok (.faload, 1))
    (k : ∀ tx : String, tx = (toString "Index " ++ toString i ++ toString " out of bounds for length " ++ toString n : String) → vx_Note p l e R s m args below meth c H locs cells slots Q (F0 m pc ls rest) "java/lang/ArrayIndexOutOfBoundsException" tx) : W p l e R s m args below meth c H locs cells slots Q (F0 m pc ls (.int i :: .ref a :: rest)) := by
  intro T hT X
  obtain ⟨t, st, q⟩ := k _ rfl T hT X
  refine ⟨t, ?_, q⟩
  have h1 := X.faloadOut hexec (by rw [hT]; exact hP q0 _ ha) ((hK.2 t0 _ ht).1 n (fun j => .float (f j))) (j := i) (by show (i < 0 ∨ (arrV _ _ _).slots.size ≤ _); rw [arrV_size]; exact Classical.byContradiction hout) (g := F0 m pc ls (.int i :: .ref a :: rest)) rfl (rest := rest) rfl (by rw [hb]; exact hdg) t
  simp only [arrV_size] at h1
  exact h1 st
theorem vx_fastZ {D : va_G} {cl : List vw_C} {ws : va_W} {tys : List (ClassId × FieldType)} {a : Nat} (hexec : p.tables.exec = Jvm.exec) (hb : c.code = cc) (hK : va_K D cl tys s) (hP : va_P D cl ws H) (q0 t0 : Nat) {cA : ClassId} {n : Nat} {f : Nat → UInt32} (ha : ws[q0]? = some (a, .inl (cA, n, .inr (.inr (.inl f))))) (ht : tys[t0]? = some (cA, .float)) {i : Int32} {x : UInt32} (hout : ¬ vp_in i n) (hdg : decode cc pc = .ok (.fastore, 1))
    (k : ∀ tx : String, tx = (toString "Index " ++ toString i ++ toString " out of bounds for length " ++ toString n : String) → vx_Note p l e R s m args below meth c H locs cells slots Q (F0 m pc ls rest) "java/lang/ArrayIndexOutOfBoundsException" tx) : W p l e R s m args below meth c H locs cells slots Q (F0 m pc ls (.float x :: .int i :: .ref a :: rest)) := by
  intro T hT X
  obtain ⟨t, st, q⟩ := k _ rfl T hT X
  refine ⟨t, ?_, q⟩
  have h1 := X.fastoreOut hexec (by rw [hT]; exact hP q0 _ ha) ((hK.2 t0 _ ht).1 n (fun j => .float (f j))) (j := i) (by show (i < 0 ∨ (arrV _ _ _).slots.size ≤ _); rw [arrV_size]; exact Classical.byContradiction hout) (g := F0 m pc ls (.float x :: .int i :: .ref a :: rest)) rfl (rest := rest) rfl (by rw [hb]; exact hdg) t
  simp only [arrV_size] at h1
  exact h1 st
theorem vx_daldZ {D : va_G} {cl : List vw_C} {ws : va_W} {tys : List (ClassId × FieldType)} {a : Nat} (hexec : p.tables.exec = Jvm.exec) (hb : c.code = cc) (hK : va_K D cl tys s) (hP : va_P D cl ws H) (q0 t0 : Nat) {cA : ClassId} {n : Nat} {f : Nat → UInt64} (ha : ws[q0]? = some (a, .inl (cA, n, .inr (.inr (.inr (.inl f)))))) (ht : tys[t0]? = some (cA, .double)) {i : Int32} (hout : ¬ vp_in i n) (hdg : decode cc pc = .ok (.daload, 1))
    (k : ∀ tx : String, tx = (toString "Index " ++ toString i ++ toString " out of bounds for length " ++ toString n : String) → vx_Note p l e R s m args below meth c H locs cells slots Q (F0 m pc ls rest) "java/lang/ArrayIndexOutOfBoundsException" tx) : W p l e R s m args below meth c H locs cells slots Q (F0 m pc ls (.int i :: .ref a :: rest)) := by
  intro T hT X
  obtain ⟨t, st, q⟩ := k _ rfl T hT X
  refine ⟨t, ?_, q⟩
  have h1 := X.daloadOut hexec (by rw [hT]; exact hP q0 _ ha) ((hK.2 t0 _ ht).1 n (fun j => .double (f j))) (j := i) (by show (i < 0 ∨ (arrV _ _ _).slots.size ≤ _); rw [arrV_size]; exact Classical.byContradiction hout) (g := F0 m pc ls (.int i :: .ref a :: rest)) rfl (rest := rest) rfl (by rw [hb]; exact hdg) t
  simp only [arrV_size] at h1
  exact h1 st
theorem vx_dastZ {D : va_G} {cl : List vw_C} {ws : va_W} {tys : List (ClassId × FieldType)} {a : Nat} (hexec : p.tables.exec = Jvm.exec) (hb : c.code = cc) (hK : va_K D cl tys s) (hP : va_P D cl ws H) (q0 t0 : Nat) {cA : ClassId} {n : Nat} {f : Nat → UInt64} (ha : ws[q0]? = some (a, .inl (cA, n, .inr (.inr (.inr (.inl f)))))) (ht : tys[t0]? = some (cA, .double)) {i : Int32} {x : UInt64} (hout : ¬ vp_in i n) (hdg : decode cc pc = .ok (.dastore, 1))
    (k : ∀ tx : String, tx = (toString "Index " ++ toString i ++ toString " out of bounds for length " ++ toString n : String) → vx_Note p l e R s m args below meth c H locs cells slots Q (F0 m pc ls rest) "java/lang/ArrayIndexOutOfBoundsException" tx) : W p l e R s m args below meth c H locs cells slots Q (F0 m pc ls (.double x :: .int i :: .ref a :: rest)) := by
  intro T hT X
  obtain ⟨t, st, q⟩ := k _ rfl T hT X
  refine ⟨t, ?_, q⟩
  have h1 := X.dastoreOut hexec (by rw [hT]; exact hP q0 _ ha) ((hK.2 t0 _ ht).1 n (fun j => .double (f j))) (j := i) (by show (i < 0 ∨ (arrV _ _ _).slots.size ≤ _); rw [arrV_size]; exact Classical.byContradiction hout) (g := F0 m pc ls (.double x :: .int i :: .ref a :: rest)) rfl (rest := rest) rfl (by rw [hb]; exact hdg) t
  simp only [arrV_size] at h1
  exact h1 st
theorem vx_arraylengthN (hexec : p.tables.exec = Jvm.exec) (hb : c.code = cc) (hdg : decode cc pc = .ok (.arraylength, 1)) (k : vx_NoteN p l e R s m args below meth c H locs cells slots Q (F0 m pc ls rest)) : W p l e R s m args below meth c H locs cells slots Q (F0 m pc ls (.null :: rest)) := by
  intro T hT X
  obtain ⟨t, st, q⟩ := k T hT X
  exact ⟨t, X.arraylengthNull hexec (g := F0 m pc ls (.null :: rest)) rfl (rest := rest) rfl (by rw [hb]; exact hdg) t st, q⟩
theorem vx_ialoadN (hexec : p.tables.exec = Jvm.exec) (hb : c.code = cc) {i : Int32} (hdg : decode cc pc = .ok (.iaload, 1)) (k : vx_NoteN p l e R s m args below meth c H locs cells slots Q (F0 m pc ls rest)) : W p l e R s m args below meth c H locs cells slots Q (F0 m pc ls (.int i :: .null :: rest)) := by
  intro T hT X
  obtain ⟨t, st, q⟩ := k T hT X
  exact ⟨t, X.ialoadNull hexec (g := F0 m pc ls (.int i :: .null :: rest)) rfl (rest := rest) rfl (by rw [hb]; exact hdg) t st, q⟩
theorem vx_laloadN (hexec : p.tables.exec = Jvm.exec) (hb : c.code = cc) {i : Int32} (hdg : decode cc pc = .ok (.laload, 1)) (k : vx_NoteN p l e R s m args below meth c H locs cells slots Q (F0 m pc ls rest)) : W p l e R s m args below meth c H locs cells slots Q (F0 m pc ls (.int i :: .null :: rest)) := by
  intro T hT X
  obtain ⟨t, st, q⟩ := k T hT X
  exact ⟨t, X.laloadNull hexec (g := F0 m pc ls (.int i :: .null :: rest)) rfl (rest := rest) rfl (by rw [hb]; exact hdg) t st, q⟩
theorem vx_faloadN (hexec : p.tables.exec = Jvm.exec) (hb : c.code = cc) {i : Int32} (hdg : decode cc pc = .ok (.faload, 1)) (k : vx_NoteN p l e R s m args below meth c H locs cells slots Q (F0 m pc ls rest)) : W p l e R s m args below meth c H locs cells slots Q (F0 m pc ls (.int i :: .null :: rest)) := by
  intro T hT X
  obtain ⟨t, st, q⟩ := k T hT X
  exact ⟨t, X.faloadNull hexec (g := F0 m pc ls (.int i :: .null :: rest)) rfl (rest := rest) rfl (by rw [hb]; exact hdg) t st, q⟩
theorem vx_daloadN (hexec : p.tables.exec = Jvm.exec) (hb : c.code = cc) {i : Int32} (hdg : decode cc pc = .ok (.daload, 1)) (k : vx_NoteN p l e R s m args below meth c H locs cells slots Q (F0 m pc ls rest)) : W p l e R s m args below meth c H locs cells slots Q (F0 m pc ls (.int i :: .null :: rest)) := by
  intro T hT X
  obtain ⟨t, st, q⟩ := k T hT X
  exact ⟨t, X.daloadNull hexec (g := F0 m pc ls (.int i :: .null :: rest)) rfl (rest := rest) rfl (by rw [hb]; exact hdg) t st, q⟩
theorem vx_aaloadN (hexec : p.tables.exec = Jvm.exec) (hb : c.code = cc) {i : Int32} (hdg : decode cc pc = .ok (.aaload, 1)) (k : vx_NoteN p l e R s m args below meth c H locs cells slots Q (F0 m pc ls rest)) : W p l e R s m args below meth c H locs cells slots Q (F0 m pc ls (.int i :: .null :: rest)) := by
  intro T hT X
  obtain ⟨t, st, q⟩ := k T hT X
  exact ⟨t, X.aaloadNull hexec (g := F0 m pc ls (.int i :: .null :: rest)) rfl (rest := rest) rfl (by rw [hb]; exact hdg) t st, q⟩
theorem vx_baloadN (hexec : p.tables.exec = Jvm.exec) (hb : c.code = cc) {i : Int32} (hdg : decode cc pc = .ok (.baload, 1)) (k : vx_NoteN p l e R s m args below meth c H locs cells slots Q (F0 m pc ls rest)) : W p l e R s m args below meth c H locs cells slots Q (F0 m pc ls (.int i :: .null :: rest)) := by
  intro T hT X
  obtain ⟨t, st, q⟩ := k T hT X
  exact ⟨t, X.baloadNull hexec (g := F0 m pc ls (.int i :: .null :: rest)) rfl (rest := rest) rfl (by rw [hb]; exact hdg) t st, q⟩
theorem vx_caloadN (hexec : p.tables.exec = Jvm.exec) (hb : c.code = cc) {i : Int32} (hdg : decode cc pc = .ok (.caload, 1)) (k : vx_NoteN p l e R s m args below meth c H locs cells slots Q (F0 m pc ls rest)) : W p l e R s m args below meth c H locs cells slots Q (F0 m pc ls (.int i :: .null :: rest)) := by
  intro T hT X
  obtain ⟨t, st, q⟩ := k T hT X
  exact ⟨t, X.caloadNull hexec (g := F0 m pc ls (.int i :: .null :: rest)) rfl (rest := rest) rfl (by rw [hb]; exact hdg) t st, q⟩
theorem vx_saloadN (hexec : p.tables.exec = Jvm.exec) (hb : c.code = cc) {i : Int32} (hdg : decode cc pc = .ok (.saload, 1)) (k : vx_NoteN p l e R s m args below meth c H locs cells slots Q (F0 m pc ls rest)) : W p l e R s m args below meth c H locs cells slots Q (F0 m pc ls (.int i :: .null :: rest)) := by
  intro T hT X
  obtain ⟨t, st, q⟩ := k T hT X
  exact ⟨t, X.saloadNull hexec (g := F0 m pc ls (.int i :: .null :: rest)) rfl (rest := rest) rfl (by rw [hb]; exact hdg) t st, q⟩
theorem vx_iastoreN (hexec : p.tables.exec = Jvm.exec) (hb : c.code = cc) {x : Int32} {i : Int32} (hdg : decode cc pc = .ok (.iastore, 1)) (k : vx_NoteN p l e R s m args below meth c H locs cells slots Q (F0 m pc ls rest)) : W p l e R s m args below meth c H locs cells slots Q (F0 m pc ls (.int x :: .int i :: .null :: rest)) := by
  intro T hT X
  obtain ⟨t, st, q⟩ := k T hT X
  exact ⟨t, X.iastoreNull hexec (g := F0 m pc ls (.int x :: .int i :: .null :: rest)) rfl (rest := rest) rfl (by rw [hb]; exact hdg) t st, q⟩
theorem vx_lastoreN (hexec : p.tables.exec = Jvm.exec) (hb : c.code = cc) {x : Int64} {i : Int32} (hdg : decode cc pc = .ok (.lastore, 1)) (k : vx_NoteN p l e R s m args below meth c H locs cells slots Q (F0 m pc ls rest)) : W p l e R s m args below meth c H locs cells slots Q (F0 m pc ls (.long x :: .int i :: .null :: rest)) := by
  intro T hT X
  obtain ⟨t, st, q⟩ := k T hT X
  exact ⟨t, X.lastoreNull hexec (g := F0 m pc ls (.long x :: .int i :: .null :: rest)) rfl (rest := rest) rfl (by rw [hb]; exact hdg) t st, q⟩
theorem vx_fastoreN (hexec : p.tables.exec = Jvm.exec) (hb : c.code = cc) {x : UInt32} {i : Int32} (hdg : decode cc pc = .ok (.fastore, 1)) (k : vx_NoteN p l e R s m args below meth c H locs cells slots Q (F0 m pc ls rest)) : W p l e R s m args below meth c H locs cells slots Q (F0 m pc ls (.float x :: .int i :: .null :: rest)) := by
  intro T hT X
  obtain ⟨t, st, q⟩ := k T hT X
  exact ⟨t, X.fastoreNull hexec (g := F0 m pc ls (.float x :: .int i :: .null :: rest)) rfl (rest := rest) rfl (by rw [hb]; exact hdg) t st, q⟩
theorem vx_dastoreN (hexec : p.tables.exec = Jvm.exec) (hb : c.code = cc) {x : UInt64} {i : Int32} (hdg : decode cc pc = .ok (.dastore, 1)) (k : vx_NoteN p l e R s m args below meth c H locs cells slots Q (F0 m pc ls rest)) : W p l e R s m args below meth c H locs cells slots Q (F0 m pc ls (.double x :: .int i :: .null :: rest)) := by
  intro T hT X
  obtain ⟨t, st, q⟩ := k T hT X
  exact ⟨t, X.dastoreNull hexec (g := F0 m pc ls (.double x :: .int i :: .null :: rest)) rfl (rest := rest) rfl (by rw [hb]; exact hdg) t st, q⟩
theorem vx_bastoreN (hexec : p.tables.exec = Jvm.exec) (hb : c.code = cc) {x : Int32} {i : Int32} (hdg : decode cc pc = .ok (.bastore, 1)) (k : vx_NoteN p l e R s m args below meth c H locs cells slots Q (F0 m pc ls rest)) : W p l e R s m args below meth c H locs cells slots Q (F0 m pc ls (.int x :: .int i :: .null :: rest)) := by
  intro T hT X
  obtain ⟨t, st, q⟩ := k T hT X
  exact ⟨t, X.bastoreNull hexec (g := F0 m pc ls (.int x :: .int i :: .null :: rest)) rfl (rest := rest) rfl (by rw [hb]; exact hdg) t st, q⟩
theorem vx_castoreN (hexec : p.tables.exec = Jvm.exec) (hb : c.code = cc) {x : Int32} {i : Int32} (hdg : decode cc pc = .ok (.castore, 1)) (k : vx_NoteN p l e R s m args below meth c H locs cells slots Q (F0 m pc ls rest)) : W p l e R s m args below meth c H locs cells slots Q (F0 m pc ls (.int x :: .int i :: .null :: rest)) := by
  intro T hT X
  obtain ⟨t, st, q⟩ := k T hT X
  exact ⟨t, X.castoreNull hexec (g := F0 m pc ls (.int x :: .int i :: .null :: rest)) rfl (rest := rest) rfl (by rw [hb]; exact hdg) t st, q⟩
theorem vx_sastoreN (hexec : p.tables.exec = Jvm.exec) (hb : c.code = cc) {x : Int32} {i : Int32} (hdg : decode cc pc = .ok (.sastore, 1)) (k : vx_NoteN p l e R s m args below meth c H locs cells slots Q (F0 m pc ls rest)) : W p l e R s m args below meth c H locs cells slots Q (F0 m pc ls (.int x :: .int i :: .null :: rest)) := by
  intro T hT X
  obtain ⟨t, st, q⟩ := k T hT X
  exact ⟨t, X.sastoreNull hexec (g := F0 m pc ls (.int x :: .int i :: .null :: rest)) rfl (rest := rest) rfl (by rw [hb]; exact hdg) t st, q⟩
theorem vx_invokeN {own C : String} {index maxL : Nat} {y : MethodName} {bytes : ByteArray} {ret : Option FieldType} (hexec : p.tables.exec = Jvm.exec) (hb : c.code = cc) (hown : s.vm.findClass own = some m.cls) (hlink : (Cond.methodLink own index y).before args s = true) (hinst : (Cond.instanceMethod y).before args s = true) (hcode : (Cond.code y bytes maxL ret).before args s = true) (hsel : (Cond.selects C y y).before args s = true)
    (hx : y.cls ≠ "java/lang/invoke/MethodHandle" ∧ y.cls ≠ "java/lang/invoke/VarHandle") {As : List Value} (hlen : (parseMethodDescriptor y.desc).map (fun d => d.parameters.length) = some As.length) (hdg : decode cc pc = .ok (.invokevirtual index, 3))
    (k : vx_NoteN p l e R s m args below meth c H locs cells slots Q (F0 m pc ls rest)) {st0 : List Value} (hst : st0 = As.reverse ++ .null :: rest) : W p l e R s m args below meth c H locs cells slots Q (F0 m pc ls st0) := by
  intro T hT X
  obtain ⟨r0, r, hn, hrm, hstR, hsigR⟩ := va_Decl.of hinst hcode
  obtain ⟨c2, r2, m2, q1, q2, q3, q4, kP, hkP, hkPi⟩ := Cond.selects_spec hsel
  cases hn.symm.trans q3
  have hl9 : As.length = r.sig.parameters.length := by
    rw [hsigR] at hlen
    exact (Option.some.inj hlen).symm
  obtain ⟨vm', X1, st1⟩ := X.invokevirtualNull hexec hown hlink hn hrm hstR hkP hkPi hx (g := F0 m pc ls st0) rfl (argsL := As) (rest := rest) hl9 hst (by rw [hb]; exact hdg)
  obtain ⟨t, st, q⟩ := k (T.setVm vm') hT X1
  exact ⟨t, st1 t st, q⟩
theorem vx_newarrayZ {atype : ArrayType} (hexec : p.tables.exec = Jvm.exec) (hb : c.code = cc) {n : Int32} (h0 : n < 0) (hdg : decode cc pc = .ok (.newarray atype, 2)) (k : ∀ tx : String, tx = toString n → vx_Note p l e R s m args below meth c H locs cells slots Q (F0 m pc ls rest) "java/lang/NegativeArraySizeException" tx) : W p l e R s m args below meth c H locs cells slots Q (F0 m pc ls (.int n :: rest)) := by
  intro T hT X
  obtain ⟨t, st, q⟩ := k _ rfl T hT X
  exact ⟨t, X.newarrayNegative hexec (g := F0 m pc ls (.int n :: rest)) rfl h0 (rest := rest) rfl (by rw [hb]; exact hdg) t st, q⟩
end
end VXM
/-! ===== END ===== -/
end
section
def RX0 : String := "GraticulePress$Edition"
def TX0 : u_T := fun k => match k with
  | _ => ("GraticulePress$Edition", "pictures", "[LGraticulePress$Grid;", true)
def tyX0 : Nat → FieldType := fun k => match k with
  | _ => .array (.object "GraticulePress$Grid")
abbrev wsX00 : List Cond := u_ws RX0 TX0 1
theorem nmX0 : ∀ a, a < 1 → ∀ b, b < 1 → a ≠ b → (TX0 a).2.1 ≠ (TX0 b).2.1 := by decide +kernel
theorem tyX0_ok : ∀ k, k < 1 → parseFieldDescriptor (TX0 k).2.2.1 = some (tyX0 k) := by decide +kernel
abbrev cX0_init : ByteArray := prog_2_method_1_code
def yX0_init : MethodName := ⟨RX0, "<init>", "()V"⟩
abbrev cX0_keep : ByteArray := prog_2_method_2_code
def yX0_keep : MethodName := ⟨RX0, "keep", "(ILGraticulePress$Grid;)V"⟩
abbrev cX0_signAt : ByteArray := prog_2_method_3_code
def yX0_signAt : MethodName := ⟨RX0, "signAt", "(III)C"⟩
def RX1 : String := "GraticulePress$Grid"
def TX1 : u_T := fun k => match k with
  | _ => ("GraticulePress$Grid", "signs", "[C", true)
def tyX1 : Nat → FieldType := fun k => match k with
  | _ => .array .char
abbrev wsX10 : List Cond := u_ws RX1 TX1 1
theorem nmX1 : ∀ a, a < 1 → ∀ b, b < 1 → a ≠ b → (TX1 a).2.1 ≠ (TX1 b).2.1 := by decide +kernel
theorem tyX1_ok : ∀ k, k < 1 → parseFieldDescriptor (TX1 k).2.2.1 = some (tyX1 k) := by decide +kernel
abbrev cX1_init : ByteArray := prog_3_method_1_code
def yX1_init : MethodName := ⟨RX1, "<init>", "()V"⟩
abbrev cX1_clear : ByteArray := prog_3_method_2_code
def yX1_clear : MethodName := ⟨RX1, "clear", "()V"⟩
abbrev cX1_copyFrom : ByteArray := prog_3_method_3_code
def yX1_copyFrom : MethodName := ⟨RX1, "copyFrom", "(LGraticulePress$Grid;)V"⟩
abbrev cX1_signAt : ByteArray := prog_3_method_4_code
def yX1_signAt : MethodName := ⟨RX1, "signAt", "(II)C"⟩
abbrev cX1_setSign : ByteArray := prog_3_method_5_code
def yX1_setSign : MethodName := ⟨RX1, "setSign", "(IIC)V"⟩
abbrev cX1_write : ByteArray := prog_3_method_6_code
def yX1_write : MethodName := ⟨RX1, "write", "(IILjava/lang/String;)V"⟩
abbrev cX1_erase : ByteArray := prog_3_method_7_code
def yX1_erase : MethodName := ⟨RX1, "erase", "(III)V"⟩
abbrev cX1_isFree : ByteArray := prog_3_method_8_code
def yX1_isFree : MethodName := ⟨RX1, "isFree", "(III)Z"⟩
def RX2 : String := "GraticulePress$Place"
def TX2 : u_T := fun k => match k with
  | 0 => ("GraticulePress$Place", "length", "I", true)
  | 1 => ("GraticulePress$Place", "breadth", "I", true)
  | 2 => ("GraticulePress$Place", "rank", "I", true)
  | 3 => ("GraticulePress$Place", "spellings", "[LGraticulePress$Spelling;", true)
  | _ => ("GraticulePress$Place", "toldCount", "I", false)
def tyX2 : Nat → FieldType := fun k => match k with
  | 0 => .int
  | 1 => .int
  | 2 => .int
  | 3 => .array (.object "GraticulePress$Spelling")
  | _ => .int
abbrev wsX20 : List Cond := u_ws RX2 TX2 5
theorem nmX2 : ∀ a, a < 5 → ∀ b, b < 5 → a ≠ b → (TX2 a).2.1 ≠ (TX2 b).2.1 := by decide +kernel
theorem tyX2_ok : ∀ k, k < 5 → parseFieldDescriptor (TX2 k).2.2.1 = some (tyX2 k) := by decide +kernel
abbrev cX2_init : ByteArray := prog_4_method_1_code
def yX2_init : MethodName := ⟨RX2, "<init>", "(III)V"⟩
abbrev cX2_isToldOut : ByteArray := prog_4_method_2_code
def yX2_isToldOut : MethodName := ⟨RX2, "isToldOut", "()Z"⟩
abbrev cX2_tell : ByteArray := prog_4_method_3_code
def yX2_tell : MethodName := ⟨RX2, "tell", "(LGraticulePress$Spelling;)V"⟩
abbrev cX2_wordOn : ByteArray := prog_4_method_4_code
def yX2_wordOn : MethodName := ⟨RX2, "wordOn", "(I)Ljava/lang/String;"⟩
def RX3 : String := "GraticulePress$Sheet"
def TX3 : u_T := fun k => match k with
  | 0 => ("GraticulePress$Sheet", "picture", "LGraticulePress$Grid;", true)
  | 1 => ("GraticulePress$Sheet", "trial", "LGraticulePress$Grid;", true)
  | 2 => ("GraticulePress$Sheet", "length", "I", true)
  | 3 => ("GraticulePress$Sheet", "breadth", "I", true)
  | 4 => ("GraticulePress$Sheet", "kind", "I", true)
  | 5 => ("GraticulePress$Sheet", "spots", "[LGraticulePress$Spot;", true)
  | 6 => ("GraticulePress$Sheet", "spotCount", "I", false)
  | 7 => ("GraticulePress$Sheet", "named", "[LGraticulePress$Spot;", true)
  | _ => ("GraticulePress$Sheet", "namedCount", "I", false)
def tyX3 : Nat → FieldType := fun k => match k with
  | 0 => .object "GraticulePress$Grid"
  | 1 => .object "GraticulePress$Grid"
  | 2 => .int
  | 3 => .int
  | 4 => .int
  | 5 => .array (.object "GraticulePress$Spot")
  | 6 => .int
  | 7 => .array (.object "GraticulePress$Spot")
  | _ => .int
abbrev wsX30 : List Cond := u_ws RX3 TX3 9
theorem nmX3 : ∀ a, a < 9 → ∀ b, b < 9 → a ≠ b → (TX3 a).2.1 ≠ (TX3 b).2.1 := by decide +kernel
theorem tyX3_ok : ∀ k, k < 9 → parseFieldDescriptor (TX3 k).2.2.1 = some (tyX3 k) := by decide +kernel
abbrev cX3_init : ByteArray := prog_5_method_1_code
def yX3_init : MethodName := ⟨RX3, "<init>", "(III)V"⟩
abbrev cX3_show : ByteArray := prog_5_method_2_code
def yX3_show : MethodName := ⟨RX3, "show", "(LGraticulePress$Place;)V"⟩
abbrev cX3_has : ByteArray := prog_5_method_3_code
def yX3_has : MethodName := ⟨RX3, "has", "(LGraticulePress$Place;)Z"⟩
abbrev cX3_rowOf : ByteArray := prog_5_method_4_code
def yX3_rowOf : MethodName := ⟨RX3, "rowOf", "(LGraticulePress$Place;)I"⟩
abbrev cX3_columnOf : ByteArray := prog_5_method_5_code
def yX3_columnOf : MethodName := ⟨RX3, "columnOf", "(LGraticulePress$Place;)I"⟩
abbrev cX3_spotOf : ByteArray := prog_5_method_6_code
def yX3_spotOf : MethodName := ⟨RX3, "spotOf", "(I)LGraticulePress$Spot;"⟩
abbrev cX3_placeAnew : ByteArray := prog_5_method_7_code
def yX3_placeAnew : MethodName := ⟨RX3, "placeAnew", "(I)V"⟩
abbrev cX3_listNamed : ByteArray := prog_5_method_8_code
def yX3_listNamed : MethodName := ⟨RX3, "listNamed", "()V"⟩
abbrev cX3_drawDots : ByteArray := prog_5_method_9_code
def yX3_drawDots : MethodName := ⟨RX3, "drawDots", "(LGraticulePress$Grid;)V"⟩
abbrev cX3_pushedBeside : ByteArray := prog_5_method_10_code
def yX3_pushedBeside : MethodName := ⟨RX3, "pushedBeside", "(I)I"⟩
abbrev cX3_worthToday : ByteArray := prog_5_method_11_code
def yX3_worthToday : MethodName := ⟨RX3, "worthToday", "()I"⟩
abbrev cX3_greatestWorth : ByteArray := prog_5_method_12_code
def yX3_greatestWorth : MethodName := ⟨RX3, "greatestWorth", "()I"⟩
abbrev cX3_greatestFrom : ByteArray := prog_5_method_13_code
def yX3_greatestFrom : MethodName := ⟨RX3, "greatestFrom", "([LGraticulePress$Spot;IILGraticulePress$Grid;)I"⟩
abbrev cX3_ranksFrom : ByteArray := prog_5_method_14_code
def yX3_ranksFrom : MethodName := ⟨RX3, "ranksFrom", "([LGraticulePress$Spot;II)I"⟩
def RX4 : String := "GraticulePress$Spelling"
def TX4 : u_T := fun k => match k with
  | 0 => ("GraticulePress$Spelling", "day", "I", true)
  | _ => ("GraticulePress$Spelling", "word", "Ljava/lang/String;", true)
def tyX4 : Nat → FieldType := fun k => match k with
  | 0 => .int
  | _ => .object "java/lang/String"
abbrev wsX40 : List Cond := u_ws RX4 TX4 2
theorem nmX4 : ∀ a, a < 2 → ∀ b, b < 2 → a ≠ b → (TX4 a).2.1 ≠ (TX4 b).2.1 := by decide +kernel
theorem tyX4_ok : ∀ k, k < 2 → parseFieldDescriptor (TX4 k).2.2.1 = some (tyX4 k) := by decide +kernel
abbrev cX4_init : ByteArray := prog_6_method_1_code
def yX4_init : MethodName := ⟨RX4, "<init>", "(ILjava/lang/String;)V"⟩
def RX5 : String := "GraticulePress$Spot"
def TX5 : u_T := fun k => match k with
  | 0 => ("GraticulePress$Spot", "rank", "I", true)
  | 1 => ("GraticulePress$Spot", "column", "I", true)
  | 2 => ("GraticulePress$Spot", "row", "I", true)
  | 3 => ("GraticulePress$Spot", "place", "LGraticulePress$Place;", true)
  | 4 => ("GraticulePress$Spot", "word", "Ljava/lang/String;", false)
  | 5 => ("GraticulePress$Spot", "side", "I", false)
  | _ => ("GraticulePress$Spot", "sideAhead", "I", false)
def tyX5 : Nat → FieldType := fun k => match k with
  | 0 => .int
  | 1 => .int
  | 2 => .int
  | 3 => .object "GraticulePress$Place"
  | 4 => .object "java/lang/String"
  | 5 => .int
  | _ => .int
abbrev wsX50 : List Cond := u_ws RX5 TX5 7
theorem nmX5 : ∀ a, a < 7 → ∀ b, b < 7 → a ≠ b → (TX5 a).2.1 ≠ (TX5 b).2.1 := by decide +kernel
theorem tyX5_ok : ∀ k, k < 7 → parseFieldDescriptor (TX5 k).2.2.1 = some (tyX5 k) := by decide +kernel
abbrev cX5_init : ByteArray := prog_7_method_1_code
def yX5_init : MethodName := ⟨RX5, "<init>", "(LGraticulePress$Place;II)V"⟩
abbrev cX5_takeUp : ByteArray := prog_7_method_2_code
def yX5_takeUp : MethodName := ⟨RX5, "takeUp", "(I)V"⟩
abbrev cX5_isOnSheet : ByteArray := prog_7_method_3_code
def yX5_isOnSheet : MethodName := ⟨RX5, "isOnSheet", "()Z"⟩
abbrev cX5_isNamed : ByteArray := prog_7_method_4_code
def yX5_isNamed : MethodName := ⟨RX5, "isNamed", "()Z"⟩
abbrev cX5_isPushed : ByteArray := prog_7_method_5_code
def yX5_isPushed : MethodName := ⟨RX5, "isPushed", "()Z"⟩
abbrev cX5_rowAt : ByteArray := prog_7_method_6_code
def yX5_rowAt : MethodName := ⟨RX5, "rowAt", "(I)I"⟩
abbrev cX5_firstColumnAt : ByteArray := prog_7_method_7_code
def yX5_firstColumnAt : MethodName := ⟨RX5, "firstColumnAt", "(II)I"⟩
abbrev cX5_mayStand : ByteArray := prog_7_method_8_code
def yX5_mayStand : MethodName := ⟨RX5, "mayStand", "(LGraticulePress$Grid;I)Z"⟩
abbrev cX5_write : ByteArray := prog_7_method_9_code
def yX5_write : MethodName := ⟨RX5, "write", "(LGraticulePress$Grid;I)V"⟩
abbrev cX5_erase : ByteArray := prog_7_method_10_code
def yX5_erase : MethodName := ⟨RX5, "erase", "(LGraticulePress$Grid;I)V"⟩
abbrev cX5_standAtFirstFree : ByteArray := prog_7_method_11_code
def yX5_standAtFirstFree : MethodName := ⟨RX5, "standAtFirstFree", "(LGraticulePress$Grid;)V"⟩
def RX6 : String := "GraticulePress"
def TX6 : u_T := fun k => match k with
  | 0 => ("GraticulePress", "typed", "Ljava/lang/StringBuilder;", true)
  | 1 => ("GraticulePress", "places", "[LGraticulePress$Place;", true)
  | 2 => ("GraticulePress", "sheets", "[LGraticulePress$Sheet;", true)
  | 3 => ("GraticulePress", "editions", "[LGraticulePress$Edition;", true)
  | 4 => ("GraticulePress", "placeCount", "I", false)
  | 5 => ("GraticulePress", "sheetCount", "I", false)
  | 6 => ("GraticulePress", "editionCount", "I", false)
  | _ => ("GraticulePress", "today", "I", false)
def tyX6 : Nat → FieldType := fun k => match k with
  | 0 => .object "java/lang/StringBuilder"
  | 1 => .array (.object "GraticulePress$Place")
  | 2 => .array (.object "GraticulePress$Sheet")
  | 3 => .array (.object "GraticulePress$Edition")
  | 4 => .int
  | 5 => .int
  | 6 => .int
  | _ => .int
abbrev wsX60 : List Cond := u_ws RX6 TX6 8
theorem nmX6 : ∀ a, a < 8 → ∀ b, b < 8 → a ≠ b → (TX6 a).2.1 ≠ (TX6 b).2.1 := by decide +kernel
theorem tyX6_ok : ∀ k, k < 8 → parseFieldDescriptor (TX6 k).2.2.1 = some (tyX6 k) := by decide +kernel
abbrev cX6_init : ByteArray := prog_1_method_1_code
def yX6_init : MethodName := ⟨RX6, "<init>", "()V"⟩
abbrev cX6_letter : ByteArray := prog_1_method_2_code
def yX6_letter : MethodName := ⟨RX6, "letter", "(C)I"⟩
abbrev cX6_place : ByteArray := prog_1_method_3_code
def yX6_place : MethodName := ⟨RX6, "place", "(III)I"⟩
abbrev cX6_name : ByteArray := prog_1_method_4_code
def yX6_name : MethodName := ⟨RX6, "name", "(I)I"⟩
abbrev cX6_spelled : ByteArray := prog_1_method_5_code
def yX6_spelled : MethodName := ⟨RX6, "spelled", "(III)C"⟩
abbrev cX6_pass : ByteArray := prog_1_method_6_code
def yX6_pass : MethodName := ⟨RX6, "pass", "(I)I"⟩
abbrev cX6_sheet : ByteArray := prog_1_method_7_code
def yX6_sheet : MethodName := ⟨RX6, "sheet", "(III)I"⟩
abbrev cX6_dot : ByteArray := prog_1_method_8_code
def yX6_dot : MethodName := ⟨RX6, "dot", "(IIZ)I"⟩
abbrev cX6_side : ByteArray := prog_1_method_9_code
def yX6_side : MethodName := ⟨RX6, "side", "(II)I"⟩
abbrev cX6_drawn : ByteArray := prog_1_method_10_code
def yX6_drawn : MethodName := ⟨RX6, "drawn", "(III)C"⟩
abbrev cX6_worth : ByteArray := prog_1_method_11_code
def yX6_worth : MethodName := ⟨RX6, "worth", "(I)I"⟩
abbrev cX6_best : ByteArray := prog_1_method_12_code
def yX6_best : MethodName := ⟨RX6, "best", "(I)I"⟩
abbrev cX6_print : ByteArray := prog_1_method_13_code
def yX6_print : MethodName := ⟨RX6, "print", "()I"⟩
abbrev cX6_printed : ByteArray := prog_1_method_14_code
def yX6_printed : MethodName := ⟨RX6, "printed", "(IIII)C"⟩
abbrev cX6_isWithin : ByteArray := prog_1_method_15_code
def yX6_isWithin : MethodName := ⟨RX6, "isWithin", "(III)Z"⟩
abbrev cX6_isOnGrid : ByteArray := prog_1_method_16_code
def yX6_isOnGrid : MethodName := ⟨RX6, "isOnGrid", "(II)Z"⟩
abbrev cX6_placeNumbered : ByteArray := prog_1_method_17_code
def yX6_placeNumbered : MethodName := ⟨RX6, "placeNumbered", "(I)LGraticulePress$Place;"⟩
abbrev cX6_sheetNumbered : ByteArray := prog_1_method_18_code
def yX6_sheetNumbered : MethodName := ⟨RX6, "sheetNumbered", "(I)LGraticulePress$Sheet;"⟩
abbrev cX6_editionNumbered : ByteArray := prog_1_method_19_code
def yX6_editionNumbered : MethodName := ⟨RX6, "editionNumbered", "(I)LGraticulePress$Edition;"⟩
abbrev cX6_spotOn : ByteArray := prog_1_method_20_code
def yX6_spotOn : MethodName := ⟨RX6, "spotOn", "(II)LGraticulePress$Spot;"⟩
abbrev cX6_showOnAllSheets : ByteArray := prog_1_method_21_code
def yX6_showOnAllSheets : MethodName := ⟨RX6, "showOnAllSheets", "(LGraticulePress$Place;)V"⟩
abbrev cX6_placeAllSheetsAnew : ByteArray := prog_1_method_22_code
def yX6_placeAllSheetsAnew : MethodName := ⟨RX6, "placeAllSheetsAnew", "(I)I"⟩
def RX7 : String := "GraticulePressModel"
def TX7 : u_T := fun k => match k with
  | 0 => ("GraticulePressModel", "day", "I", false)
  | 1 => ("GraticulePressModel", "typed", "I", false)
  | 2 => ("GraticulePressModel", "word", "[C", true)
  | 3 => ("GraticulePressModel", "places", "I", false)
  | 4 => ("GraticulePressModel", "length", "[I", true)
  | 5 => ("GraticulePressModel", "breadth", "[I", true)
  | 6 => ("GraticulePressModel", "rank", "[I", true)
  | 7 => ("GraticulePressModel", "names", "[I", true)
  | 8 => ("GraticulePressModel", "since", "[I", true)
  | 9 => ("GraticulePressModel", "many", "[I", true)
  | 10 => ("GraticulePressModel", "letters", "[C", true)
  | 11 => ("GraticulePressModel", "sheets", "I", false)
  | 12 => ("GraticulePressModel", "fromLength", "[I", true)
  | 13 => ("GraticulePressModel", "fromBreadth", "[I", true)
  | 14 => ("GraticulePressModel", "kind", "[I", true)
  | 15 => ("GraticulePressModel", "column", "[I", true)
  | 16 => ("GraticulePressModel", "row", "[I", true)
  | 17 => ("GraticulePressModel", "side", "[I", true)
  | 18 => ("GraticulePressModel", "signs", "[C", true)
  | 19 => ("GraticulePressModel", "ahead", "[I", true)
  | 20 => ("GraticulePressModel", "toTry", "I", false)
  | 21 => ("GraticulePressModel", "tried", "[I", true)
  | 22 => ("GraticulePressModel", "editions", "I", false)
  | 23 => ("GraticulePressModel", "placesThen", "[I", true)
  | 24 => ("GraticulePressModel", "sheetsThen", "[I", true)
  | 25 => ("GraticulePressModel", "nameThen", "[I", true)
  | 26 => ("GraticulePressModel", "sideThen", "[I", true)
  | _ => ("GraticulePressModel", "thrown", "I", false)
def tyX7 : Nat → FieldType := fun k => match k with
  | 0 => .int
  | 1 => .int
  | 2 => .array .char
  | 3 => .int
  | 4 => .array .int
  | 5 => .array .int
  | 6 => .array .int
  | 7 => .array .int
  | 8 => .array .int
  | 9 => .array .int
  | 10 => .array .char
  | 11 => .int
  | 12 => .array .int
  | 13 => .array .int
  | 14 => .array .int
  | 15 => .array .int
  | 16 => .array .int
  | 17 => .array .int
  | 18 => .array .char
  | 19 => .array .int
  | 20 => .int
  | 21 => .array .int
  | 22 => .int
  | 23 => .array .int
  | 24 => .array .int
  | 25 => .array .int
  | 26 => .array .int
  | _ => .int
abbrev wsX70 : List Cond := u_ws RX7 TX7 28
theorem nmX7 : ∀ a, a < 28 → ∀ b, b < 28 → a ≠ b → (TX7 a).2.1 ≠ (TX7 b).2.1 := by decide +kernel
theorem tyX7_ok : ∀ k, k < 28 → parseFieldDescriptor (TX7 k).2.2.1 = some (tyX7 k) := by decide +kernel
abbrev cX7_init : ByteArray := prog_9_method_1_code
def yX7_init : MethodName := ⟨RX7, "<init>", "()V"⟩
abbrev cX7_thrown : ByteArray := prog_9_method_2_code
def yX7_thrown : MethodName := ⟨RX7, "thrown", "()I"⟩
abbrev cX7_in : ByteArray := prog_9_method_3_code
def yX7_in : MethodName := ⟨RX7, "in", "(III)Z"⟩
abbrev cX7_goes : ByteArray := prog_9_method_4_code
def yX7_goes : MethodName := ⟨RX7, "goes", "(ZZZ)Z"⟩
abbrev cX7_isPlace : ByteArray := prog_9_method_5_code
def yX7_isPlace : MethodName := ⟨RX7, "isPlace", "(I)Z"⟩
abbrev cX7_isSheet : ByteArray := prog_9_method_6_code
def yX7_isSheet : MethodName := ⟨RX7, "isSheet", "(I)Z"⟩
abbrev cX7_letter : ByteArray := prog_9_method_7_code
def yX7_letter : MethodName := ⟨RX7, "letter", "(C)I"⟩
abbrev cX7_place : ByteArray := prog_9_method_8_code
def yX7_place : MethodName := ⟨RX7, "place", "(III)I"⟩
abbrev cX7_nameOn : ByteArray := prog_9_method_9_code
def yX7_nameOn : MethodName := ⟨RX7, "nameOn", "(II)I"⟩
abbrev cX7_name : ByteArray := prog_9_method_10_code
def yX7_name : MethodName := ⟨RX7, "name", "(I)I"⟩
abbrev cX7_spelled : ByteArray := prog_9_method_11_code
def yX7_spelled : MethodName := ⟨RX7, "spelled", "(III)C"⟩
abbrev cX7_pass : ByteArray := prog_9_method_12_code
def yX7_pass : MethodName := ⟨RX7, "pass", "(I)I"⟩
abbrev cX7_sheet : ByteArray := prog_9_method_13_code
def yX7_sheet : MethodName := ⟨RX7, "sheet", "(III)I"⟩
abbrev cX7_isOn : ByteArray := prog_9_method_14_code
def yX7_isOn : MethodName := ⟨RX7, "isOn", "(II)Z"⟩
abbrev cX7_columnOf : ByteArray := prog_9_method_15_code
def yX7_columnOf : MethodName := ⟨RX7, "columnOf", "(II)I"⟩
abbrev cX7_rowOf : ByteArray := prog_9_method_16_code
def yX7_rowOf : MethodName := ⟨RX7, "rowOf", "(II)I"⟩
abbrev cX7_dots : ByteArray := prog_9_method_17_code
def yX7_dots : MethodName := ⟨RX7, "dots", "(II)V"⟩
abbrev cX7_rowAt : ByteArray := prog_9_method_18_code
def yX7_rowAt : MethodName := ⟨RX7, "rowAt", "(II)I"⟩
abbrev cX7_columnAt : ByteArray := prog_9_method_19_code
def yX7_columnAt : MethodName := ⟨RX7, "columnAt", "(III)I"⟩
abbrev cX7_mayStand : ByteArray := prog_9_method_20_code
def yX7_mayStand : MethodName := ⟨RX7, "mayStand", "(III)Z"⟩
abbrev cX7_puts : ByteArray := prog_9_method_21_code
def yX7_puts : MethodName := ⟨RX7, "puts", "(III)V"⟩
abbrev cX7_takes : ByteArray := prog_9_method_22_code
def yX7_takes : MethodName := ⟨RX7, "takes", "(III)V"⟩
abbrev cX7_hasName : ByteArray := prog_9_method_23_code
def yX7_hasName : MethodName := ⟨RX7, "hasName", "(I)Z"⟩
abbrev cX7_lays : ByteArray := prog_9_method_24_code
def yX7_lays : MethodName := ⟨RX7, "lays", "(I)V"⟩
abbrev cX7_dot : ByteArray := prog_9_method_25_code
def yX7_dot : MethodName := ⟨RX7, "dot", "(IIZ)I"⟩
abbrev cX7_side : ByteArray := prog_9_method_26_code
def yX7_side : MethodName := ⟨RX7, "side", "(II)I"⟩
abbrev cX7_isCell : ByteArray := prog_9_method_27_code
def yX7_isCell : MethodName := ⟨RX7, "isCell", "(II)Z"⟩
abbrev cX7_drawn : ByteArray := prog_9_method_28_code
def yX7_drawn : MethodName := ⟨RX7, "drawn", "(III)C"⟩
abbrev cX7_worth : ByteArray := prog_9_method_29_code
def yX7_worth : MethodName := ⟨RX7, "worth", "(I)I"⟩
abbrev cX7_canTry : ByteArray := prog_9_method_30_code
def yX7_canTry : MethodName := ⟨RX7, "canTry", "(I)Z"⟩
abbrev cX7_worthOf : ByteArray := prog_9_method_31_code
def yX7_worthOf : MethodName := ⟨RX7, "worthOf", "(I)I"⟩
abbrev cX7_best : ByteArray := prog_9_method_32_code
def yX7_best : MethodName := ⟨RX7, "best", "(I)I"⟩
abbrev cX7_print : ByteArray := prog_9_method_33_code
def yX7_print : MethodName := ⟨RX7, "print", "()I"⟩
abbrev cX7_printed : ByteArray := prog_9_method_34_code
def yX7_printed : MethodName := ⟨RX7, "printed", "(IIII)C"⟩
def RJ5 : String := "java/lang/AbstractStringBuilder"
def TJ5 : u_T := fun k => match k with
  | _ => ("", "", "", false)
def tyJ5 : Nat → FieldType := fun k => match k with
  | _ => .int
abbrev wsJ50 : List Cond := u_ws RJ5 TJ5 0
theorem nmJ5 : ∀ a, a < 0 → ∀ b, b < 0 → a ≠ b → (TJ5 a).2.1 ≠ (TJ5 b).2.1 := by decide +kernel
theorem tyJ5_ok : ∀ k, k < 0 → parseFieldDescriptor (TJ5 k).2.2.1 = some (tyJ5 k) := by decide +kernel
abbrev cJ5_init_d00df : ByteArray := prog_10_method_2_code
def yJ5_init_d00df : MethodName := ⟨RJ5, "<init>", "(I)V"⟩
abbrev cJ5_length_8abf5 : ByteArray := prog_10_method_6_code
def yJ5_length_8abf5 : MethodName := ⟨RJ5, "length", "()I"⟩
abbrev cJ5_ensureCapacityInternal_d00df : ByteArray := prog_10_method_9_code
def yJ5_ensureCapacityInternal_d00df : MethodName := ⟨RJ5, "ensureCapacityInternal", "(I)V"⟩
abbrev cJ5_newCapacity_0f7a4 : ByteArray := prog_10_method_10_code
def yJ5_newCapacity_0f7a4 : MethodName := ⟨RJ5, "newCapacity", "(I)I"⟩
abbrev cJ5_inflate_da8c8 : ByteArray := prog_10_method_11_code
def yJ5_inflate_da8c8 : MethodName := ⟨RJ5, "inflate", "()V"⟩
abbrev cJ5_setLength_d00df : ByteArray := prog_10_method_13_code
def yJ5_setLength_d00df : MethodName := ⟨RJ5, "setLength", "(I)V"⟩
abbrev cJ5_append_cf1ce : ByteArray := prog_10_method_22_code
def yJ5_append_cf1ce : MethodName := ⟨RJ5, "append", "(Ljava/lang/String;)Ljava/lang/AbstractStringBuilder;"⟩
abbrev cJ5_appendNull_278bc : ByteArray := prog_10_method_26_code
def yJ5_appendNull_278bc : MethodName := ⟨RJ5, "appendNull", "()Ljava/lang/AbstractStringBuilder;"⟩
abbrev cJ5_append_3fe6f : ByteArray := prog_10_method_31_code
def yJ5_append_3fe6f : MethodName := ⟨RJ5, "append", "(C)Ljava/lang/AbstractStringBuilder;"⟩
abbrev cJ5_append_c97b9 : ByteArray := prog_10_method_32_code
def yJ5_append_c97b9 : MethodName := ⟨RJ5, "append", "(I)Ljava/lang/AbstractStringBuilder;"⟩
abbrev cJ5_getValue_6d5f1 : ByteArray := prog_10_method_64_code
def yJ5_getValue_6d5f1 : MethodName := ⟨RJ5, "getValue", "()[B"⟩
abbrev cJ5_isLatin1_aae02 : ByteArray := prog_10_method_68_code
def yJ5_isLatin1_aae02 : MethodName := ⟨RJ5, "isLatin1", "()Z"⟩
abbrev cJ5_inflateIfNeededFor_a7421 : ByteArray := prog_10_method_71_code
def yJ5_inflateIfNeededFor_a7421 : MethodName := ⟨RJ5, "inflateIfNeededFor", "(Ljava/lang/String;)V"⟩
abbrev cJ5_putStringAt_47b60 : ByteArray := prog_10_method_73_code
def yJ5_putStringAt_47b60 : MethodName := ⟨RJ5, "putStringAt", "(ILjava/lang/String;)V"⟩
def RJx00060 : String := "java/lang/ArrayIndexOutOfBoundsException"
def TJx00060 : u_T := fun k => match k with
  | 0 => ("java/lang/Throwable", "cause", "Ljava/lang/Throwable;", false)
  | 1 => ("java/lang/Throwable", "stackTrace", "[Ljava/lang/StackTraceElement;", false)
  | 2 => ("java/lang/Throwable", "suppressedExceptions", "Ljava/util/List;", false)
  | 3 => ("java/lang/Throwable", "detailMessage", "Ljava/lang/String;", false)
  | 4 => ("java/lang/Throwable", "backtrace", "Ljava/lang/Object;", false)
  | _ => ("java/lang/Throwable", "depth", "I", false)
def tyJx00060 : Nat → FieldType := fun k => match k with
  | 0 => .object "java/lang/Throwable"
  | 1 => .array (.object "java/lang/StackTraceElement")
  | 2 => .object "java/util/List"
  | 3 => .object "java/lang/String"
  | 4 => .object "java/lang/Object"
  | _ => .int
abbrev wsJx000600 : List Cond := u_ws RJx00060 TJx00060 6
theorem nmJx00060 : ∀ a, a < 6 → ∀ b, b < 6 → a ≠ b → (TJx00060 a).2.1 ≠ (TJx00060 b).2.1 := by decide +kernel
theorem tyJx00060_ok : ∀ k, k < 6 → parseFieldDescriptor (TJx00060 k).2.2.1 = some (tyJx00060 k) := by decide +kernel
abbrev cJx00060_init_d00df : ByteArray := prog_11_method_3_code
def yJx00060_init_d00df : MethodName := ⟨RJx00060, "<init>", "(I)V"⟩
def RJx8e188 : String := "java/lang/Cloneable"
def TJx8e188 : u_T := fun k => match k with
  | _ => ("", "", "", false)
def tyJx8e188 : Nat → FieldType := fun k => match k with
  | _ => .int
abbrev wsJx8e1880 : List Cond := u_ws RJx8e188 TJx8e188 0
theorem nmJx8e188 : ∀ a, a < 0 → ∀ b, b < 0 → a ≠ b → (TJx8e188 a).2.1 ≠ (TJx8e188 b).2.1 := by decide +kernel
theorem tyJx8e188_ok : ∀ k, k < 0 → parseFieldDescriptor (TJx8e188 k).2.2.1 = some (tyJx8e188 k) := by decide +kernel
def RJ6 : String := "java/lang/Integer"
def TJ6 : u_T := fun k => match k with
  | _ => ("", "", "", false)
def tyJ6 : Nat → FieldType := fun k => match k with
  | _ => .int
abbrev wsJ60 : List Cond := u_ws RJ6 TJ6 0
theorem nmJ6 : ∀ a, a < 0 → ∀ b, b < 0 → a ≠ b → (TJ6 a).2.1 ≠ (TJ6 b).2.1 := by decide +kernel
theorem tyJ6_ok : ∀ k, k < 0 → parseFieldDescriptor (TJ6 k).2.2.1 = some (tyJ6 k) := by decide +kernel
abbrev cJ6_getChars_ba4f3 : ByteArray := prog_17_method_12_code
def yJ6_getChars_ba4f3 : MethodName := ⟨RJ6, "getChars", "(II[B)I"⟩
abbrev cJ6_stringSize_0f7a4 : ByteArray := prog_17_method_13_code
def yJ6_stringSize_0f7a4 : MethodName := ⟨RJ6, "stringSize", "(I)I"⟩
def RJ9 : String := "java/lang/Math"
def TJ9 : u_T := fun k => match k with
  | _ => ("", "", "", false)
def tyJ9 : Nat → FieldType := fun k => match k with
  | _ => .int
abbrev wsJ90 : List Cond := u_ws RJ9 TJ9 0
theorem nmJ9 : ∀ a, a < 0 → ∀ b, b < 0 → a ≠ b → (TJ9 a).2.1 ≠ (TJ9 b).2.1 := by decide +kernel
theorem tyJ9_ok : ∀ k, k < 0 → parseFieldDescriptor (TJ9 k).2.2.1 = some (tyJ9 k) := by decide +kernel
abbrev cJ9_max_7cf53 : ByteArray := prog_18_method_65_code
def yJ9_max_7cf53 : MethodName := ⟨RJ9, "max", "(II)I"⟩
abbrev cJ9_min_7cf53 : ByteArray := prog_18_method_69_code
def yJ9_min_7cf53 : MethodName := ⟨RJ9, "min", "(II)I"⟩
def RJ0 : String := "java/lang/String"
def TJ0 : u_T := fun k => match k with
  | 0 => ("java/lang/String", "value", "[B", true)
  | 1 => ("java/lang/String", "coder", "B", true)
  | 2 => ("java/lang/String", "hash", "I", false)
  | _ => ("java/lang/String", "hashIsZero", "Z", false)
def tyJ0 : Nat → FieldType := fun k => match k with
  | 0 => .array .byte
  | 1 => .byte
  | 2 => .int
  | _ => .boolean
abbrev wsJ00 : List Cond := u_ws RJ0 TJ0 4
theorem nmJ0 : ∀ a, a < 4 → ∀ b, b < 4 → a ≠ b → (TJ0 a).2.1 ≠ (TJ0 b).2.1 := by decide +kernel
theorem tyJ0_ok : ∀ k, k < 4 → parseFieldDescriptor (TJ0 k).2.2.1 = some (tyJ0 k) := by decide +kernel
abbrev cJ0_init_81219 : ByteArray := prog_20_method_53_code
def yJ0_init_81219 : MethodName := ⟨RJ0, "<init>", "(Ljava/lang/StringBuilder;)V"⟩
abbrev cJ0_length_8abf5 : ByteArray := prog_20_method_54_code
def yJ0_length_8abf5 : MethodName := ⟨RJ0, "length", "()I"⟩
abbrev cJ0_charAt_5068e : ByteArray := prog_20_method_56_code
def yJ0_charAt_5068e : MethodName := ⟨RJ0, "charAt", "(I)C"⟩
abbrev cJ0_getBytes_840e7 : ByteArray := prog_20_method_147_code
def yJ0_getBytes_840e7 : MethodName := ⟨RJ0, "getBytes", "([BIB)V"⟩
abbrev cJ0_init_db425 : ByteArray := prog_20_method_150_code
def yJ0_init_db425 : MethodName := ⟨RJ0, "<init>", "(Ljava/lang/AbstractStringBuilder;Ljava/lang/Void;)V"⟩
abbrev cJ0_coder_7d493 : ByteArray := prog_20_method_152_code
def yJ0_coder_7d493 : MethodName := ⟨RJ0, "coder", "()B"⟩
abbrev cJ0_isLatin1_aae02 : ByteArray := prog_20_method_154_code
def yJ0_isLatin1_aae02 : MethodName := ⟨RJ0, "isLatin1", "()Z"⟩
abbrev cJ0_checkIndex_df160 : ByteArray := prog_20_method_155_code
def yJ0_checkIndex_df160 : MethodName := ⟨RJ0, "checkIndex", "(II)V"⟩
abbrev cJ0_checkBoundsOffCount_cabcc : ByteArray := prog_20_method_157_code
def yJ0_checkBoundsOffCount_cabcc : MethodName := ⟨RJ0, "checkBoundsOffCount", "(III)I"⟩
abbrev cJ0_checkBoundsBeginEnd_23922 : ByteArray := prog_20_method_158_code
def yJ0_checkBoundsBeginEnd_23922 : MethodName := ⟨RJ0, "checkBoundsBeginEnd", "(III)V"⟩
def RJ4 : String := "java/lang/StringBuilder"
def TJ4 : u_T := fun k => match k with
  | 0 => ("java/lang/AbstractStringBuilder", "value", "[B", false)
  | 1 => ("java/lang/AbstractStringBuilder", "coder", "B", false)
  | 2 => ("java/lang/AbstractStringBuilder", "maybeLatin1", "Z", false)
  | _ => ("java/lang/AbstractStringBuilder", "count", "I", false)
def tyJ4 : Nat → FieldType := fun k => match k with
  | 0 => .array .byte
  | 1 => .byte
  | 2 => .boolean
  | _ => .int
abbrev wsJ40 : List Cond := u_ws RJ4 TJ4 4
theorem nmJ4 : ∀ a, a < 4 → ∀ b, b < 4 → a ≠ b → (TJ4 a).2.1 ≠ (TJ4 b).2.1 := by decide +kernel
theorem tyJ4_ok : ∀ k, k < 4 → parseFieldDescriptor (TJ4 k).2.2.1 = some (tyJ4 k) := by decide +kernel
abbrev cJ4_init_da8c8 : ByteArray := prog_21_method_1_code
def yJ4_init_da8c8 : MethodName := ⟨RJ4, "<init>", "()V"⟩
abbrev cJ4_append_15ec4 : ByteArray := prog_21_method_7_code
def yJ4_append_15ec4 : MethodName := ⟨RJ4, "append", "(Ljava/lang/String;)Ljava/lang/StringBuilder;"⟩
abbrev cJ4_append_cf468 : ByteArray := prog_21_method_14_code
def yJ4_append_cf468 : MethodName := ⟨RJ4, "append", "(C)Ljava/lang/StringBuilder;"⟩
abbrev cJ4_append_bf812 : ByteArray := prog_21_method_15_code
def yJ4_append_bf812 : MethodName := ⟨RJ4, "append", "(I)Ljava/lang/StringBuilder;"⟩
abbrev cJ4_toString_0e30d : ByteArray := prog_21_method_42_code
def yJ4_toString_0e30d : MethodName := ⟨RJ4, "toString", "()Ljava/lang/String;"⟩
abbrev cJ4_setLength_d00df : ByteArray := prog_21_method_89_code
def yJ4_setLength_d00df : MethodName := ⟨RJ4, "setLength", "(I)V"⟩
abbrev cJ4_length_8abf5 : ByteArray := prog_21_method_93_code
def yJ4_length_8abf5 : MethodName := ⟨RJ4, "length", "()I"⟩
def RJx7c733 : String := "java/lang/StringIndexOutOfBoundsException"
def TJx7c733 : u_T := fun k => match k with
  | 0 => ("java/lang/Throwable", "backtrace", "Ljava/lang/Object;", false)
  | 1 => ("java/lang/Throwable", "detailMessage", "Ljava/lang/String;", false)
  | 2 => ("java/lang/Throwable", "cause", "Ljava/lang/Throwable;", false)
  | 3 => ("java/lang/Throwable", "stackTrace", "[Ljava/lang/StackTraceElement;", false)
  | 4 => ("java/lang/Throwable", "depth", "I", false)
  | _ => ("java/lang/Throwable", "suppressedExceptions", "Ljava/util/List;", false)
def tyJx7c733 : Nat → FieldType := fun k => match k with
  | 0 => .object "java/lang/Object"
  | 1 => .object "java/lang/String"
  | 2 => .object "java/lang/Throwable"
  | 3 => .array (.object "java/lang/StackTraceElement")
  | 4 => .int
  | _ => .object "java/util/List"
abbrev wsJx7c7330 : List Cond := u_ws RJx7c733 TJx7c733 6
theorem nmJx7c733 : ∀ a, a < 6 → ∀ b, b < 6 → a ≠ b → (TJx7c733 a).2.1 ≠ (TJx7c733 b).2.1 := by decide +kernel
theorem tyJx7c733_ok : ∀ k, k < 6 → parseFieldDescriptor (TJx7c733 k).2.2.1 = some (tyJx7c733 k) := by decide +kernel
abbrev cJx7c733_init_d00df : ByteArray := prog_22_method_3_code
def yJx7c733_init_d00df : MethodName := ⟨RJx7c733, "<init>", "(I)V"⟩
def RJ1 : String := "java/lang/StringLatin1"
def TJ1 : u_T := fun k => match k with
  | _ => ("", "", "", false)
def tyJ1 : Nat → FieldType := fun k => match k with
  | _ => .int
abbrev wsJ10 : List Cond := u_ws RJ1 TJ1 0
theorem nmJ1 : ∀ a, a < 0 → ∀ b, b < 0 → a ≠ b → (TJ1 a).2.1 ≠ (TJ1 b).2.1 := by decide +kernel
theorem tyJ1_ok : ∀ k, k < 0 → parseFieldDescriptor (TJ1 k).2.2.1 = some (tyJ1 k) := by decide +kernel
abbrev cJ1_charAt_3b067 : ByteArray := prog_23_method_2_code
def yJ1_charAt_3b067 : MethodName := ⟨RJ1, "charAt", "([BI)C"⟩
abbrev cJ1_canEncode_fc78d : ByteArray := prog_23_method_3_code
def yJ1_canEncode_fc78d : MethodName := ⟨RJ1, "canEncode", "(C)Z"⟩
abbrev cJ1_fillNull_b72d1 : ByteArray := prog_23_method_48_code
def yJ1_fillNull_b72d1 : MethodName := ⟨RJ1, "fillNull", "([BII)V"⟩
abbrev cJ1_inflate_0e8fd : ByteArray := prog_23_method_50_code
def yJ1_inflate_0e8fd : MethodName := ⟨RJ1, "inflate", "([BI[BII)V"⟩
def RJ2 : String := "java/lang/StringUTF16"
def TJ2 : u_T := fun k => match k with
  | _ => ("", "", "", false)
def tyJ2 : Nat → FieldType := fun k => match k with
  | _ => .int
abbrev wsJ20 : List Cond := u_ws RJ2 TJ2 0
theorem nmJ2 : ∀ a, a < 0 → ∀ b, b < 0 → a ≠ b → (TJ2 a).2.1 ≠ (TJ2 b).2.1 := by decide +kernel
theorem tyJ2_ok : ∀ k, k < 0 → parseFieldDescriptor (TJ2 k).2.2.1 = some (tyJ2 k) := by decide +kernel
abbrev cJ2_newBytesFor_77867 : ByteArray := prog_24_method_2_code
def yJ2_newBytesFor_77867 : MethodName := ⟨RJ2, "newBytesFor", "(I)[B"⟩
abbrev cJ2_newBytesLength_0f7a4 : ByteArray := prog_24_method_3_code
def yJ2_newBytesLength_0f7a4 : MethodName := ⟨RJ2, "newBytesLength", "(I)I"⟩
abbrev cJ2_putChar_b72d1 : ByteArray := prog_24_method_4_code
def yJ2_putChar_b72d1 : MethodName := ⟨RJ2, "putChar", "([BII)V"⟩
abbrev cJ2_getChar_3b067 : ByteArray := prog_24_method_5_code
def yJ2_getChar_3b067 : MethodName := ⟨RJ2, "getChar", "([BI)C"⟩
abbrev cJ2_length_9d52b : ByteArray := prog_24_method_6_code
def yJ2_length_9d52b : MethodName := ⟨RJ2, "length", "([B)I"⟩
abbrev cJ2_coderFromArrayLen_85cad : ByteArray := prog_24_method_15_code
def yJ2_coderFromArrayLen_85cad : MethodName := ⟨RJ2, "coderFromArrayLen", "([BI)B"⟩
abbrev cJ2_compress_39247 : ByteArray := prog_24_method_17_code
def yJ2_compress_39247 : MethodName := ⟨RJ2, "compress", "([BII)[B"⟩
abbrev cJ2_compress_5af95 : ByteArray := prog_24_method_22_code
def yJ2_compress_5af95 : MethodName := ⟨RJ2, "compress", "([BI[BII)I"⟩
abbrev cJ2_fillNull_b72d1 : ByteArray := prog_24_method_70_code
def yJ2_fillNull_b72d1 : MethodName := ⟨RJ2, "fillNull", "([BII)V"⟩
abbrev cJ2_putCharSB_b72d1 : ByteArray := prog_24_method_71_code
def yJ2_putCharSB_b72d1 : MethodName := ⟨RJ2, "putCharSB", "([BII)V"⟩
abbrev cJ2_getChars_46870 : ByteArray := prog_24_method_77_code
def yJ2_getChars_46870 : MethodName := ⟨RJ2, "getChars", "(III[B)I"⟩
abbrev cJ2_putCharsAt_cd4e5 : ByteArray := prog_24_method_81_code
def yJ2_putCharsAt_cd4e5 : MethodName := ⟨RJ2, "putCharsAt", "([BICCCC)I"⟩
abbrev cJ2_charAt_3b067 : ByteArray := prog_24_method_83_code
def yJ2_charAt_3b067 : MethodName := ⟨RJ2, "charAt", "([BI)C"⟩
abbrev cJ2_inflate_0e8fd : ByteArray := prog_24_method_86_code
def yJ2_inflate_0e8fd : MethodName := ⟨RJ2, "inflate", "([BI[BII)V"⟩
abbrev cJ2_getChars_ba4f3 : ByteArray := prog_24_method_89_code
def yJ2_getChars_ba4f3 : MethodName := ⟨RJ2, "getChars", "(II[B)I"⟩
abbrev cJ2_checkIndex_2214a : ByteArray := prog_24_method_91_code
def yJ2_checkIndex_2214a : MethodName := ⟨RJ2, "checkIndex", "(I[B)V"⟩
abbrev cJ2_checkBoundsBeginEnd_d044e : ByteArray := prog_24_method_93_code
def yJ2_checkBoundsBeginEnd_d044e : MethodName := ⟨RJ2, "checkBoundsBeginEnd", "(II[B)V"⟩
abbrev cJ2_checkBoundsOffCount_d044e : ByteArray := prog_24_method_94_code
def yJ2_checkBoundsOffCount_d044e : MethodName := ⟨RJ2, "checkBoundsOffCount", "(II[B)V"⟩
def RJ10 : String := "java/lang/System"
def TJ10 : u_T := fun k => match k with
  | _ => ("", "", "", false)
def tyJ10 : Nat → FieldType := fun k => match k with
  | _ => .int
abbrev wsJ100 : List Cond := u_ws RJ10 TJ10 0
theorem nmJ10 : ∀ a, a < 0 → ∀ b, b < 0 → a ≠ b → (TJ10 a).2.1 ≠ (TJ10 b).2.1 := by decide +kernel
theorem tyJ10_ok : ∀ k, k < 0 → parseFieldDescriptor (TJ10 k).2.2.1 = some (tyJ10 k) := by decide +kernel
def RJ7 : String := "java/util/Arrays"
def TJ7 : u_T := fun k => match k with
  | _ => ("", "", "", false)
def tyJ7 : Nat → FieldType := fun k => match k with
  | _ => .int
abbrev wsJ70 : List Cond := u_ws RJ7 TJ7 0
theorem nmJ7 : ∀ a, a < 0 → ∀ b, b < 0 → a ≠ b → (TJ7 a).2.1 ≠ (TJ7 b).2.1 := by decide +kernel
theorem tyJ7_ok : ∀ k, k < 0 → parseFieldDescriptor (TJ7 k).2.2.1 = some (tyJ7 k) := by decide +kernel
abbrev cJ7_rangeCheck_23922 : ByteArray := prog_27_method_30_code
def yJ7_rangeCheck_23922 : MethodName := ⟨RJ7, "rangeCheck", "(III)V"⟩
abbrev cJ7_fill_eb02e : ByteArray := prog_27_method_110_code
def yJ7_fill_eb02e : MethodName := ⟨RJ7, "fill", "([BIIB)V"⟩
abbrev cJ7_copyOf_9075b : ByteArray := prog_27_method_121_code
def yJ7_copyOf_9075b : MethodName := ⟨RJ7, "copyOf", "([BI)[B"⟩
abbrev cJ7_checkLength_df160 : ByteArray := prog_27_method_131_code
def yJ7_checkLength_df160 : MethodName := ⟨RJ7, "checkLength", "(II)V"⟩
abbrev cJ7_copyOfRange_39247 : ByteArray := prog_27_method_132_code
def yJ7_copyOfRange_39247 : MethodName := ⟨RJ7, "copyOfRange", "([BII)[B"⟩
abbrev cJ7_copyOfRangeByte_39247 : ByteArray := prog_27_method_133_code
def yJ7_copyOfRangeByte_39247 : MethodName := ⟨RJ7, "copyOfRangeByte", "([BII)[B"⟩
def RJ8 : String := "jdk/internal/util/ArraysSupport"
def TJ8 : u_T := fun k => match k with
  | _ => ("", "", "", false)
def tyJ8 : Nat → FieldType := fun k => match k with
  | _ => .int
abbrev wsJ80 : List Cond := u_ws RJ8 TJ8 0
theorem nmJ8 : ∀ a, a < 0 → ∀ b, b < 0 → a ≠ b → (TJ8 a).2.1 ≠ (TJ8 b).2.1 := by decide +kernel
theorem tyJ8_ok : ∀ k, k < 0 → parseFieldDescriptor (TJ8 k).2.2.1 = some (tyJ8 k) := by decide +kernel
abbrev cJ8_newLength_cabcc : ByteArray := prog_28_method_27_code
def yJ8_newLength_cabcc : MethodName := ⟨RJ8, "newLength", "(III)I"⟩
abbrev cJ8_hugeLength_7cf53 : ByteArray := prog_28_method_28_code
def yJ8_hugeLength_7cf53 : MethodName := ⟨RJ8, "hugeLength", "(II)I"⟩
def RJ3 : String := "jdk/internal/util/Preconditions"
def TJ3 : u_T := fun k => match k with
  | _ => ("", "", "", false)
def tyJ3 : Nat → FieldType := fun k => match k with
  | _ => .int
abbrev wsJ30 : List Cond := u_ws RJ3 TJ3 0
theorem nmJ3 : ∀ a, a < 0 → ∀ b, b < 0 → a ≠ b → (TJ3 a).2.1 ≠ (TJ3 b).2.1 := by decide +kernel
theorem tyJ3_ok : ∀ k, k < 0 → parseFieldDescriptor (TJ3 k).2.2.1 = some (tyJ3 k) := by decide +kernel
abbrev cJ3_checkIndex_8e157 : ByteArray := prog_29_method_11_code
def yJ3_checkIndex_8e157 : MethodName := ⟨RJ3, "checkIndex", "(IILjava/util/function/BiFunction;)I"⟩
abbrev cJ3_checkFromToIndex_8c36e : ByteArray := prog_29_method_12_code
def yJ3_checkFromToIndex_8c36e : MethodName := ⟨RJ3, "checkFromToIndex", "(IIILjava/util/function/BiFunction;)I"⟩
abbrev cJ3_checkFromIndexSize_8c36e : ByteArray := prog_29_method_13_code
def yJ3_checkFromIndexSize_8c36e : MethodName := ⟨RJ3, "checkFromIndexSize", "(IIILjava/util/function/BiFunction;)I"⟩
def RL : String := "GraticulePressLaw"
abbrev cL_letter : ByteArray := method_3_code
def yL_letter : MethodName := ⟨RL, "letter", "(LGraticulePress;C[J)I"⟩
abbrev cL_place : ByteArray := method_4_code
def yL_place : MethodName := ⟨RL, "place", "(LGraticulePress;III[J)I"⟩
abbrev cL_name : ByteArray := method_5_code
def yL_name : MethodName := ⟨RL, "name", "(LGraticulePress;I[J)I"⟩
abbrev cL_spelled : ByteArray := method_6_code
def yL_spelled : MethodName := ⟨RL, "spelled", "(LGraticulePress;III[J)I"⟩
abbrev cL_pass : ByteArray := method_7_code
def yL_pass : MethodName := ⟨RL, "pass", "(LGraticulePress;I[J)I"⟩
abbrev cL_sheet : ByteArray := method_8_code
def yL_sheet : MethodName := ⟨RL, "sheet", "(LGraticulePress;III[J)I"⟩
abbrev cL_dot : ByteArray := method_9_code
def yL_dot : MethodName := ⟨RL, "dot", "(LGraticulePress;IIZ[J)I"⟩
abbrev cL_side : ByteArray := method_10_code
def yL_side : MethodName := ⟨RL, "side", "(LGraticulePress;II[J)I"⟩
abbrev cL_drawn : ByteArray := method_11_code
def yL_drawn : MethodName := ⟨RL, "drawn", "(LGraticulePress;III[J)I"⟩
abbrev cL_worth : ByteArray := method_12_code
def yL_worth : MethodName := ⟨RL, "worth", "(LGraticulePress;I[J)I"⟩
abbrev cL_best : ByteArray := method_13_code
def yL_best : MethodName := ⟨RL, "best", "(LGraticulePress;I[J)I"⟩
abbrev cL_print : ByteArray := method_14_code
def yL_print : MethodName := ⟨RL, "print", "(LGraticulePress;[J)I"⟩
abbrev cL_printed : ByteArray := method_15_code
def yL_printed : MethodName := ⟨RL, "printed", "(LGraticulePress;IIII[J)I"⟩
abbrev cL_law : ByteArray := code
def yL_law : MethodName := ⟨RL, "law", "([I)Z"⟩
abbrev vwCl : List vw_C := [(RJ0, TJ0, 4), (RJ4, TJ4, 4), (RJx00060, TJx00060, 6), (RJx7c733, TJx7c733, 6), (RX0, TX0, 1), (RX1, TX1, 1), (RX2, TX2, 5), (RX3, TX3, 9), (RX4, TX4, 2), (RX5, TX5, 7), (RX6, TX6, 8), (RX7, TX7, 28)]
end
section
/-! my own layer over the kit: a ghost heap (address ↦ what the cell holds), ints as integers, one judgement gV whose state is all in the goal -/
def gwA : List Cond := lw_tbl.filter goodWord
theorem gwA_mem {w : Cond} (h : w ∈ lw_tbl) (g : goodWord w = true) : w ∈ gwA := List.mem_filter.mpr ⟨h, g⟩
theorem gwA_at {w : Cond} (i : Nat) (h : tables_1[i]? = some w) (g : goodWord w = true) : w ∈ gwA := gwA_mem (by unfold lw_tbl; exact List.mem_append_right _ (List.mem_of_getElem? h)) g
theorem gwA_good {ws : List Cond} (h : ∀ w ∈ ws, w ∈ gwA) (c : Cond) (hc : c ∈ gwA) : ∀ w ∈ c :: gwA, w ∈ gwA ∧ ((w.onTables && w.keeps) = true ∨ ∃ ty, w = .arrayClass ty) := by
  intro w hw
  have h1 : w ∈ gwA := (List.mem_cons.mp hw).elim (fun e => by rw [e]; exact hc) id
  exact ⟨h1, good_of_word (List.mem_filter.mp h1).2⟩
-- ===== ints =====
def iI (z : Int) : Int32 := Int32.ofInt z
abbrev vi (z : Int) : Value := .int (iI z)
def b2i (b : Bool) : Int := if b then 1 else 0
theorem iI_add (a b : Int) : iI a + iI b = iI (a + b) := (Int32.ofInt_add a b).symm
theorem iI_toInt {a : Int} (h1 : -2147483648 ≤ a) (h2 : a < 2147483648) : (iI a).toInt = a := Int32.toInt_ofInt_of_le (by omega) (by omega)
theorem iI_of (x : Int32) : x = iI x.toInt := (Int32.ofInt_toInt x).symm
theorem iI_rng (x : Int32) : -2147483648 ≤ x.toInt ∧ x.toInt < 2147483648 := ⟨by have := x.le_toInt; omega, by have := x.toInt_lt; omega⟩
theorem iI_nI (n : Nat) : iI (n : Int) = nI n := Int32.ofInt_eq_ofNat
theorem iI_mul (a b : Int) : iI a * iI b = iI (a * b) := by
  apply Int32.toBitVec_inj.mp
  simp [iI, BitVec.ofInt_mul]
theorem iI_neg (a : Int) : - iI a = iI (-a) := Int32.neg_ofInt
theorem iI_sub (a b : Int) : iI a - iI b = iI (a - b) := by
  rw [Int32.sub_eq_add_neg, iI_neg, iI_add, Int.sub_eq_add_neg]
theorem iI_inj {a b : Int} (ha : -2147483648 ≤ a ∧ a < 2147483648) (hb : -2147483648 ≤ b ∧ b < 2147483648) (h : iI a = iI b) : a = b := by
  have := congrArg Int32.toInt h
  rwa [iI_toInt ha.1 ha.2, iI_toInt hb.1 hb.2] at this
theorem iI_le {a b : Int} (ha : -2147483648 ≤ a ∧ a < 2147483648) (hb : -2147483648 ≤ b ∧ b < 2147483648) : iI a ≤ iI b ↔ a ≤ b := by
  rw [Int32.le_iff_toInt_le, iI_toInt ha.1 ha.2, iI_toInt hb.1 hb.2]
theorem iI_lt {a b : Int} (ha : -2147483648 ≤ a ∧ a < 2147483648) (hb : -2147483648 ≤ b ∧ b < 2147483648) : iI a < iI b ↔ a < b := by
  rw [Int32.lt_iff_toInt_lt, iI_toInt ha.1 ha.2, iI_toInt hb.1 hb.2]
theorem iI_0 : iI 0 = 0 := rfl
theorem iI_clamp {a : Int} (h1 : 0 ≤ a) (h2 : a < 2147483648) : (iI a).toNatClampNeg = a.toNat := by
  rw [← Int32.toNat_toInt, iI_toInt (by omega) h2]
theorem iI_in {a : Int} {n : Nat} (h1 : 0 ≤ a) (h2 : a < n) (hn : n < 2147483648) : vp_in (iI a) n :=
  vp_in_iff.mpr ⟨by rw [iI_toInt (by omega) (by omega)]; exact h1, by rw [iI_toInt (by omega) (by omega)]; exact h2⟩
theorem iI_div {a b : Int} (ha : 0 ≤ a ∧ a < 2147483648) (hb : 0 < b ∧ b < 2147483648) : iI a / iI b = iI (a / b) := by
  have e1 : iI a = nI a.toNat := by rw [← iI_nI, Int.toNat_of_nonneg ha.1]
  have e2 : iI b = nI b.toNat := by rw [← iI_nI, Int.toNat_of_nonneg (by omega)]
  rw [e1, e2, pk_div (by omega) (by omega) (by omega), ← iI_nI]
  congr 1
  rw [Int.natCast_ediv, Int.toNat_of_nonneg ha.1, Int.toNat_of_nonneg (by omega)]
theorem iI_rem {a b : Int} (ha : 0 ≤ a ∧ a < 2147483648) (hb : 0 < b ∧ b < 2147483648) : iI a - iI a / iI b * iI b = iI (a % b) := by
  rw [iI_div ha hb, iI_mul, iI_sub, Int.emod_def, Int.mul_comm]
theorem iI_char {a : Int} (h1 : 0 ≤ a) (h2 : a < 65536) : vp_nar .char (iI a) = iI a := by
  have e1 : iI a = nI a.toNat := by rw [← iI_nI, Int.toNat_of_nonneg h1]
  rw [e1]
  have h := (pk_charN (q := a.toNat) (by omega)).1
  unfold vp_nar
  rw [h]
theorem iI_charN {a : Int} (h1 : 0 ≤ a) (h2 : a < 65536) : narrow .char (.int (iI a)) = .int (iI a) := by
  have e1 : iI a = nI a.toNat := by rw [← iI_nI, Int.toNat_of_nonneg h1]
  rw [e1]
  exact (pk_charN (q := a.toNat) (by omega)).1
theorem iI_byte {a : Int} (h1 : -128 ≤ a) (h2 : a < 128) : (iI a).toInt8.toInt32 = iI a := by
  apply Int32.toInt_inj.mp
  rw [iI_toInt (by omega) (by omega), Int8.toInt_toInt32, iI, Int32.toInt8_ofInt, Int8.toInt_ofInt_of_le (by omega) (by omega)]
-- ===== the ghost heap =====
abbrev gC : Type := (Nat × List Value) ⊕ ((Nat × Nat × (Nat → Int)) ⊕ ((Nat × Nat × (Nat → Option Nat)) ⊕ (Nat × Nat × (Nat → Int64))))
abbrev gO (ci : Nat) (fs : List Value) : gC := .inl (ci, fs)
abbrev gI (k n : Nat) (F : Nat → Int) : gC := .inr (.inl (k, n, F))
abbrev gR (k n : Nat) (F : Nat → Option Nat) : gC := .inr (.inr (.inl (k, n, F)))
abbrev gL (k n : Nat) (F : Nat → Int64) : gC := .inr (.inr (.inr (k, n, F)))
abbrev gD : Type := va_G × (Nat → ClassId)
abbrev gH : Type := Nat → Option gC
def g2 (D : gD) : gC → va_E
  | .inl (ci, fs) => .inr (ci, fs)
  | .inr (.inl (k, n, F)) => .inl (D.2 k, n, .inl (fun j => iI (F j)))
  | .inr (.inr (.inl (k, n, F))) => .inl (D.2 k, n, .inr (.inr (.inr (.inr F))))
  | .inr (.inr (.inr (k, n, F))) => .inl (D.2 k, n, .inr (.inl F))
/-- the classes of arrays, by kind: 0 char, 1 int, 2 byte, 3 long, 4.. references -/
def gty : Nat → FieldType
  | 0 => .char | 1 => .int | 2 => .byte | 3 => .long
  | 4 => .object RX2 | 5 => .object RX3 | 6 => .object RX0 | 7 => .object RX4 | 8 => .object RX5 | _ => .object RX1
def gtys (D : gD) : List (ClassId × FieldType) := (List.range 10).map (fun k => (D.2 k, gty k))
theorem gtys_at (D : gD) {k : Nat} (h : k < 10) : (gtys D)[k]? = some (D.2 k, gty k) := by
  unfold gtys
  rw [List.getElem?_map, List.getElem?_range h]
  rfl
def gG (D : gD) (base : Nat) (gh : gH) (H : Heap) : Prop := ∀ (a : Nat) (c : gC), gh a = some c → base ≤ a ∧ va_at D.1 vwCl (a, g2 D c) H
def gset (gh : gH) (a : Nat) (c : gC) : gH := fun q => if q = a then some c else gh q
theorem gset_eq {gh : gH} {a : Nat} {c : gC} : gset gh a c a = some c := if_pos rfl
theorem gset_ne {gh : gH} {a b : Nat} {c : gC} (h : b ≠ a) : gset gh a c b = gh b := if_neg h
theorem gset_set {gh : gH} {a : Nat} {c d : gC} : gset (gset gh a c) a d = gset gh a d := by
  funext q
  unfold gset
  split <;> rfl
theorem gne {gh : gH} {a b : Nat} {x y : gC} (ha : gh a = some x) (hb : gh b = some y) (h : x ≠ y) : a ≠ b := fun e => h (by subst e; exact Option.some.inj (ha.symm.trans hb))
theorem gG.lt {D : gD} {base : Nat} {gh : gH} {H : Heap} (h : gG D base gh H) {a : Nat} {c : gC} (ha : gh a = some c) : a < H.size := va_at.lt (h a c ha).2
theorem gG.fresh {D : gD} {base : Nat} {gh : gH} {H : Heap} (h : gG D base gh H) {q : Nat} (hq : H.size ≤ q) : gh q = none := by
  cases e : gh q with
  | none => rfl
  | some c => exact absurd (h.lt e) (by omega)
theorem gG.set {D : gD} {base : Nat} {gh : gH} {H H1 : Heap} (h : gG D base gh H) {a : Nat} {c : gC} (ha : base ≤ a) (hc : va_at D.1 vwCl (a, g2 D c) H1) (oq : ∀ q : Nat, q ≠ a → H1[q]? = H[q]?) : gG D base (gset gh a c) H1 := by
  intro b d hb
  by_cases e : b = a
  · subst e
    rw [gset_eq] at hb
    cases hb
    exact ⟨ha, hc⟩
  · rw [gset_ne e] at hb
    exact ⟨(h b d hb).1, va_at.kept (h b d hb).2 (oq b e)⟩
theorem gG.new {D : gD} {base : Nat} {gh : gH} {H H1 : Heap} (h : gG D base gh H) {c : gC} (ha : base ≤ H.size) (hc : va_at D.1 vwCl (H.size, g2 D c) H1) (oq : ∀ q : Nat, q < H.size → H1[q]? = H[q]?) : gG D base (gset gh H.size c) H1 := by
  intro b d hb
  by_cases e : b = H.size
  · subst e
    rw [gset_eq] at hb
    cases hb
    exact ⟨ha, hc⟩
  · rw [gset_ne e] at hb
    exact ⟨(h b d hb).1, va_at.kept (h b d hb).2 (oq b (h.lt hb))⟩
theorem gG.kept {D : gD} {base : Nat} {gh : gH} {H H1 : Heap} (h : gG D base gh H) (oq : ∀ q : Nat, q < H.size → H1[q]? = H[q]?) : gG D base gh H1 := fun b d hb => ⟨(h b d hb).1, va_at.kept (h b d hb).2 (oq b (h.lt hb))⟩
-- ===== locals by their places =====
def gLv (ls : Array Slot) (n : Nat) (lv : List (Option Value)) : Prop := ls.size = n ∧ lv_wf ls ∧ ∀ (k : Nat) (v : Value), lv[k]? = some (some v) → ls[k]? = some (.val v) ∧ v.category = 1
def gPr (lv : List (Option Value)) : List (Nat × Value) := (List.range lv.length).filterMap (fun k => (lv[k]?.join).map (fun v => (k, v)))
theorem gPr_mem {lv : List (Option Value)} {q : Nat × Value} (h : q ∈ gPr lv) : lv[q.1]? = some (some q.2) := by
  obtain ⟨k, -, hk⟩ := List.mem_filterMap.mp h
  cases e : lv[k]? with
  | none => rw [e] at hk; cases hk
  | some o =>
    rw [e] at hk
    cases o with
    | none => cases hk
    | some v => cases hk; exact e
theorem gPr_of {lv : List (Option Value)} {k : Nat} {v : Value} (h : lv[k]? = some (some v)) : (k, v) ∈ gPr lv := by
  refine List.mem_filterMap.mpr ⟨k, List.mem_range.mpr (List.getElem?_eq_some_iff.mp h).1, ?_⟩
  rw [h]
  rfl
theorem gLv.has {ls : Array Slot} {n : Nat} {lv : List (Option Value)} (h : gLv ls n lv) : lv_has ls n (gPr lv) := ⟨h.1, h.2.1, fun q hq => (h.2.2 _ _ (gPr_mem hq)).1⟩
theorem gLv.store {ls ls' : Array Slot} {n i : Nat} {lv : List (Option Value)} {v : Value} (h : gLv ls n lv) (hc : v.category = 1)
    (h' : lv_has ls' n ((i, v) :: (gPr lv).filter (fun q => !(q.1 == i) && !(q.1 + 1 == i && q.2.category == 2)))) : gLv ls' n (lv.set i (some v)) := by
  refine ⟨h'.1, h'.2.1, fun k w hk => ?_⟩
  by_cases e : k = i
  · subst e
    have hl : k < lv.length := by
      have := (List.getElem?_eq_some_iff.mp hk).1
      rwa [List.length_set] at this
    rw [List.getElem?_set_self hl] at hk
    cases hk
    exact ⟨h'.2.2 (k, v) List.mem_cons_self, hc⟩
  · rw [List.getElem?_set_ne (Ne.symm e)] at hk
    have h1 := (h.2.2 k w hk).2
    refine ⟨h'.2.2 (k, w) (List.mem_cons_of_mem _ (List.mem_filter.mpr ⟨gPr_of hk, ?_⟩)), h1⟩
    have e2 : (k == i) = false := by simp [e]
    simp [e2, h1]
theorem gLv.at {ls : Array Slot} {n : Nat} {lv : List (Option Value)} (h : gLv ls n lv) {k : Nat} {v : Value} (hk : lv[k]? = some (some v)) : ls[k]? = some (.val v) := (h.2.2 k v hk).1
theorem g_args_mem : ∀ (vs : List Value) (i k : Nat) (v : Value), (∀ w ∈ vs, w.category = 1) → vs[k]? = some v → (i + k, v) ∈ lv_args i vs
  | [], _, _, _, _, h => by simp at h
  | w :: vs, i, 0, v, _, h => by
    rw [List.getElem?_cons_zero] at h
    cases h
    exact List.mem_cons_self
  | w :: vs, i, k + 1, v, hc, h => by
    rw [List.getElem?_cons_succ] at h
    have h1 : w.category = 1 := hc w List.mem_cons_self
    have := g_args_mem vs (i + 1) k v (fun x hx => hc x (List.mem_cons_of_mem _ hx)) h
    unfold lv_args
    rw [if_neg (by omega)]
    rw [show i + (k + 1) = i + 1 + k by omega]
    exact List.mem_cons_of_mem _ this
theorem g_sl_len : ∀ (vs : List Value), (∀ w ∈ vs, w.category = 1) → (lg_sl vs).length = vs.length
  | [], _ => rfl
  | w :: vs, hc => by
    have h1 : w.category = 1 := hc w List.mem_cons_self
    have := g_sl_len vs (fun x hx => hc x (List.mem_cons_of_mem _ hx))
    unfold lg_sl at this ⊢
    rw [List.flatMap_cons, List.length_append, this, if_neg (by omega)]
    simp
    omega
theorem gLv.entry (vs : List Value) {n : Nat} (hc : ∀ w ∈ vs, w.category = 1) (hn : vs.length ≤ n) : gLv ((lg_sl vs ++ List.replicate (n - (lg_sl vs).length) Slot.unset).toArray) n (vs.map some ++ List.replicate (n - vs.length) none) := by
  have h := lv_entry vs (n := n) (by rw [g_sl_len vs hc]; exact hn)
  refine ⟨h.1, h.2.1, fun k v hk => ?_⟩
  have hv : vs[k]? = some v := by
    by_cases hl : k < vs.length
    · rw [List.getElem?_append_left (by rw [List.length_map]; exact hl), List.getElem?_map] at hk
      cases e : vs[k]? with
      | none => rw [e] at hk; cases hk
      | some w => rw [e] at hk; cases hk; rfl
    · rw [List.getElem?_append_right (by rw [List.length_map]; omega)] at hk
      have := List.mem_of_getElem? hk
      have := List.eq_of_mem_replicate this
      cases this
  have h2 := g_args_mem vs 0 k v hc hv
  rw [Nat.zero_add] at h2
  exact ⟨h.2.2 (k, v) h2, hc v (List.mem_of_getElem? hv)⟩
end
section
/-! contexts, contracts, and the judgement gV -/
def gStr : List (String × Nat × String) := [("GraticulePress", 49, "the letter is none of a to z"), ("GraticulePress", 60, "the word has 8 letters"), ("GraticulePress", 71, "length, breadth or rank is out of range"), ("GraticulePress", 73, "there are 14 places"), ("GraticulePress", 210, "there is no such place"), ("GraticulePress", 86, "nothing is typed"), ("GraticulePress", 92, "the place was told 6 names"), ("GraticulePress", 117, "there is no such letter"), ("GraticulePress", 120, "the day is out of range"), ("GraticulePress", 133, "days is out of range"), ("GraticulePress", 135, "the day would be above 10000"), ("GraticulePress", 137, "length, breadth or kind is out of range"), ("GraticulePress", 139, "there are 4 sheets"), ("GraticulePress", 212, "there is no such sheet"), ("GraticulePress", 171, "there is no such row or column"), ("GraticulePress", 189, "more than 4 places with a name are on the sheet"), ("GraticulePress", 194, "there are 5 editions"), ("GraticulePress", 214, "there is no such edition"), ("GraticulePress", 205, "there is no such sheet, row or column")]
/-- words that stay true over warming, but not 'good' ones -/
def gBk : Cond → Bool
  | .castable _ _ => true
  | .declares _ => true
  | .fieldLinkNest _ _ _ _ _ _ => true
  | .methodLinkNest _ _ _ _ => true
  | _ => false
theorem gBk_warm {w : Cond} {s U : State} (hW : s.WarmedH U.vm) (h : gBk w = true) (hZ : va_Nw w s) : va_Nw w U := by
  cases w <;> first | exact va_Nw.warmC hW hZ | exact va_Nw.warmD hW hZ | exact va_Nw.warmF hW hZ | exact va_Nw.warmM hW hZ | (exact absurd h (by simp [gBk]))
theorem gBk_tab {w : Cond} (h : gBk w = true) : w.onTables = true := by
  cases w <;> first | rfl | (exact absurd h (by simp [gBk]))
def gNcs : List (String × String) := [("java/lang/IllegalStateException", "java/lang/IllegalArgumentException"), ("java/lang/IllegalStateException", "java/lang/IndexOutOfBoundsException"), ("java/lang/IllegalArgumentException", "java/lang/IndexOutOfBoundsException")]
abbrev gX : Type := Program × Launch × Env × Room × State × MethodId × Array Value × List Frame × Method × Code × (State → Prop)
def gAo : List String := [RX0, RX1, RX2, RX3, RX4, RX5]
def gE (D : gD) (base : Nat) (s : State) : Prop := va_K D.1 vwCl (gtys D) s ∧ base ≤ s.heap.size ∧ (∀ q ∈ gStr, ∃ sa, vk_R q.1 q.2.1 q.2.2 sa s) ∧ vx_Zq Bundle.tN "UNASSIGNED_STACK" Bundle.steD (fun q => base ≤ q) s s.heap ∧ vx_Zq Bundle.tN "SUPPRESSED_SENTINEL" Bundle.listD (fun q => base ≤ q) s s.heap ∧ (∀ w ∈ lw_tbl, gBk w = true → va_Nw w s) ∧ (∀ q ∈ gNcs, va_Nc q.1 q.2 s) ∧ (∀ C ∈ gAo, va_AO C s)
theorem gE.callee {D : gD} {base : Nat} {s U : State} {H : Heap} {locs : List Loc} (h : gE D base s) (hS : va_S (fun q => base ≤ q) s.heap H locs) (hU : U.heap = H) (hW : s.WarmedH U.vm) : gE D base U := by
  obtain ⟨h1, h2, h3, h4, h5, h6, h7, h8⟩ := h
  refine ⟨va_K.moved hW.alike h1, by rw [hU]; exact Nat.le_trans h2 hS.1, fun q hq => ?_, ?_, ?_, fun w hw hg => gBk_warm hW hg (h6 w hw hg), fun q hq => va_Nc.moved hW.alike (h7 q hq), fun C hC => va_AO.moved hW.alike (h8 C hC)⟩
  · obtain ⟨sa, h⟩ := h3 q hq
    exact ⟨sa, vk_R.warm hW h⟩
  · rw [hU]
    exact vx_Zq.kept (vx_Zq.moved hW.alike h4) hS.2.1
  · rw [hU]
    exact vx_Zq.kept (vx_Zq.moved hW.alike h5) hS.2.1
theorem gE.calling {D : gD} {base : Nat} {U : State} (g : JFrame) (mk : MethodId) (a : Array Value) (h : gE D base U) : gE D base (U.calling g mk a) := by
  obtain ⟨h1, h2, h3, h4, h5, h6, h7, h8⟩ := h
  exact ⟨va_K.moved (u := U) (U := U.calling g mk a) (Vm.Alike.refl U.vm) h1, h2, fun q hq => (h3 q hq).imp (fun sa h => vk_R.same (u := U) (U := U.calling g mk a) rfl h), vx_Zq.moved (u := U) (U := U.calling g mk a) (Vm.Alike.refl U.vm) h4, vx_Zq.moved (u := U) (U := U.calling g mk a) (Vm.Alike.refl U.vm) h5, fun w hw hg => va_Nw.same (u := U) (U := U.calling g mk a) (gBk_tab hg) rfl (h6 w hw hg), fun q hq => va_Nc.moved (u := U) (U := U.calling g mk a) (Vm.Alike.refl U.vm) (h7 q hq), fun C hC => va_AO.moved (u := U) (U := U.calling g mk a) (Vm.Alike.refl U.vm) (h8 C hC)⟩
def gP (D : gD) (base : Nat) (args : List Value) (gh : gH) : Array Value → State → Prop := va_Pc args (fun U => gG D base gh U.heap ∧ gE D base U)
theorem gP.blind {D : gD} {base : Nat} {args : List Value} {gh : gH} : FrameBlind (gP D base args gh) := fun a U g mk h => ⟨h.1, h.2.1, h.2.2.calling g mk a⟩
def gQ (D : gD) (base : Nat) (post : Option Value → gH → Prop) : Array Value → State → Outcome → State → Prop := fun _ st o t => (∃ (r : Option Value) (gh' : gH), o = .returned r ∧ post r gh' ∧ gG D base gh' t.heap) ∧ va_F (fun q => base ≤ q) st t
def gXC (D : gD) (base : Nat) (postX : String → gH → Prop) : String → State → State → Prop := fun E st t => (∃ gh' : gH, postX E gh' ∧ gG D base gh' t.heap) ∧ va_F (fun q => base ≤ q) st t
def gNo : String → gH → Prop := fun _ _ => False
/-- a method's contract: at these arguments, in this world, it answers and leaves a world with post (or throws, with postX); f, loc: frames and words below it; mc, ms: cells and slots that it makes -/
def gM (l : Launch) (D : gD) (base : Nat) (y : MethodName) (cc : ByteArray) (nL : Nat) (ret : Option FieldType) (f loc mc ms : Nat) (args : List Value) (gh : gH) (post : Option Value → gH → Prop) (postX : String → gH → Prop) : Prop :=
  vx_Met l y (.code y cc nL ret :: gwA) ({ frames := f, cells := mc, slots := ms, locals := loc } : Room) (gP D base args gh) (gQ D base post) (gXC D base postX) mc ms (fun q => base ≤ q)
def gV (x : gX) (D : gD) (base nL : Nat) (pc : Nat) (lv : List (Option Value)) (st : List Value) (gh : gH) (cells slots : Nat) : Prop :=
  match x with
  | (p, l, e, R, s, m, args, below, meth, c, Q) => ∀ (H : Heap) (locs : List Loc) (ls : Array Slot), gG D base gh H → va_S (fun q => base ≤ q) s.heap H locs → gLv ls nL lv → W p l e R s m args below meth c H locs cells slots Q (F0 m pc ls st)
def gVX (x : gX) (D : gD) (base nL : Nat) (pc : Nat) (lv : List (Option Value)) (st : List Value) (E : String) (gh : gH) (cells slots : Nat) : Prop :=
  match x with
  | (p, l, e, R, s, m, args, below, meth, c, Q) => ∀ (H : Heap) (locs : List Loc) (ls : Array Slot) (ce : Cell) (q : Addr), gG D base gh H → va_S (fun q => base ≤ q) s.heap H locs → gLv ls nL lv → H[q]? = some ce → ce.vm = .none → s.vm.findClass E = some ce.cls → vx_W p l e R s m args below meth c H locs cells slots Q (F0 m pc ls st) q
def gK (x : gX) (l : Launch) (D : gD) (base nL : Nat) (own : String) (cc : ByteArray) (rm : Room) : Prop :=
  match x with
  | (p, l', _, R, s, m, args, _, meth, c, _) => p.tables.exec = Jvm.exec ∧ c.code = cc ∧ c.maxLocals = nL ∧ s.vm.findClass own = some m.cls ∧ (∀ w ∈ gwA, w.before args s = true) ∧ gE D base s ∧ meth.locks = false ∧ R = rm ∧ l' = l ∧ l.stackTraces = false
def gEnd (x : gX) (D : gD) (base : Nat) (post : Option Value → gH → Prop) (postX : String → gH → Prop) (mc ms : Nat) (ret : Option FieldType) (nm : String) : Prop :=
  match x with
  | (_, _, _, _, s, _, args, below, meth, c, Q) => Q = vx_MQ below (gQ D base post) (gXC D base postX) args s mc ms (fun q => base ≤ q) ∧ meth.sig.returnType = ret ∧ meth.name = nm ∧ ∀ z ∈ c.exceptionTable.toList, False
theorem gM.of {l : Launch} {D : gD} {base : Nat} {y : MethodName} {cc : ByteArray} {nL : Nat} {ret : Option FieldType} {f loc mc ms : Nat} {args : List Value} {gh : gH} {post : Option Value → gH → Prop} {postX : String → gH → Prop}
    (hl : l.stackTraces = false) (hy : plainName y.cls = true) (hc : ∀ w ∈ args, w.category = 1) (hn : args.length ≤ nL) (lv : List (Option Value)) (hlv : args.map some ++ List.replicate (nL - args.length) none = lv)
    (body : ∀ x : gX, gK x l D base nL y.cls cc ({ frames := f, cells := mc, slots := ms, locals := loc } : Room) → gEnd x D base post postX mc ms ret y.name → gV x D base nL 0 lv [] gh 0 0) :
    gM l D base y cc nL ret f loc mc ms args gh post postX := by
  refine vx_ofW (cc := cc) (maxL := nL) (ret := ret) hy rfl ?_
  intro p e s m args' below meth c s₁ B hml ht hv
  obtain ⟨rfl, hG, hE⟩ := hv
  have hts := atoms_spec (ws := .code y cc nL ret :: gwA) B.pre
  have h := body (p, l, e, ({ frames := f, cells := mc, slots := ms, locals := loc } : Room), s, m, args.toArray, below, meth, c, vx_MQ below (gQ D base post) (gXC D base postX) args.toArray s mc ms (fun q => base ≤ q))
    ⟨B.exec, B.bytes, hml, findClass_of_methodNamed B.named, fun w hw => hts w (List.mem_cons_of_mem _ hw), hE, B.notSynchronized, rfl, rfl, hl⟩ ⟨rfl, B.returns, (name_of_methodNamed B.named B.method).1, ht⟩
  rw [lg_entry_eq]
  have hlve := gLv.entry args hc hn
  rw [hlv] at hlve
  exact h s.heap [] _ hG va_S.rf hlve
end
section
/-! rows of gV: one an instruction -/
section GR
variable {x : gX} {l : Launch} {D : gD} {base nL : Nat} {own : String} {cc : ByteArray} {rm : Room} {pc : Nat} {lv : List (Option Value)} {st : List Value} {gh : gH} {cells slots : Nat}
theorem gV.widen {k n : Nat} (h1 : cells ≤ k) (h2 : slots ≤ n) (kk : gV x D base nL pc lv st gh k n) : gV x D base nL pc lv st gh cells slots := by
  obtain ⟨p, l', e, R, s, m, args, below, meth, c, Q⟩ := x
  intro H locs ls hG hS hl
  exact W.widen h1 h2 (kk H locs ls hG hS hl)
theorem gV.eqs {lv' : List (Option Value)} {st' : List Value} {gh' : gH} (h1 : lv = lv') (h2 : st = st') (h3 : gh = gh') (kk : gV x D base nL pc lv' st' gh' cells slots) : gV x D base nL pc lv st gh cells slots := by
  subst h1; subst h2; subst h3; exact kk
theorem g_top {a b : Int} (h : a = b) (k : gV x D base nL pc lv (vi b :: st) gh cells slots) : gV x D base nL pc lv (vi a :: st) gh cells slots := by
  subst h; exact k
theorem g_topv {a b : Value} (h : a = b) (k : gV x D base nL pc lv (b :: st) gh cells slots) : gV x D base nL pc lv (a :: st) gh cells slots := by
  subst h; exact k

theorem g_iconst (hC : gK x l D base nL own cc rm) {n z : Int} (hd : decode cc pc = .ok (.iconst n, 1)) (hz : n = z) (k : gV x D base nL (pc + 1) lv (vi z :: st) (gh) (cells) (slots)) : gV x D base nL (pc) lv (st) (gh) (cells) (slots) := by
  obtain ⟨p, l', e, R, s, m, args, below, meth, c, Q⟩ := x
  obtain ⟨hx, hb, hml, hown, hts, hE, hlocks, hR, hl', htr⟩ := hC
  intro H locs ls hG hS hl
  subst hz
  exact lv_iconst hx hb hd rfl (k H locs ls hG hS hl)

theorem g_bipush (hC : gK x l D base nL own cc rm) {n z : Int} (hd : decode cc pc = .ok (.bipush n, 2)) (hz : (Int8.ofInt n).toInt32 = iI z) (k : gV x D base nL (pc + 2) lv (vi z :: st) (gh) (cells) (slots)) : gV x D base nL (pc) lv (st) (gh) (cells) (slots) := by
  obtain ⟨p, l', e, R, s, m, args, below, meth, c, Q⟩ := x
  obtain ⟨hx, hb, hml, hown, hts, hE, hlocks, hR, hl', htr⟩ := hC
  intro H locs ls hG hS hl
  exact lv_bipush hx hb hd hz (k H locs ls hG hS hl)

theorem g_sipush (hC : gK x l D base nL own cc rm) {n z : Int} (hd : decode cc pc = .ok (.sipush n, 3)) (hz : (Int16.ofInt n).toInt32 = iI z) (k : gV x D base nL (pc + 3) lv (vi z :: st) (gh) (cells) (slots)) : gV x D base nL (pc) lv (st) (gh) (cells) (slots) := by
  obtain ⟨p, l', e, R, s, m, args, below, meth, c, Q⟩ := x
  obtain ⟨hx, hb, hml, hown, hts, hE, hlocks, hR, hl', htr⟩ := hC
  intro H locs ls hG hS hl
  exact lv_sipush hx hb hd hz (k H locs ls hG hS hl)

theorem g_null (hC : gK x l D base nL own cc rm)  (hd : decode cc pc = .ok (.aconst_null, 1)) (k : gV x D base nL (pc + 1) lv (.null :: st) (gh) (cells) (slots)) : gV x D base nL (pc) lv (st) (gh) (cells) (slots) := by
  obtain ⟨p, l', e, R, s, m, args, below, meth, c, Q⟩ := x
  obtain ⟨hx, hb, hml, hown, hts, hE, hlocks, hR, hl', htr⟩ := hC
  intro H locs ls hG hS hl
  exact lv_null hx hb hd (k H locs ls hG hS hl)

theorem g_iload_n (hC : gK x l D base nL own cc rm) {i : Fin 4} {z : Int} (hd : decode cc pc = .ok (.iload_n i, 1)) (hv : lv[(i : Nat)]? = some (some (vi z))) (k : gV x D base nL (pc + 1) lv (vi z :: st) (gh) (cells) (slots)) : gV x D base nL (pc) lv (st) (gh) (cells) (slots) := by
  obtain ⟨p, l', e, R, s, m, args, below, meth, c, Q⟩ := x
  obtain ⟨hx, hb, hml, hown, hts, hE, hlocks, hR, hl', htr⟩ := hC
  intro H locs ls hG hS hl
  exact lv_iload_n hx hb hd rfl (hl.at hv) (k H locs ls hG hS hl)

theorem g_iload (hC : gK x l D base nL own cc rm) {i : Nat} {z : Int} (hd : decode cc pc = .ok (.iload i, 2)) (hv : lv[i]? = some (some (vi z))) (k : gV x D base nL (pc + 2) lv (vi z :: st) (gh) (cells) (slots)) : gV x D base nL (pc) lv (st) (gh) (cells) (slots) := by
  obtain ⟨p, l', e, R, s, m, args, below, meth, c, Q⟩ := x
  obtain ⟨hx, hb, hml, hown, hts, hE, hlocks, hR, hl', htr⟩ := hC
  intro H locs ls hG hS hl
  exact lv_iload hx hb hd (hl.at hv) (k H locs ls hG hS hl)

theorem g_aload_n (hC : gK x l D base nL own cc rm) {i : Fin 4} {v : Option Nat} (hd : decode cc pc = .ok (.aload_n i, 1)) (hv : lv[(i : Nat)]? = some (some (va_rf v))) (k : gV x D base nL (pc + 1) lv (va_rf v :: st) (gh) (cells) (slots)) : gV x D base nL (pc) lv (st) (gh) (cells) (slots) := by
  obtain ⟨p, l', e, R, s, m, args, below, meth, c, Q⟩ := x
  obtain ⟨hx, hb, hml, hown, hts, hE, hlocks, hR, hl', htr⟩ := hC
  intro H locs ls hG hS hl
  cases v with
  | none => exact lv_aload_nN hx hb hd rfl (hl.at hv) (k H locs ls hG hS hl)
  | some a => exact lv_aload_n hx hb hd rfl (hl.at hv) (k H locs ls hG hS hl)

theorem g_aload (hC : gK x l D base nL own cc rm) {i : Nat} {v : Option Nat} (hd : decode cc pc = .ok (.aload i, 2)) (hv : lv[i]? = some (some (va_rf v))) (k : gV x D base nL (pc + 2) lv (va_rf v :: st) (gh) (cells) (slots)) : gV x D base nL (pc) lv (st) (gh) (cells) (slots) := by
  obtain ⟨p, l', e, R, s, m, args, below, meth, c, Q⟩ := x
  obtain ⟨hx, hb, hml, hown, hts, hE, hlocks, hR, hl', htr⟩ := hC
  intro H locs ls hG hS hl
  cases v with
  | none => exact lv_aloadN hx hb hd (hl.at hv) (k H locs ls hG hS hl)
  | some a => exact lv_aload hx hb hd (hl.at hv) (k H locs ls hG hS hl)

theorem g_fload_n (hC : gK x l D base nL own cc rm) {i : Fin 4} {v : UInt32} (hd : decode cc pc = .ok (.fload_n i, 1)) (hv : lv[(i : Nat)]? = some (some (.float v))) (k : gV x D base nL (pc + 1) lv (.float v :: st) (gh) (cells) (slots)) : gV x D base nL (pc) lv (st) (gh) (cells) (slots) := by
  obtain ⟨p, l', e, R, s, m, args, below, meth, c, Q⟩ := x
  obtain ⟨hx, hb, hml, hown, hts, hE, hlocks, hR, hl', htr⟩ := hC
  intro H locs ls hG hS hl
  exact lv_fload_n hx hb hd rfl (hl.at hv) (k H locs ls hG hS hl)

theorem g_fload (hC : gK x l D base nL own cc rm) {i : Nat} {v : UInt32} (hd : decode cc pc = .ok (.fload i, 2)) (hv : lv[i]? = some (some (.float v))) (k : gV x D base nL (pc + 2) lv (.float v :: st) (gh) (cells) (slots)) : gV x D base nL (pc) lv (st) (gh) (cells) (slots) := by
  obtain ⟨p, l', e, R, s, m, args, below, meth, c, Q⟩ := x
  obtain ⟨hx, hb, hml, hown, hts, hE, hlocks, hR, hl', htr⟩ := hC
  intro H locs ls hG hS hl
  exact lv_fload hx hb hd (hl.at hv) (k H locs ls hG hS hl)

theorem g_istore_n (hC : gK x l D base nL own cc rm) {i : Fin 4} {z : Int} {lv' : List (Option Value)} (hd : decode cc pc = .ok (.istore_n i, 1)) (hi : (i : Nat) < nL) (he : lv.set (i : Nat) (some (vi z)) = lv') (k : gV x D base nL (pc + 1) lv' (st) (gh) (cells) (slots)) : gV x D base nL (pc) lv (vi z :: st) (gh) (cells) (slots) := by
  obtain ⟨p, l', e, R, s, m, args, below, meth, c, Q⟩ := x
  obtain ⟨hx, hb, hml, hown, hts, hE, hlocks, hR, hl', htr⟩ := hC
  intro H locs ls hG hS hl
  subst he
  exact lv_istore_n hx hb hd rfl hl.has hi rfl (fun ls' h' => k H locs ls' hG hS (hl.store rfl h'))

theorem g_istore (hC : gK x l D base nL own cc rm) {i : Nat} {z : Int} {lv' : List (Option Value)} (hd : decode cc pc = .ok (.istore i, 2)) (hi : i < nL) (he : lv.set i (some (vi z)) = lv') (k : gV x D base nL (pc + 2) lv' (st) (gh) (cells) (slots)) : gV x D base nL (pc) lv (vi z :: st) (gh) (cells) (slots) := by
  obtain ⟨p, l', e, R, s, m, args, below, meth, c, Q⟩ := x
  obtain ⟨hx, hb, hml, hown, hts, hE, hlocks, hR, hl', htr⟩ := hC
  intro H locs ls hG hS hl
  subst he
  exact lv_istore hx hb hd hl.has hi rfl (fun ls' h' => k H locs ls' hG hS (hl.store rfl h'))

theorem g_fstore_n (hC : gK x l D base nL own cc rm) {i : Fin 4} {v : UInt32} {lv' : List (Option Value)} (hd : decode cc pc = .ok (.fstore_n i, 1)) (hi : (i : Nat) < nL) (he : lv.set (i : Nat) (some (.float v)) = lv') (k : gV x D base nL (pc + 1) lv' (st) (gh) (cells) (slots)) : gV x D base nL (pc) lv (.float v :: st) (gh) (cells) (slots) := by
  obtain ⟨p, l', e, R, s, m, args, below, meth, c, Q⟩ := x
  obtain ⟨hx, hb, hml, hown, hts, hE, hlocks, hR, hl', htr⟩ := hC
  intro H locs ls hG hS hl
  subst he
  exact lv_fstore_n hx hb hd rfl hl.has hi rfl (fun ls' h' => k H locs ls' hG hS (hl.store rfl h'))

theorem g_fstore (hC : gK x l D base nL own cc rm) {i : Nat} {v : UInt32} {lv' : List (Option Value)} (hd : decode cc pc = .ok (.fstore i, 2)) (hi : i < nL) (he : lv.set i (some (.float v)) = lv') (k : gV x D base nL (pc + 2) lv' (st) (gh) (cells) (slots)) : gV x D base nL (pc) lv (.float v :: st) (gh) (cells) (slots) := by
  obtain ⟨p, l', e, R, s, m, args, below, meth, c, Q⟩ := x
  obtain ⟨hx, hb, hml, hown, hts, hE, hlocks, hR, hl', htr⟩ := hC
  intro H locs ls hG hS hl
  subst he
  exact lv_fstore hx hb hd hl.has hi rfl (fun ls' h' => k H locs ls' hG hS (hl.store rfl h'))

theorem g_astore_n (hC : gK x l D base nL own cc rm) {i : Fin 4} {v : Option Nat} {lv' : List (Option Value)} (hd : decode cc pc = .ok (.astore_n i, 1)) (hi : (i : Nat) < nL) (he : lv.set (i : Nat) (some (va_rf v)) = lv') (k : gV x D base nL (pc + 1) lv' (st) (gh) (cells) (slots)) : gV x D base nL (pc) lv (va_rf v :: st) (gh) (cells) (slots) := by
  obtain ⟨p, l', e, R, s, m, args, below, meth, c, Q⟩ := x
  obtain ⟨hx, hb, hml, hown, hts, hE, hlocks, hR, hl', htr⟩ := hC
  intro H locs ls hG hS hl
  subst he
  cases v with
  | none => exact lv_astore_nN hx hb hd rfl hl.has (by rw [← hl.1]; rw [hl.1]; exact hi) rfl (fun ls' h' => k H locs ls' hG hS (hl.store rfl h'))
  | some a => exact lv_astore_n hx hb hd rfl hl.has hi rfl (fun ls' h' => k H locs ls' hG hS (hl.store rfl h'))

theorem g_astore (hC : gK x l D base nL own cc rm) {i : Nat} {v : Option Nat} {lv' : List (Option Value)} (hd : decode cc pc = .ok (.astore i, 2)) (hi : i < nL) (he : lv.set i (some (va_rf v)) = lv') (k : gV x D base nL (pc + 2) lv' (st) (gh) (cells) (slots)) : gV x D base nL (pc) lv (va_rf v :: st) (gh) (cells) (slots) := by
  obtain ⟨p, l', e, R, s, m, args, below, meth, c, Q⟩ := x
  obtain ⟨hx, hb, hml, hown, hts, hE, hlocks, hR, hl', htr⟩ := hC
  intro H locs ls hG hS hl
  subst he
  cases v with
  | none => exact lv_astoreN hx hb hd hl.has (by rw [← hl.1]; rw [hl.1]; exact hi) rfl (fun ls' h' => k H locs ls' hG hS (hl.store rfl h'))
  | some a => exact lv_astore hx hb hd hl.has hi rfl (fun ls' h' => k H locs ls' hG hS (hl.store rfl h'))

theorem g_iinc (hC : gK x l D base nL own cc rm) {i : Nat} {n z : Int} {lv' : List (Option Value)} (hd : decode cc pc = .ok (.iinc i n, 3)) (hi : i < nL) (hv : lv[i]? = some (some (vi z))) (he : lv.set i (some (vi (z + n))) = lv') (k : gV x D base nL (pc + 3) lv' st gh cells slots) : gV x D base nL pc lv st gh cells slots := by
  obtain ⟨p, l', e, R, s, m, args, below, meth, c, Q⟩ := x
  obtain ⟨hx, hb, hml, hown, hts, hE, hlocks, hR, hl', htr⟩ := hC
  intro H locs ls hG hS hl
  subst he
  obtain ⟨q, hq⟩ := List.getElem?_of_mem (gPr_of hv)
  exact lv_iinc hx hb hd hl.has hq (iI_add z n) hi rfl (fun ls' h' => k H locs ls' hG hS (hl.store rfl h'))

theorem g_iadd (hC : gK x l D base nL own cc rm) {a b : Int} (hd : decode cc pc = .ok (.iadd, 1)) (k : gV x D base nL (pc + 1) lv (vi (a + b) :: st) (gh) (cells) (slots)) : gV x D base nL (pc) lv (vi b :: vi a :: st) (gh) (cells) (slots) := by
  obtain ⟨p, l', e, R, s, m, args, below, meth, c, Q⟩ := x
  obtain ⟨hx, hb, hml, hown, hts, hE, hlocks, hR, hl', htr⟩ := hC
  intro H locs ls hG hS hl
  refine lv_iadd hx hb hd ?_
  rw [iI_add]
  exact k H locs ls hG hS hl

theorem g_isub (hC : gK x l D base nL own cc rm) {a b : Int} (hd : decode cc pc = .ok (.isub, 1)) (k : gV x D base nL (pc + 1) lv (vi (a - b) :: st) (gh) (cells) (slots)) : gV x D base nL (pc) lv (vi b :: vi a :: st) (gh) (cells) (slots) := by
  obtain ⟨p, l', e, R, s, m, args, below, meth, c, Q⟩ := x
  obtain ⟨hx, hb, hml, hown, hts, hE, hlocks, hR, hl', htr⟩ := hC
  intro H locs ls hG hS hl
  refine lv_isub hx hb hd ?_
  rw [iI_sub]
  exact k H locs ls hG hS hl

theorem g_imul (hC : gK x l D base nL own cc rm) {a b : Int} (hd : decode cc pc = .ok (.imul, 1)) (k : gV x D base nL (pc + 1) lv (vi (a * b) :: st) (gh) (cells) (slots)) : gV x D base nL (pc) lv (vi b :: vi a :: st) (gh) (cells) (slots) := by
  obtain ⟨p, l', e, R, s, m, args, below, meth, c, Q⟩ := x
  obtain ⟨hx, hb, hml, hown, hts, hE, hlocks, hR, hl', htr⟩ := hC
  intro H locs ls hG hS hl
  refine lv_imul hx hb hd ?_
  rw [iI_mul]
  exact k H locs ls hG hS hl

theorem g_idiv (hC : gK x l D base nL own cc rm) {a b : Int} (hd : decode cc pc = .ok (.idiv, 1)) (ha : 0 ≤ a ∧ a < 2147483648) (hb0 : 0 < b ∧ b < 2147483648) (k : gV x D base nL (pc + 1) lv (vi (a / b) :: st) (gh) (cells) (slots)) : gV x D base nL (pc) lv (vi b :: vi a :: st) (gh) (cells) (slots) := by
  obtain ⟨p, l', e, R, s, m, args, below, meth, c, Q⟩ := x
  obtain ⟨hx, hb, hml, hown, hts, hE, hlocks, hR, hl', htr⟩ := hC
  intro H locs ls hG hS hl
  refine lv_idiv hx hb hd (fun h => ?_) ?_
  · have := iI_inj (a := b) (b := 0) (by omega) (by omega) h
    omega
  rw [iI_div ha hb0]
  exact k H locs ls hG hS hl

theorem g_irem (hC : gK x l D base nL own cc rm) {a b : Int} (hd : decode cc pc = .ok (.irem, 1)) (ha : 0 ≤ a ∧ a < 2147483648) (hb0 : 0 < b ∧ b < 2147483648) (k : gV x D base nL (pc + 1) lv (vi (a % b) :: st) (gh) (cells) (slots)) : gV x D base nL (pc) lv (vi b :: vi a :: st) (gh) (cells) (slots) := by
  obtain ⟨p, l', e, R, s, m, args, below, meth, c, Q⟩ := x
  obtain ⟨hx, hb, hml, hown, hts, hE, hlocks, hR, hl', htr⟩ := hC
  intro H locs ls hG hS hl
  refine lv_irem hx hb hd (fun h => ?_) ?_
  · have := iI_inj (a := b) (b := 0) (by omega) (by omega) h
    omega
  rw [iI_rem ha hb0]
  exact k H locs ls hG hS hl

theorem g_ineg (hC : gK x l D base nL own cc rm) {a : Int} (hd : decode cc pc = .ok (.ineg, 1)) (k : gV x D base nL (pc + 1) lv (vi (-a) :: st) (gh) (cells) (slots)) : gV x D base nL (pc) lv (vi a :: st) (gh) (cells) (slots) := by
  obtain ⟨p, l', e, R, s, m, args, below, meth, c, Q⟩ := x
  obtain ⟨hx, hb, hml, hown, hts, hE, hlocks, hR, hl', htr⟩ := hC
  intro H locs ls hG hS hl
  refine lv_ineg hx hb hd ?_
  rw [iI_neg]
  exact k H locs ls hG hS hl

theorem g_i2b (hC : gK x l D base nL own cc rm) {a : Int} (hd : decode cc pc = .ok (.i2b, 1)) (ha : -128 ≤ a ∧ a < 128) (k : gV x D base nL (pc + 1) lv (vi a :: st) (gh) (cells) (slots)) : gV x D base nL (pc) lv (vi a :: st) (gh) (cells) (slots) := by
  obtain ⟨p, l', e, R, s, m, args, below, meth, c, Q⟩ := x
  obtain ⟨hx, hb, hml, hown, hts, hE, hlocks, hR, hl', htr⟩ := hC
  intro H locs ls hG hS hl
  exact lv_i2b hx hb hd (iI_byte ha.1 ha.2) (k H locs ls hG hS hl)

theorem g_iandR (hC : gK x l D base nL own cc rm) {a b c0 : Int} (hd : decode cc pc = .ok (.iand, 1)) (h : iI a &&& iI b = iI c0) (k : gV x D base nL (pc + 1) lv (vi c0 :: st) (gh) (cells) (slots)) : gV x D base nL (pc) lv (vi b :: vi a :: st) (gh) (cells) (slots) := by
  obtain ⟨p, l', e, R, s, m, args, below, meth, c, Q⟩ := x
  obtain ⟨hx, hb, hml, hown, hts, hE, hlocks, hR, hl', htr⟩ := hC
  intro H locs ls hG hS hl
  refine lv_iand hx hb hd ?_
  rw [h]
  exact k H locs ls hG hS hl

theorem g_ishr0 (hC : gK x l D base nL own cc rm) {a : Int} (hd : decode cc pc = .ok (.ishr, 1)) (k : gV x D base nL (pc + 1) lv (vi a :: st) (gh) (cells) (slots)) : gV x D base nL (pc) lv (vi 0 :: vi a :: st) (gh) (cells) (slots) := by
  obtain ⟨p, l', e, R, s, m, args, below, meth, c, Q⟩ := x
  obtain ⟨hx, hb, hml, hown, hts, hE, hlocks, hR, hl', htr⟩ := hC
  intro H locs ls hG hS hl
  refine lv_ishr hx hb hd ?_
  rw [show iI a >>> (iI 0 &&& 31) = iI a from sb_shr0 (iI a)]
  exact k H locs ls hG hS hl

theorem g_ishl0 (hC : gK x l D base nL own cc rm) {a : Int} (hd : decode cc pc = .ok (.ishl, 1)) (k : gV x D base nL (pc + 1) lv (vi a :: st) (gh) (cells) (slots)) : gV x D base nL (pc) lv (vi 0 :: vi a :: st) (gh) (cells) (slots) := by
  obtain ⟨p, l', e, R, s, m, args, below, meth, c, Q⟩ := x
  obtain ⟨hx, hb, hml, hown, hts, hE, hlocks, hR, hl', htr⟩ := hC
  intro H locs ls hG hS hl
  refine lv_ishl hx hb hd ?_
  rw [show iI a <<< (iI 0 &&& 31) = iI a from sb_shl0 (iI a)]
  exact k H locs ls hG hS hl

theorem g_i2c (hC : gK x l D base nL own cc rm) {a b : Int} (hd : decode cc pc = .ok (.i2c, 1)) (h : ((iI a).toUInt32 % 65536).toInt32 = iI b) (k : gV x D base nL (pc + 1) lv (vi b :: st) (gh) (cells) (slots)) : gV x D base nL (pc) lv (vi a :: st) (gh) (cells) (slots) := by
  obtain ⟨p, l', e, R, s, m, args, below, meth, c, Q⟩ := x
  obtain ⟨hx, hb, hml, hown, hts, hE, hlocks, hR, hl', htr⟩ := hC
  intro H locs ls hG hS hl
  exact lv_i2c hx hb hd h (k H locs ls hG hS hl)

theorem g_i2l (hC : gK x l D base nL own cc rm) {a : Int} (hd : decode cc pc = .ok (.i2l, 1)) (k : gV x D base nL (pc + 1) lv (.long (iI a).toInt64 :: st) (gh) (cells) (slots)) : gV x D base nL (pc) lv (vi a :: st) (gh) (cells) (slots) := by
  obtain ⟨p, l', e, R, s, m, args, below, meth, c, Q⟩ := x
  obtain ⟨hx, hb, hml, hown, hts, hE, hlocks, hR, hl', htr⟩ := hC
  intro H locs ls hG hS hl
  exact lv_i2l hx hb hd rfl (k H locs ls hG hS hl)

theorem g_i2f (hC : gK x l D base nL own cc rm) {a : Int32} (hd : decode cc pc = .ok (.i2f, 1)) (k : gV x D base nL (pc + 1) lv (.float (FP.i2f a) :: st) (gh) (cells) (slots)) : gV x D base nL (pc) lv (.int a :: st) (gh) (cells) (slots) := by
  obtain ⟨p, l', e, R, s, m, args, below, meth, c, Q⟩ := x
  obtain ⟨hx, hb, hml, hown, hts, hE, hlocks, hR, hl', htr⟩ := hC
  intro H locs ls hG hS hl
  exact lv_i2f hx hb hd (k H locs ls hG hS hl)

theorem g_f2i (hC : gK x l D base nL own cc rm) {a : UInt32} (hd : decode cc pc = .ok (.f2i, 1)) (k : gV x D base nL (pc + 1) lv (.int (FP.f2i a) :: st) (gh) (cells) (slots)) : gV x D base nL (pc) lv (.float a :: st) (gh) (cells) (slots) := by
  obtain ⟨p, l', e, R, s, m, args, below, meth, c, Q⟩ := x
  obtain ⟨hx, hb, hml, hown, hts, hE, hlocks, hR, hl', htr⟩ := hC
  intro H locs ls hG hS hl
  exact lv_f2i hx hb hd (k H locs ls hG hS hl)

theorem g_fadd (hC : gK x l D base nL own cc rm) {a b : UInt32} (hd : decode cc pc = .ok (.fadd, 1)) (hn : vf_n32 (FP.fadd a b)) (k : gV x D base nL (pc + 1) lv (.float (FP.fadd a b) :: st) (gh) (cells) (slots)) : gV x D base nL (pc) lv (.float b :: .float a :: st) (gh) (cells) (slots) := by
  obtain ⟨p, l', e, R, s, m, args, below, meth, c, Q⟩ := x
  obtain ⟨hx, hb, hml, hown, hts, hE, hlocks, hR, hl', htr⟩ := hC
  intro H locs ls hG hS hl
  exact lv_fadd hx hb hd hn (k H locs ls hG hS hl)

theorem g_fsub (hC : gK x l D base nL own cc rm) {a b : UInt32} (hd : decode cc pc = .ok (.fsub, 1)) (hn : vf_n32 (FP.fsub a b)) (k : gV x D base nL (pc + 1) lv (.float (FP.fsub a b) :: st) (gh) (cells) (slots)) : gV x D base nL (pc) lv (.float b :: .float a :: st) (gh) (cells) (slots) := by
  obtain ⟨p, l', e, R, s, m, args, below, meth, c, Q⟩ := x
  obtain ⟨hx, hb, hml, hown, hts, hE, hlocks, hR, hl', htr⟩ := hC
  intro H locs ls hG hS hl
  exact lv_fsub hx hb hd hn (k H locs ls hG hS hl)

theorem g_fmul (hC : gK x l D base nL own cc rm) {a b : UInt32} (hd : decode cc pc = .ok (.fmul, 1)) (hn : vf_n32 (FP.fmul a b)) (k : gV x D base nL (pc + 1) lv (.float (FP.fmul a b) :: st) (gh) (cells) (slots)) : gV x D base nL (pc) lv (.float b :: .float a :: st) (gh) (cells) (slots) := by
  obtain ⟨p, l', e, R, s, m, args, below, meth, c, Q⟩ := x
  obtain ⟨hx, hb, hml, hown, hts, hE, hlocks, hR, hl', htr⟩ := hC
  intro H locs ls hG hS hl
  exact lv_fmul hx hb hd hn (k H locs ls hG hS hl)

theorem g_fdiv (hC : gK x l D base nL own cc rm) {a b : UInt32} (hd : decode cc pc = .ok (.fdiv, 1)) (hn : vf_n32 (FP.fdiv a b)) (k : gV x D base nL (pc + 1) lv (.float (FP.fdiv a b) :: st) (gh) (cells) (slots)) : gV x D base nL (pc) lv (.float b :: .float a :: st) (gh) (cells) (slots) := by
  obtain ⟨p, l', e, R, s, m, args, below, meth, c, Q⟩ := x
  obtain ⟨hx, hb, hml, hown, hts, hE, hlocks, hR, hl', htr⟩ := hC
  intro H locs ls hG hS hl
  exact lv_fdiv hx hb hd hn (k H locs ls hG hS hl)

theorem g_fconst1 (hC : gK x l D base nL own cc rm)  (hd : decode cc pc = .ok (.fconst 1, 1)) (k : gV x D base nL (pc + 1) lv (.float FP.fconst1 :: st) (gh) (cells) (slots)) : gV x D base nL (pc) lv (st) (gh) (cells) (slots) := by
  obtain ⟨p, l', e, R, s, m, args, below, meth, c, Q⟩ := x
  obtain ⟨hx, hb, hml, hown, hts, hE, hlocks, hR, hl', htr⟩ := hC
  intro H locs ls hG hS hl
  exact lv_fconst1 hx hb hd (k H locs ls hG hS hl)

theorem g_ldcf (hC : gK x l D base nL own cc rm) {idx : Nat} {v : UInt32} (hd : decode cc pc = .ok (.ldc idx, 2)) (hw : Cond.constantFloat own idx v ∈ gwA) (k : gV x D base nL (pc + 2) lv (.float v :: st) (gh) (cells) (slots)) : gV x D base nL (pc) lv (st) (gh) (cells) (slots) := by
  obtain ⟨p, l', e, R, s, m, args, below, meth, c, Q⟩ := x
  obtain ⟨hx, hb, hml, hown, hts, hE, hlocks, hR, hl', htr⟩ := hC
  intro H locs ls hG hS hl
  exact lv_ldcf hx hb hown (hts _ hw) hd (k H locs ls hG hS hl)

theorem g_dup (hC : gK x l D base nL own cc rm) {v : Value} (hd : decode cc pc = .ok (.dup, 1)) (hv : v.category = 1) (k : gV x D base nL (pc + 1) lv (v :: v :: st) (gh) (cells) (slots)) : gV x D base nL (pc) lv (v :: st) (gh) (cells) (slots) := by
  obtain ⟨p, l', e, R, s, m, args, below, meth, c, Q⟩ := x
  obtain ⟨hx, hb, hml, hown, hts, hE, hlocks, hR, hl', htr⟩ := hC
  intro H locs ls hG hS hl
  exact lv_dup hx hb hd hv (k H locs ls hG hS hl)

theorem g_pop (hC : gK x l D base nL own cc rm) {v : Value} (hd : decode cc pc = .ok (.pop, 1)) (hv : v.category = 1) (k : gV x D base nL (pc + 1) lv (st) (gh) (cells) (slots)) : gV x D base nL (pc) lv (v :: st) (gh) (cells) (slots) := by
  obtain ⟨p, l', e, R, s, m, args, below, meth, c, Q⟩ := x
  obtain ⟨hx, hb, hml, hown, hts, hE, hlocks, hR, hl', htr⟩ := hC
  intro H locs ls hG hS hl
  exact lv_pop hx hb hd hv (k H locs ls hG hS hl)

theorem g_dup2 (hC : gK x l D base nL own cc rm) {v w : Value} (hd : decode cc pc = .ok (.dup2, 1)) (hv : v.category = 1) (hw : w.category = 1) (k : gV x D base nL (pc + 1) lv (v :: w :: v :: w :: st) (gh) (cells) (slots)) : gV x D base nL (pc) lv (v :: w :: st) (gh) (cells) (slots) := by
  obtain ⟨p, l', e, R, s, m, args, below, meth, c, Q⟩ := x
  obtain ⟨hx, hb, hml, hown, hts, hE, hlocks, hR, hl', htr⟩ := hC
  intro H locs ls hG hS hl
  exact lv_dup2_11 hx hb hd hv hw (k H locs ls hG hS hl)

theorem g_dup_x1 (hC : gK x l D base nL own cc rm) {v w : Value} (hd : decode cc pc = .ok (.dup_x1, 1)) (hv : v.category = 1) (hw : w.category = 1) (k : gV x D base nL (pc + 1) lv (v :: w :: v :: st) (gh) (cells) (slots)) : gV x D base nL (pc) lv (v :: w :: st) (gh) (cells) (slots) := by
  obtain ⟨p, l', e, R, s, m, args, below, meth, c, Q⟩ := x
  obtain ⟨hx, hb, hml, hown, hts, hE, hlocks, hR, hl', htr⟩ := hC
  intro H locs ls hG hS hl
  exact lv_dup_x1 hx hb hd hv hw (k H locs ls hG hS hl)

theorem g_goto (hC : gK x l D base nL own cc rm) {off : Int} {tgt : Nat} (hd : decode cc pc = .ok (.goto off, 3)) (ht : (pc : Int) + off = (tgt : Int)) (k : gV x D base nL (tgt) lv (st) (gh) (cells) (slots)) : gV x D base nL (pc) lv (st) (gh) (cells) (slots) := by
  obtain ⟨p, l', e, R, s, m, args, below, meth, c, Q⟩ := x
  obtain ⟨hx, hb, hml, hown, hts, hE, hlocks, hR, hl', htr⟩ := hC
  intro H locs ls hG hS hl
  exact lv_goto hx hb hd ht (k H locs ls hG hS hl)

theorem g_icmp_eq (hC : gK x l D base nL own cc rm) {a b : Int} {off : Int} {tgt : Nat} (hd : decode cc pc = .ok (.if_icmp .eq off, 3)) (ht : (pc : Int) + off = (tgt : Int)) (ha : -2147483648 ≤ a ∧ a < 2147483648) (hb0 : -2147483648 ≤ b ∧ b < 2147483648)
    (kt : a = b → gV x D base nL tgt lv st gh cells slots) (kf : a ≠ b → gV x D base nL (pc + 3) lv st gh cells slots) : gV x D base nL pc lv (vi b :: vi a :: st) gh cells slots := by
  obtain ⟨p, l', e, R, s, m, args, below, meth, c, Q⟩ := x
  obtain ⟨hx, hb, hml, hown, hts, hE, hlocks, hR, hl', htr⟩ := hC
  intro H locs ls hG hS hl
  exact lv_icmp_eq hx hb hd ht (fun h => kt (iI_inj ha hb0 h) H locs ls hG hS hl) (fun h => kf ((fun z => h (by rw [z]))) H locs ls hG hS hl)

theorem g_if_eq (hC : gK x l D base nL own cc rm) {a : Int} {off : Int} {tgt : Nat} (hd : decode cc pc = .ok (.ifCond .eq off, 3)) (ht : (pc : Int) + off = (tgt : Int)) (ha : -2147483648 ≤ a ∧ a < 2147483648)
    (kt : a = 0 → gV x D base nL tgt lv st gh cells slots) (kf : a ≠ 0 → gV x D base nL (pc + 3) lv st gh cells slots) : gV x D base nL pc lv (vi a :: st) gh cells slots := by
  obtain ⟨p, l', e, R, s, m, args, below, meth, c, Q⟩ := x
  obtain ⟨hx, hb, hml, hown, hts, hE, hlocks, hR, hl', htr⟩ := hC
  intro H locs ls hG hS hl
  exact lv_if_eq hx hb hd ht (fun h => kt (iI_inj ha (by decide) h) H locs ls hG hS hl) (fun h => kf ((fun z => h (by rw [z]; rfl))) H locs ls hG hS hl)

theorem g_icmp_ne (hC : gK x l D base nL own cc rm) {a b : Int} {off : Int} {tgt : Nat} (hd : decode cc pc = .ok (.if_icmp .ne off, 3)) (ht : (pc : Int) + off = (tgt : Int)) (ha : -2147483648 ≤ a ∧ a < 2147483648) (hb0 : -2147483648 ≤ b ∧ b < 2147483648)
    (kt : a ≠ b → gV x D base nL tgt lv st gh cells slots) (kf : a = b → gV x D base nL (pc + 3) lv st gh cells slots) : gV x D base nL pc lv (vi b :: vi a :: st) gh cells slots := by
  obtain ⟨p, l', e, R, s, m, args, below, meth, c, Q⟩ := x
  obtain ⟨hx, hb, hml, hown, hts, hE, hlocks, hR, hl', htr⟩ := hC
  intro H locs ls hG hS hl
  exact lv_icmp_ne hx hb hd ht (fun h => kt ((fun z => h (by rw [z]))) H locs ls hG hS hl) (fun h => kf ((iI_inj ha hb0 h)) H locs ls hG hS hl)

theorem g_if_ne (hC : gK x l D base nL own cc rm) {a : Int} {off : Int} {tgt : Nat} (hd : decode cc pc = .ok (.ifCond .ne off, 3)) (ht : (pc : Int) + off = (tgt : Int)) (ha : -2147483648 ≤ a ∧ a < 2147483648)
    (kt : a ≠ 0 → gV x D base nL tgt lv st gh cells slots) (kf : a = 0 → gV x D base nL (pc + 3) lv st gh cells slots) : gV x D base nL pc lv (vi a :: st) gh cells slots := by
  obtain ⟨p, l', e, R, s, m, args, below, meth, c, Q⟩ := x
  obtain ⟨hx, hb, hml, hown, hts, hE, hlocks, hR, hl', htr⟩ := hC
  intro H locs ls hG hS hl
  exact lv_if_ne hx hb hd ht (fun h => kt ((fun z => h (by rw [z]; rfl))) H locs ls hG hS hl) (fun h => kf ((iI_inj ha (by decide) h)) H locs ls hG hS hl)

theorem g_icmp_lt (hC : gK x l D base nL own cc rm) {a b : Int} {off : Int} {tgt : Nat} (hd : decode cc pc = .ok (.if_icmp .lt off, 3)) (ht : (pc : Int) + off = (tgt : Int)) (ha : -2147483648 ≤ a ∧ a < 2147483648) (hb0 : -2147483648 ≤ b ∧ b < 2147483648)
    (kt : a < b → gV x D base nL tgt lv st gh cells slots) (kf : b ≤ a → gV x D base nL (pc + 3) lv st gh cells slots) : gV x D base nL pc lv (vi b :: vi a :: st) gh cells slots := by
  obtain ⟨p, l', e, R, s, m, args, below, meth, c, Q⟩ := x
  obtain ⟨hx, hb, hml, hown, hts, hE, hlocks, hR, hl', htr⟩ := hC
  intro H locs ls hG hS hl
  exact lv_icmp_lt hx hb hd ht (fun h => kt (((iI_lt ha hb0).mp h)) H locs ls hG hS hl) (fun h => kf ((Int.not_lt.mp (fun z => h ((iI_lt ha hb0).mpr z)))) H locs ls hG hS hl)

theorem g_if_lt (hC : gK x l D base nL own cc rm) {a : Int} {off : Int} {tgt : Nat} (hd : decode cc pc = .ok (.ifCond .lt off, 3)) (ht : (pc : Int) + off = (tgt : Int)) (ha : -2147483648 ≤ a ∧ a < 2147483648)
    (kt : a < 0 → gV x D base nL tgt lv st gh cells slots) (kf : 0 ≤ a → gV x D base nL (pc + 3) lv st gh cells slots) : gV x D base nL pc lv (vi a :: st) gh cells slots := by
  obtain ⟨p, l', e, R, s, m, args, below, meth, c, Q⟩ := x
  obtain ⟨hx, hb, hml, hown, hts, hE, hlocks, hR, hl', htr⟩ := hC
  intro H locs ls hG hS hl
  exact lv_if_lt hx hb hd ht (fun h => kt (((iI_lt ha (by decide)).mp h)) H locs ls hG hS hl) (fun h => kf ((Int.not_lt.mp (fun z => h ((iI_lt ha (b := 0) (by decide)).mpr z)))) H locs ls hG hS hl)

theorem g_icmp_ge (hC : gK x l D base nL own cc rm) {a b : Int} {off : Int} {tgt : Nat} (hd : decode cc pc = .ok (.if_icmp .ge off, 3)) (ht : (pc : Int) + off = (tgt : Int)) (ha : -2147483648 ≤ a ∧ a < 2147483648) (hb0 : -2147483648 ≤ b ∧ b < 2147483648)
    (kt : b ≤ a → gV x D base nL tgt lv st gh cells slots) (kf : a < b → gV x D base nL (pc + 3) lv st gh cells slots) : gV x D base nL pc lv (vi b :: vi a :: st) gh cells slots := by
  obtain ⟨p, l', e, R, s, m, args, below, meth, c, Q⟩ := x
  obtain ⟨hx, hb, hml, hown, hts, hE, hlocks, hR, hl', htr⟩ := hC
  intro H locs ls hG hS hl
  exact lv_icmp_ge hx hb hd ht (fun h => kt (((iI_le hb0 ha).mp h)) H locs ls hG hS hl) (fun h => kf ((Int.not_le.mp (fun z => h ((iI_le hb0 ha).mpr z)))) H locs ls hG hS hl)

theorem g_if_ge (hC : gK x l D base nL own cc rm) {a : Int} {off : Int} {tgt : Nat} (hd : decode cc pc = .ok (.ifCond .ge off, 3)) (ht : (pc : Int) + off = (tgt : Int)) (ha : -2147483648 ≤ a ∧ a < 2147483648)
    (kt : 0 ≤ a → gV x D base nL tgt lv st gh cells slots) (kf : a < 0 → gV x D base nL (pc + 3) lv st gh cells slots) : gV x D base nL pc lv (vi a :: st) gh cells slots := by
  obtain ⟨p, l', e, R, s, m, args, below, meth, c, Q⟩ := x
  obtain ⟨hx, hb, hml, hown, hts, hE, hlocks, hR, hl', htr⟩ := hC
  intro H locs ls hG hS hl
  exact lv_if_ge hx hb hd ht (fun h => kt (((iI_le (a := 0) (by decide) ha).mp h)) H locs ls hG hS hl) (fun h => kf ((Int.not_le.mp (fun z => h ((iI_le (a := 0) (by decide) ha).mpr z)))) H locs ls hG hS hl)

theorem g_icmp_gt (hC : gK x l D base nL own cc rm) {a b : Int} {off : Int} {tgt : Nat} (hd : decode cc pc = .ok (.if_icmp .gt off, 3)) (ht : (pc : Int) + off = (tgt : Int)) (ha : -2147483648 ≤ a ∧ a < 2147483648) (hb0 : -2147483648 ≤ b ∧ b < 2147483648)
    (kt : b < a → gV x D base nL tgt lv st gh cells slots) (kf : a ≤ b → gV x D base nL (pc + 3) lv st gh cells slots) : gV x D base nL pc lv (vi b :: vi a :: st) gh cells slots := by
  obtain ⟨p, l', e, R, s, m, args, below, meth, c, Q⟩ := x
  obtain ⟨hx, hb, hml, hown, hts, hE, hlocks, hR, hl', htr⟩ := hC
  intro H locs ls hG hS hl
  exact lv_icmp_gt hx hb hd ht (fun h => kt (((iI_lt hb0 ha).mp h)) H locs ls hG hS hl) (fun h => kf ((Int.not_lt.mp (fun z => h ((iI_lt hb0 ha).mpr z)))) H locs ls hG hS hl)

theorem g_if_gt (hC : gK x l D base nL own cc rm) {a : Int} {off : Int} {tgt : Nat} (hd : decode cc pc = .ok (.ifCond .gt off, 3)) (ht : (pc : Int) + off = (tgt : Int)) (ha : -2147483648 ≤ a ∧ a < 2147483648)
    (kt : 0 < a → gV x D base nL tgt lv st gh cells slots) (kf : a ≤ 0 → gV x D base nL (pc + 3) lv st gh cells slots) : gV x D base nL pc lv (vi a :: st) gh cells slots := by
  obtain ⟨p, l', e, R, s, m, args, below, meth, c, Q⟩ := x
  obtain ⟨hx, hb, hml, hown, hts, hE, hlocks, hR, hl', htr⟩ := hC
  intro H locs ls hG hS hl
  exact lv_if_gt hx hb hd ht (fun h => kt (((iI_lt (a := 0) (by decide) ha).mp h)) H locs ls hG hS hl) (fun h => kf ((Int.not_lt.mp (fun z => h ((iI_lt (a := 0) (by decide) ha).mpr z)))) H locs ls hG hS hl)

theorem g_icmp_le (hC : gK x l D base nL own cc rm) {a b : Int} {off : Int} {tgt : Nat} (hd : decode cc pc = .ok (.if_icmp .le off, 3)) (ht : (pc : Int) + off = (tgt : Int)) (ha : -2147483648 ≤ a ∧ a < 2147483648) (hb0 : -2147483648 ≤ b ∧ b < 2147483648)
    (kt : a ≤ b → gV x D base nL tgt lv st gh cells slots) (kf : b < a → gV x D base nL (pc + 3) lv st gh cells slots) : gV x D base nL pc lv (vi b :: vi a :: st) gh cells slots := by
  obtain ⟨p, l', e, R, s, m, args, below, meth, c, Q⟩ := x
  obtain ⟨hx, hb, hml, hown, hts, hE, hlocks, hR, hl', htr⟩ := hC
  intro H locs ls hG hS hl
  exact lv_icmp_le hx hb hd ht (fun h => kt (((iI_le ha hb0).mp h)) H locs ls hG hS hl) (fun h => kf ((Int.not_le.mp (fun z => h ((iI_le ha hb0).mpr z)))) H locs ls hG hS hl)

theorem g_if_le (hC : gK x l D base nL own cc rm) {a : Int} {off : Int} {tgt : Nat} (hd : decode cc pc = .ok (.ifCond .le off, 3)) (ht : (pc : Int) + off = (tgt : Int)) (ha : -2147483648 ≤ a ∧ a < 2147483648)
    (kt : a ≤ 0 → gV x D base nL tgt lv st gh cells slots) (kf : 0 < a → gV x D base nL (pc + 3) lv st gh cells slots) : gV x D base nL pc lv (vi a :: st) gh cells slots := by
  obtain ⟨p, l', e, R, s, m, args, below, meth, c, Q⟩ := x
  obtain ⟨hx, hb, hml, hown, hts, hE, hlocks, hR, hl', htr⟩ := hC
  intro H locs ls hG hS hl
  exact lv_if_le hx hb hd ht (fun h => kt (((iI_le ha (b := 0) (by decide)).mp h)) H locs ls hG hS hl) (fun h => kf ((Int.not_le.mp (fun z => h ((iI_le ha (b := 0) (by decide)).mpr z)))) H locs ls hG hS hl)

theorem g_ifeq_b (hC : gK x l D base nL own cc rm) {a : Bool} {off : Int} {tgt : Nat} (hd : decode cc pc = .ok (.ifCond .eq off, 3)) (ht : (pc : Int) + off = (tgt : Int))
    (kt : a = false → gV x D base nL tgt lv st gh cells slots) (kf : a = true → gV x D base nL (pc + 3) lv st gh cells slots) : gV x D base nL pc lv (vi (b2i a) :: st) gh cells slots := by
  cases a with
  | false => exact g_if_eq hC hd ht (by decide) (fun _ => kt rfl) (fun h => absurd rfl h)
  | true => exact g_if_eq hC hd ht (by decide) (fun h => absurd h (by decide)) (fun _ => kf rfl)
theorem g_ifne_b (hC : gK x l D base nL own cc rm) {a : Bool} {off : Int} {tgt : Nat} (hd : decode cc pc = .ok (.ifCond .ne off, 3)) (ht : (pc : Int) + off = (tgt : Int))
    (kt : a = true → gV x D base nL tgt lv st gh cells slots) (kf : a = false → gV x D base nL (pc + 3) lv st gh cells slots) : gV x D base nL pc lv (vi (b2i a) :: st) gh cells slots := by
  cases a with
  | false => exact g_if_ne hC hd ht (by decide) (fun h => absurd rfl h) (fun _ => kf rfl)
  | true => exact g_if_ne hC hd ht (by decide) (fun _ => kt rfl) (fun h => absurd h (by decide))
theorem g_ifnull (hC : gK x l D base nL own cc rm) {v : Option Nat} {off : Int} {tgt : Nat} (hd : decode cc pc = .ok (.ifnull off, 3)) (ht : (pc : Int) + off = (tgt : Int))
    (kt : v = none → gV x D base nL tgt lv st gh cells slots) (kf : ∀ a, v = some a → gV x D base nL (pc + 3) lv st gh cells slots) : gV x D base nL pc lv (va_rf v :: st) gh cells slots := by
  obtain ⟨p, l', e, R, s, m, args, below, meth, c, Q⟩ := x
  obtain ⟨hx, hb, hml, hown, hts, hE, hlocks, hR, hl', htr⟩ := hC
  intro H locs ls hG hS hl
  cases v with
  | none => exact lv_ifnullN hx hb hd ht (kt rfl H locs ls hG hS hl)
  | some a => exact lv_ifnull hx hb hd (kf a rfl H locs ls hG hS hl)
theorem g_ifnonnull (hC : gK x l D base nL own cc rm) {v : Option Nat} {off : Int} {tgt : Nat} (hd : decode cc pc = .ok (.ifnonnull off, 3)) (ht : (pc : Int) + off = (tgt : Int))
    (kt : ∀ a, v = some a → gV x D base nL tgt lv st gh cells slots) (kf : v = none → gV x D base nL (pc + 3) lv st gh cells slots) : gV x D base nL pc lv (va_rf v :: st) gh cells slots := by
  obtain ⟨p, l', e, R, s, m, args, below, meth, c, Q⟩ := x
  obtain ⟨hx, hb, hml, hown, hts, hE, hlocks, hR, hl', htr⟩ := hC
  intro H locs ls hG hS hl
  cases v with
  | none => exact lv_ifnonnullN hx hb hd (kf rfl H locs ls hG hS hl)
  | some a => exact lv_ifnonnull hx hb hd ht (kt a rfl H locs ls hG hS hl)

/-- own's pool entry idx is the field k of the class ci -/
def gFd (own : String) (idx ci k : Nat) : Prop := ∃ (C : String) (T : u_T) (N : Nat), vwCl[ci]? = some (C, T, N) ∧ (∀ w ∈ u_ws C T N, w ∈ gwA) ∧ k < N ∧ Cond.fieldLink own idx (T k).1 (T k).2.1 (T k).2.2.1 ∈ gwA
/-- .. as it's written: its type, whether it's final (then in its own class' constructor alone) -/
def gFw (own : String) (idx ci k : Nat) (fin : Bool) (ty : FieldType) : Prop := ∃ (C : String) (T : u_T) (N : Nat), vwCl[ci]? = some (C, T, N) ∧ (∀ w ∈ u_ws C T N, w ∈ gwA) ∧ k < N ∧ Cond.fieldLink own idx (T k).1 (T k).2.1 (T k).2.2.1 ∈ gwA ∧
  (∃ ty0 : Nat → FieldType, (∀ k, k < N → parseFieldDescriptor (T k).2.2.1 = some (ty0 k)) ∧ ty0 k = ty) ∧ (∀ a, a < N → ∀ b, b < N → a ≠ b → (T a).2.1 ≠ (T b).2.1) ∧ (T k).2.2.2 = fin ∧ (fin = true → (T k).1 = own)
theorem gG.one {H : Heap} (hG : gG D base gh H) {a : Nat} {cl : gC} (ha : gh a = some cl) : va_P D.1 vwCl [(a, g2 D cl)] H := fun j q hj => by
  cases j with
  | zero => cases hj; exact (hG a cl ha).2
  | succ j => simp at hj
theorem g_get (hC : gK x l D base nL own cc rm) {idx ci k a : Nat} {fs : List Value} {v : Value} (hd : decode cc pc = .ok (.getfield idx, 3)) (hf : gFd own idx ci k) (ha : gh a = some (gO ci fs)) (hv : fs[k]? = some v)
    (kk : gV x D base nL (pc + 3) lv (v :: st) gh cells slots) : gV x D base nL pc lv (.ref a :: st) gh cells slots := by
  obtain ⟨p, l', e, R, s, m, args, below, meth, c, Q⟩ := x
  obtain ⟨hx, hb, hml, hown, hts, hE, hlocks, hR, hl', htr⟩ := hC
  intro H locs ls hG hS hl
  obtain ⟨C, T, N, h1, h2, h3, h4⟩ := hf
  exact va_get hx hb hts h2 hown hE.1 (hG.one ha) 0 rfl h1 k h3 (hts _ h4) (fun _ h => h) hv hd (kk H locs ls hG hS hl)
theorem g_put (hC : gK x l D base nL own cc rm) {idx ci k a : Nat} {fs fs' : List Value} {v : Value} {ty : FieldType} (hd : decode cc pc = .ok (.putfield idx, 3)) (hf : gFw own idx ci k false ty) (ha : gh a = some (gO ci fs)) (hn : narrow ty v = v ∧ fits ty v = true) (hs : fs.set k v = fs') (hlen : k < fs.length)
    (kk : gV x D base nL (pc + 3) lv st (gset gh a (gO ci fs')) cells slots) : gV x D base nL pc lv (v :: .ref a :: st) gh cells slots := by
  obtain ⟨p, l', e, R, s, m, args, below, meth, c, Q⟩ := x
  obtain ⟨hx, hb, hml, hown, hts, hE, hlocks, hR, hl', htr⟩ := hC
  intro H locs ls hG hS hl
  subst hs
  obtain ⟨C, T, N, h1, h2, h3, h4, ⟨ty0, h5, rfl⟩, h6, h7, -⟩ := hf
  have hK := hE.1
  have hap := va_apart (own := own) hts h2 ty0 h5 h6 hK h1
  obtain ⟨hba, r, r1, cell, q1, q2, q3, q4⟩ := hG a _ ha
  have hr : r = (C, T, N) := Option.some.inj (r1.symm.trans h1)
  subst hr
  obtain ⟨hS1, hfc, kC, hkC, hkind⟩ := hK.1 ci _ h1
  obtain ⟨cf, kf, fi, f, hi, hsl⟩ := hS1 k h3
  have hlay := hts _ (h2 _ (u_in_lay h3))
  unfold u_lay at hlay
  rw [if_neg (by rw [h7]; decide)] at hlay
  have hst := (u_facts hfc hkC (u_lays hts h2 h3) hi).1
  have h8 := u_store hfc hkC hkind hlay hi (h5 k h3) hn.1 hn.2
  refine W.putK hx hb (f := f) ⟨hown, hts _ h4, ⟨_, _, _, hi⟩, hst⟩ (by rw [q2]; exact h8) q1 q3 (by rw [hsl]; exact k2_hasslot (q4 k h3)) rfl rfl hd fun H' e1 e2 e3 => ?_
  rw [hsl] at e1 ⊢
  exact kk H' _ ls (hG.set hba ⟨_, h1, t_OB.to (V := updV (vp_V fs) k v) ⟨_, e1, q2, q3, t_set q4 hap h3 v⟩ (fun j _ => vp_updV_set hlen v j)⟩ e3) (hS.put e2 e3 hba) hl
theorem g_putF (hC : gK x l D base nL own cc rm) {idx ci k a : Nat} {fs fs' : List Value} {v : Value} {ty : FieldType} {post : Option Value → gH → Prop} {postX : String → gH → Prop} {mc ms : Nat} {ret : Option FieldType} (hq : gEnd x D base post postX mc ms ret "<init>") (hd : decode cc pc = .ok (.putfield idx, 3)) (hf : gFw own idx ci k true ty) (ha : gh a = some (gO ci fs)) (hn : narrow ty v = v ∧ fits ty v = true) (hs : fs.set k v = fs') (hlen : k < fs.length)
    (kk : gV x D base nL (pc + 3) lv st (gset gh a (gO ci fs')) cells slots) : gV x D base nL pc lv (v :: .ref a :: st) gh cells slots := by
  obtain ⟨p, l', e, R, s, m, args, below, meth, c, Q⟩ := x
  obtain ⟨hx, hb, hml, hown, hts, hE, hlocks, hR, hl', htr⟩ := hC
  intro H locs ls hG hS hl
  subst hs
  obtain ⟨C, T, N, h1, h2, h3, h4, ⟨ty0, h5, rfl⟩, h6, h7, hdecl⟩ := hf
  have hin2 : meth.name = "<init>" := hq.2.2.1
  have hK := hE.1
  have hap := va_apart (own := own) hts h2 ty0 h5 h6 hK h1
  obtain ⟨hba, r, r1, cell, q1, q2, q3, q4⟩ := hG a _ ha
  have hr : r = (C, T, N) := Option.some.inj (r1.symm.trans h1)
  subst hr
  obtain ⟨hS1, hfc, kC, hkC, hkind⟩ := hK.1 ci _ h1
  obtain ⟨cf, kf, fi, f, hi, hsl⟩ := hS1 k h3
  have hlay := hts _ (h2 _ (u_in_lay h3))
  unfold u_lay at hlay
  rw [if_pos h7] at hlay
  have hst := (u_facts hfc hkC (u_lays hts h2 h3) hi).1
  have hcf : m.cls = cf := by
    obtain ⟨_, _, c', _, _, _, -, -, hf', -, -, -, hown2, -⟩ := Cond.laysFinal_spec hlay
    have e1 : c' = cf := by have := hi.symm.trans hf'; simp at this; exact this.1.symm
    rw [hdecl rfl] at hown2
    rw [← e1]; exact Option.some.inj (hown.symm.trans hown2)
  have h8 := u_fits hfc hkC hkind (Or.inr hlay) hi (h5 k h3) hn.1 hn.2
  refine W.putFinK hx hb hown (hts _ h4) hi hst hcf hin2 (by rw [q2]; exact h8) q1 q3 (by rw [hsl]; exact k2_hasslot (q4 k h3)) rfl rfl hd fun H' e1 e2 e3 => ?_
  rw [hsl] at e1 ⊢
  exact kk H' _ ls (hG.set hba ⟨_, h1, t_OB.to (V := updV (vp_V fs) k v) ⟨_, e1, q2, q3, t_set q4 hap h3 v⟩ (fun j _ => vp_updV_set hlen v j)⟩ e3) (hS.put e2 e3 hba) hl

theorem g_iald (hC : gK x l D base nL own cc rm) {a n : Nat} {F : Nat → Int} {i z : Int} (hd : decode cc pc = .ok (.iaload, 1)) (ha : gh a = some (gI 1 n F)) (hi : 0 ≤ i ∧ i < n) (hn : n < 2147483648) (hz : F i.toNat = z)
    (kk : gV x D base nL (pc + 1) lv (vi z :: st) gh cells slots) : gV x D base nL pc lv (vi i :: .ref a :: st) gh cells slots := by
  obtain ⟨p, l', e, R, s, m, args, below, meth, c, Q⟩ := x
  obtain ⟨hx, hb, hml, hown, hts, hE, hlocks, hR, hl', htr⟩ := hC
  intro H locs ls hG hS hl
  subst hz
  refine va_iald hx hb hE.1 (hG.one ha) 0 1 rfl (gtys_at D (by decide)) (iI_in hi.1 hi.2 hn) hd ?_
  rw [iI_clamp hi.1 (by omega)]
  exact kk H locs ls hG hS hl

theorem g_bald (hC : gK x l D base nL own cc rm) {a n : Nat} {F : Nat → Int} {i z : Int} (hd : decode cc pc = .ok (.baload, 1)) (ha : gh a = some (gI 2 n F)) (hi : 0 ≤ i ∧ i < n) (hn : n < 2147483648) (hz : F i.toNat = z)
    (kk : gV x D base nL (pc + 1) lv (vi z :: st) gh cells slots) : gV x D base nL pc lv (vi i :: .ref a :: st) gh cells slots := by
  obtain ⟨p, l', e, R, s, m, args, below, meth, c, Q⟩ := x
  obtain ⟨hx, hb, hml, hown, hts, hE, hlocks, hR, hl', htr⟩ := hC
  intro H locs ls hG hS hl
  subst hz
  refine va_bald hx hb hE.1 (hG.one ha) 0 2 rfl (gtys_at D (by decide)) (iI_in hi.1 hi.2 hn) hd ?_
  rw [iI_clamp hi.1 (by omega)]
  exact kk H locs ls hG hS hl

theorem g_cald (hC : gK x l D base nL own cc rm) {a n : Nat} {F : Nat → Int} {i z : Int} (hd : decode cc pc = .ok (.caload, 1)) (ha : gh a = some (gI 0 n F)) (hi : 0 ≤ i ∧ i < n) (hn : n < 2147483648) (hz : F i.toNat = z)
    (kk : gV x D base nL (pc + 1) lv (vi z :: st) gh cells slots) : gV x D base nL pc lv (vi i :: .ref a :: st) gh cells slots := by
  obtain ⟨p, l', e, R, s, m, args, below, meth, c, Q⟩ := x
  obtain ⟨hx, hb, hml, hown, hts, hE, hlocks, hR, hl', htr⟩ := hC
  intro H locs ls hG hS hl
  subst hz
  refine va_cald hx hb hE.1 (hG.one ha) 0 0 rfl (gtys_at D (by decide)) (iI_in hi.1 hi.2 hn) hd ?_
  rw [iI_clamp hi.1 (by omega)]
  exact kk H locs ls hG hS hl

theorem g_aald (hC : gK x l D base nL own cc rm) {a n kd : Nat} {F : Nat → Option Nat} {i : Int} {v : Option Nat} {C : String} (hd : decode cc pc = .ok (.aaload, 1)) (ha : gh a = some (gR kd n F)) (hk : kd < 10) (hC2 : gty kd = .object C) (hi : 0 ≤ i ∧ i < n) (hn : n < 2147483648) (hz : F i.toNat = v)
    (kk : gV x D base nL (pc + 1) lv (va_rf v :: st) gh cells slots) : gV x D base nL pc lv (vi i :: .ref a :: st) gh cells slots := by
  obtain ⟨p, l', e, R, s, m, args, below, meth, c, Q⟩ := x
  obtain ⟨hx, hb, hml, hown, hts, hE, hlocks, hR, hl', htr⟩ := hC
  intro H locs ls hG hS hl
  subst hz
  refine va_aldq hx hb hE.1 (hG.one ha) 0 kd rfl (by rw [gtys_at D hk, hC2]) (iI_in hi.1 hi.2 hn) hd ?_
  rw [iI_clamp hi.1 (by omega)]
  exact kk H locs ls hG hS hl
theorem g_lald (hC : gK x l D base nL own cc rm) {a n : Nat} {F : Nat → Int64} {i : Int} (hd : decode cc pc = .ok (.laload, 1)) (ha : gh a = some (gL 3 n F)) (hi : 0 ≤ i ∧ i < n) (hn : n < 2147483648)
    (kk : gV x D base nL (pc + 1) lv (.long (F i.toNat) :: st) gh cells slots) : gV x D base nL pc lv (vi i :: .ref a :: st) gh cells slots := by
  obtain ⟨p, l', e, R, s, m, args, below, meth, c, Q⟩ := x
  obtain ⟨hx, hb, hml, hown, hts, hE, hlocks, hR, hl', htr⟩ := hC
  intro H locs ls hG hS hl
  refine va_lald hx hb hE.1 (hG.one ha) 0 3 rfl (gtys_at D (by decide)) (iI_in hi.1 hi.2 hn) hd ?_
  rw [iI_clamp hi.1 (by omega)]
  exact kk H locs ls hG hS hl
theorem g_alenI (hC : gK x l D base nL own cc rm) {a n kd : Nat} {F : Nat → Int} (hd : decode cc pc = .ok (.arraylength, 1)) (ha : gh a = some (gI kd n F)) (hk : kd < 10)
    (kk : gV x D base nL (pc + 1) lv (vi n :: st) gh cells slots) : gV x D base nL pc lv (.ref a :: st) gh cells slots := by
  obtain ⟨p, l', e, R, s, m, args, below, meth, c, Q⟩ := x
  obtain ⟨hx, hb, hml, hown, hts, hE, hlocks, hR, hl', htr⟩ := hC
  intro H locs ls hG hS hl
  exact va_alen hx hb hE.1 (hG.one ha) 0 kd rfl (gtys_at D hk) (iI_nI n).symm hd (kk H locs ls hG hS hl)
theorem g_alenR (hC : gK x l D base nL own cc rm) {a n kd : Nat} {F : Nat → Option Nat} (hd : decode cc pc = .ok (.arraylength, 1)) (ha : gh a = some (gR kd n F)) (hk : kd < 10)
    (kk : gV x D base nL (pc + 1) lv (vi n :: st) gh cells slots) : gV x D base nL pc lv (.ref a :: st) gh cells slots := by
  obtain ⟨p, l', e, R, s, m, args, below, meth, c, Q⟩ := x
  obtain ⟨hx, hb, hml, hown, hts, hE, hlocks, hR, hl', htr⟩ := hC
  intro H locs ls hG hS hl
  exact va_alen hx hb hE.1 (hG.one ha) 0 kd rfl (gtys_at D hk) (iI_nI n).symm hd (kk H locs ls hG hS hl)
def gup {α : Type} (F : Nat → α) (k : Nat) (v : α) : Nat → α := fun j => if j = k then v else F j
theorem gup_eq {α : Type} {F : Nat → α} {k : Nat} {v : α} : gup F k v k = v := if_pos rfl
theorem gup_ne {α : Type} {F : Nat → α} {k j : Nat} {v : α} (h : j ≠ k) : gup F k v j = F j := if_neg h
theorem arrR (D : gD) {s : State} {kd : Nat} (hE : gE D base s) (hk : kd < 10) : ArrOfT s (D.2 kd) (gty kd) := (hE.1.2 kd _ (gtys_at D hk)).1

theorem g_iast (hC : gK x l D base nL own cc rm) {a n : Nat} {F : Nat → Int} {i z : Int} (hd : decode cc pc = .ok (.iastore, 1)) (ha : gh a = some (gI 1 n F)) (hi : 0 ≤ i ∧ i < n) (hn : n < 2147483648)
    (kk : gV x D base nL (pc + 1) lv st (gset gh a (gI 1 n (gup F i.toNat z))) cells slots) : gV x D base nL pc lv (vi z :: vi i :: .ref a :: st) gh cells slots := by
  obtain ⟨p, l', e, R, s, m, args, below, meth, c, Q⟩ := x
  obtain ⟨hx, hb, hml, hown, hts, hE, hlocks, hR, hl', htr⟩ := hC
  intro H locs ls hG hS hl
  obtain ⟨hba, hat⟩ := hG a _ ha
  refine W.iast hx hb hat ((arrR D hE (kd := 1) (by decide)) n (fun j => .int (iI (F j)))) (fun q => by cases q) (by show ¬ (_ ∨ (arrV _ _ _).slots.size ≤ _); rw [arrV_size]; exact iI_in hi.1 hi.2 hn) rfl rfl hd fun H1 e z1 oq => ?_
  refine kk H1 _ ls (hG.set hba ?_ oq) (hS.put z1 oq hba) hl
  · show H1[a]? = some (vp_cell _ _)
    rw [e, vp_cell_i]
    show some (Cell.setSlot (vp_cell (D.2 1) (n, .inl (fun j => iI (F j)))) _ _) = _
    rw [vp_cell_i, arrV_store]
    show some (arrV _ _ _) = some (arrV (D.2 1) n (fun j => .int (iI (gup F i.toNat z j))))
    congr 2
    funext q
    rw [iI_clamp hi.1 (by omega)]
    by_cases hq : q = i.toNat
    · subst hq
      simp [updV, gup]
    · simp [updV, gup, hq]

theorem g_cast (hC : gK x l D base nL own cc rm) {a n : Nat} {F : Nat → Int} {i z : Int} (hd : decode cc pc = .ok (.castore, 1)) (ha : gh a = some (gI 0 n F)) (hi : 0 ≤ i ∧ i < n) (hn : n < 2147483648) (hz : 0 ≤ z ∧ z < 65536)
    (kk : gV x D base nL (pc + 1) lv st (gset gh a (gI 0 n (gup F i.toNat z))) cells slots) : gV x D base nL pc lv (vi z :: vi i :: .ref a :: st) gh cells slots := by
  obtain ⟨p, l', e, R, s, m, args, below, meth, c, Q⟩ := x
  obtain ⟨hx, hb, hml, hown, hts, hE, hlocks, hR, hl', htr⟩ := hC
  intro H locs ls hG hS hl
  obtain ⟨hba, hat⟩ := hG a _ ha
  refine W.cast hx hb hat ((arrR D hE (kd := 0) (by decide)) n (fun j => .int (iI (F j)))) (fun q => by cases q) (by show ¬ (_ ∨ (arrV _ _ _).slots.size ≤ _); rw [arrV_size]; exact iI_in hi.1 hi.2 hn) rfl rfl hd fun H1 e z1 oq => ?_
  refine kk H1 _ ls (hG.set hba ?_ oq) (hS.put z1 oq hba) hl
  · show H1[a]? = some (vp_cell _ _)
    have e9 : narrow .char (.int (iI z)) = .int (iI z) := iI_charN hz.1 hz.2
    rw [e9] at e
    rw [e, vp_cell_i]
    show some (Cell.setSlot (vp_cell (D.2 0) (n, .inl (fun j => iI (F j)))) _ _) = _
    rw [vp_cell_i, arrV_store]
    show some (arrV _ _ _) = some (arrV (D.2 0) n (fun j => .int (iI (gup F i.toNat z j))))
    congr 2
    funext q
    rw [iI_clamp hi.1 (by omega)]
    by_cases hq : q = i.toNat
    · subst hq
      simp [updV, gup]
    · simp [updV, gup, hq]

theorem g_bast (hC : gK x l D base nL own cc rm) {a n : Nat} {F : Nat → Int} {i z : Int} (hd : decode cc pc = .ok (.bastore, 1)) (ha : gh a = some (gI 2 n F)) (hi : 0 ≤ i ∧ i < n) (hn : n < 2147483648) (hz : -128 ≤ z ∧ z < 128)
    (kk : gV x D base nL (pc + 1) lv st (gset gh a (gI 2 n (gup F i.toNat z))) cells slots) : gV x D base nL pc lv (vi z :: vi i :: .ref a :: st) gh cells slots := by
  obtain ⟨p, l', e, R, s, m, args, below, meth, c, Q⟩ := x
  obtain ⟨hx, hb, hml, hown, hts, hE, hlocks, hR, hl', htr⟩ := hC
  intro H locs ls hG hS hl
  obtain ⟨hba, hat⟩ := hG a _ ha
  refine W.bast hx hb hat ((arrR D hE (kd := 2) (by decide)) n (fun j => .int (iI (F j)))) (fun q => by cases q) (by show ¬ (_ ∨ (arrV _ _ _).slots.size ≤ _); rw [arrV_size]; exact iI_in hi.1 hi.2 hn) rfl rfl hd fun H1 e z1 oq => ?_
  refine kk H1 _ ls (hG.set hba ?_ oq) (hS.put z1 oq hba) hl
  · show H1[a]? = some (vp_cell _ _)
    have e9 : narrow .byte (.int (iI z)) = .int (iI z) := by show Value.int (iI z).toInt8.toInt32 = _; rw [iI_byte hz.1 hz.2]
    rw [e9] at e
    rw [e, vp_cell_i]
    show some (Cell.setSlot (vp_cell (D.2 2) (n, .inl (fun j => iI (F j)))) _ _) = _
    rw [vp_cell_i, arrV_store]
    show some (arrV _ _ _) = some (arrV (D.2 2) n (fun j => .int (iI (gup F i.toNat z j))))
    congr 2
    funext q
    rw [iI_clamp hi.1 (by omega)]
    by_cases hq : q = i.toNat
    · subst hq
      simp [updV, gup]
    · simp [updV, gup, hq]

theorem g_last (hC : gK x l D base nL own cc rm) {a n : Nat} {F : Nat → Int64} {i : Int} {z : Int64} (hd : decode cc pc = .ok (.lastore, 1)) (ha : gh a = some (gL 3 n F)) (hi : 0 ≤ i ∧ i < n) (hn : n < 2147483648)
    (kk : gV x D base nL (pc + 1) lv st (gset gh a (gL 3 n (gup F i.toNat z))) cells slots) : gV x D base nL pc lv (.long z :: vi i :: .ref a :: st) gh cells slots := by
  obtain ⟨p, l', e, R, s, m, args, below, meth, c, Q⟩ := x
  obtain ⟨hx, hb, hml, hown, hts, hE, hlocks, hR, hl', htr⟩ := hC
  intro H locs ls hG hS hl
  obtain ⟨hba, hat⟩ := hG a _ ha
  refine W.last hx hb hat ((arrR D hE (kd := 3) (by decide)) n (fun j => .long (F j))) (fun q => by cases q) (by show ¬ (_ ∨ (arrV _ _ _).slots.size ≤ _); rw [arrV_size]; exact iI_in hi.1 hi.2 hn) rfl rfl hd fun H1 e z1 oq => ?_
  refine kk H1 _ ls (hG.set hba ?_ oq) (hS.put z1 oq hba) hl
  · show H1[a]? = some (vp_cell _ _)
    rw [e, vp_cell_l]
    show some (Cell.setSlot (vp_cell (D.2 3) (n, .inr (.inl F))) _ _) = _
    rw [vp_cell_l, arrV_store]
    show some (arrV _ _ _) = some (arrV (D.2 3) n (fun j => .long (gup F i.toNat z j)))
    congr 2
    funext q
    rw [iI_clamp hi.1 (by omega)]
    by_cases hq : q = i.toNat
    · subst hq
      simp [updV, gup]
    · simp [updV, gup, hq]
theorem g_aast (hC : gK x l D base nL own cc rm) {a n kd ci v : Nat} {F : Nat → Option Nat} {i : Int} {r : vw_C} {vs : List Value} (hd : decode cc pc = .ok (.aastore, 1)) (ha : gh a = some (gR kd n F)) (hk : kd < 10) (hC2 : gty kd = .object r.1) (hv : gh v = some (gO ci vs)) (hr : vwCl[ci]? = some r) (hi : 0 ≤ i ∧ i < n) (hn : n < 2147483648)
    (kk : gV x D base nL (pc + 1) lv st (gset gh a (gR kd n (gup F i.toNat (some v)))) cells slots) : gV x D base nL pc lv (.ref v :: vi i :: .ref a :: st) gh cells slots := by
  obtain ⟨p, l', e, R, s, m, args, below, meth, c, Q⟩ := x
  obtain ⟨hx, hb, hml, hown, hts, hE, hlocks, hR, hl', htr⟩ := hC
  intro H locs ls hG hS hl
  obtain ⟨hba, hat⟩ := hG a _ ha
  obtain ⟨-, r', hr', cellV, g1, g2', g3, -⟩ := hG v _ hv
  have hin := iI_in hi.1 hi.2 hn
  have hlt : (iI i).toNatClampNeg < n := Nat.not_le.mp fun q => hin (Or.inr q)
  have h0 : ¬ iI i < 0 := fun q => hin (Or.inl q)
  have hcls := (hE.1.1 ci r hr).2
  have hRA := (hE.1.2 kd _ (gtys_at D hk)).2
  rw [hC2] at hRA
  obtain ⟨kA, comp, k1, k2, k3, -⟩ := hRA
  have hcomp : comp = D.1.1 ci := Option.some.inj (k3.symm.trans hcls.1)
  subst hcomp
  obtain ⟨kC, hkC, -⟩ := hcls.2
  refine W.aast hx hb hat (fun q h => by cases h) (fun h => by cases h) k1 k2 rfl hkC ⟨h0, by show _ < (arrV _ _ _).slots.size; rw [arrV_size]; exact hlt⟩ g1 (fun q h => by rw [g3] at h; cases h) (by rw [g2']; exact hkC) (by rw [g2']; exact va_assign hcls) rfl rfl hd fun H1 e z1 oq => ?_
  refine kk H1 _ ls (hG.set hba ?_ oq) (hS.put z1 oq hba) hl
  show H1[a]? = some (vp_cell _ _)
  rw [e, vp_cell_q]
  show some (Cell.setSlot (vp_cell (D.2 kd) (n, .inr (.inr (.inr (.inr F))))) _ _) = _
  rw [vp_cell_q, arrV_store]
  show some (arrV _ _ _) = some (arrV (D.2 kd) n (fun j => va_rf (gup F i.toNat (some v) j)))
  congr 2
  funext q
  rw [iI_clamp hi.1 (by omega)]
  by_cases hq : q = i.toNat
  · subst hq
    simp [updV, gup, va_rf]
  · simp [updV, gup, hq]

theorem g_newI (hC : gK x l D base nL own cc rm) {n : Nat} {z : Int} (hd : decode cc pc = .ok (.newarray .int, 2)) (hw : Cond.arrayClass .int ∈ gwA) (hz : z = (n : Int)) (hn : n ≤ 100000) (hcl : cells + 1 ≤ rm.cells) (hsl : slots + n ≤ rm.slots)
    (kk : ∀ q : Nat, gh q = none → gV x D base nL (pc + 2) lv (.ref q :: st) (gset gh q (gI 1 n (fun _ => 0))) (cells + 1) (slots + n)) : gV x D base nL pc lv (vi z :: st) gh cells slots := by
  obtain ⟨p, l', e, R, s, m, args, below, meth, c, Q⟩ := x
  obtain ⟨hx, hb, hml, hown, hts, hE, hlocks, hR, hl', htr⟩ := hC
  intro H locs ls hG hS hl
  subst hz
  subst hR
  have e0 : (iI (n : Int)).toNatClampNeg = n := by rw [iI_clamp (by omega) (by omega)]; omega
  refine va_newaK hx hb (atype := .int) (hts _ hw) rfl hd rfl (fun h => by have := (iI_lt (a := (n : Int)) (b := 0) (by omega) (by decide)).mp h; omega) e0 (by show n * _ ≤ _; simp [newarray.typeOf, componentBytes]; omega) hcl hsl rfl fun H1 cA e1 z1 o1 hAr hNm => ?_
  have hcA : cA = D.2 1 := by
    have h := (hE.1.2 1 _ (gtys_at D (by decide))).2
    exact Option.some.inj (hNm.symm.trans h)
  subst hcA
  refine kk H.size (hG.fresh (Nat.le_refl _)) H1 locs ls (hG.new (Nat.le_trans hE.2.1 hS.1) ?_ o1) ⟨Nat.le_trans hS.1 (by omega), fun q h1 h2 => (o1 q (Nat.lt_of_lt_of_le h1 hS.1)).trans (hS.2.1 q h1 h2), hS.2.2⟩ hl
  exact e1

theorem g_newC (hC : gK x l D base nL own cc rm) {n : Nat} {z : Int} (hd : decode cc pc = .ok (.newarray .char, 2)) (hw : Cond.arrayClass .char ∈ gwA) (hz : z = (n : Int)) (hn : n ≤ 100000) (hcl : cells + 1 ≤ rm.cells) (hsl : slots + n ≤ rm.slots)
    (kk : ∀ q : Nat, gh q = none → gV x D base nL (pc + 2) lv (.ref q :: st) (gset gh q (gI 0 n (fun _ => 0))) (cells + 1) (slots + n)) : gV x D base nL pc lv (vi z :: st) gh cells slots := by
  obtain ⟨p, l', e, R, s, m, args, below, meth, c, Q⟩ := x
  obtain ⟨hx, hb, hml, hown, hts, hE, hlocks, hR, hl', htr⟩ := hC
  intro H locs ls hG hS hl
  subst hz
  subst hR
  have e0 : (iI (n : Int)).toNatClampNeg = n := by rw [iI_clamp (by omega) (by omega)]; omega
  refine va_newaK hx hb (atype := .char) (hts _ hw) rfl hd rfl (fun h => by have := (iI_lt (a := (n : Int)) (b := 0) (by omega) (by decide)).mp h; omega) e0 (by show n * _ ≤ _; simp [newarray.typeOf, componentBytes]; omega) hcl hsl rfl fun H1 cA e1 z1 o1 hAr hNm => ?_
  have hcA : cA = D.2 0 := by
    have h := (hE.1.2 0 _ (gtys_at D (by decide))).2
    exact Option.some.inj (hNm.symm.trans h)
  subst hcA
  refine kk H.size (hG.fresh (Nat.le_refl _)) H1 locs ls (hG.new (Nat.le_trans hE.2.1 hS.1) ?_ o1) ⟨Nat.le_trans hS.1 (by omega), fun q h1 h2 => (o1 q (Nat.lt_of_lt_of_le h1 hS.1)).trans (hS.2.1 q h1 h2), hS.2.2⟩ hl
  exact e1

theorem g_newB (hC : gK x l D base nL own cc rm) {n : Nat} {z : Int} (hd : decode cc pc = .ok (.newarray .byte, 2)) (hw : Cond.arrayClass .byte ∈ gwA) (hz : z = (n : Int)) (hn : n ≤ 100000) (hcl : cells + 1 ≤ rm.cells) (hsl : slots + n ≤ rm.slots)
    (kk : ∀ q : Nat, gh q = none → gV x D base nL (pc + 2) lv (.ref q :: st) (gset gh q (gI 2 n (fun _ => 0))) (cells + 1) (slots + n)) : gV x D base nL pc lv (vi z :: st) gh cells slots := by
  obtain ⟨p, l', e, R, s, m, args, below, meth, c, Q⟩ := x
  obtain ⟨hx, hb, hml, hown, hts, hE, hlocks, hR, hl', htr⟩ := hC
  intro H locs ls hG hS hl
  subst hz
  subst hR
  have e0 : (iI (n : Int)).toNatClampNeg = n := by rw [iI_clamp (by omega) (by omega)]; omega
  refine va_newaK hx hb (atype := .byte) (hts _ hw) rfl hd rfl (fun h => by have := (iI_lt (a := (n : Int)) (b := 0) (by omega) (by decide)).mp h; omega) e0 (by show n * _ ≤ _; simp [newarray.typeOf, componentBytes]; omega) hcl hsl rfl fun H1 cA e1 z1 o1 hAr hNm => ?_
  have hcA : cA = D.2 2 := by
    have h := (hE.1.2 2 _ (gtys_at D (by decide))).2
    exact Option.some.inj (hNm.symm.trans h)
  subst hcA
  refine kk H.size (hG.fresh (Nat.le_refl _)) H1 locs ls (hG.new (Nat.le_trans hE.2.1 hS.1) ?_ o1) ⟨Nat.le_trans hS.1 (by omega), fun q h1 h2 => (o1 q (Nat.lt_of_lt_of_le h1 hS.1)).trans (hS.2.1 q h1 h2), hS.2.2⟩ hl
  exact e1

theorem g_newL (hC : gK x l D base nL own cc rm) {n : Nat} {z : Int} (hd : decode cc pc = .ok (.newarray .long, 2)) (hw : Cond.arrayClass .long ∈ gwA) (hz : z = (n : Int)) (hn : n ≤ 100000) (hcl : cells + 1 ≤ rm.cells) (hsl : slots + n ≤ rm.slots)
    (kk : ∀ q : Nat, gh q = none → gV x D base nL (pc + 2) lv (.ref q :: st) (gset gh q (gL 3 n (fun _ => 0))) (cells + 1) (slots + n)) : gV x D base nL pc lv (vi z :: st) gh cells slots := by
  obtain ⟨p, l', e, R, s, m, args, below, meth, c, Q⟩ := x
  obtain ⟨hx, hb, hml, hown, hts, hE, hlocks, hR, hl', htr⟩ := hC
  intro H locs ls hG hS hl
  subst hz
  subst hR
  have e0 : (iI (n : Int)).toNatClampNeg = n := by rw [iI_clamp (by omega) (by omega)]; omega
  refine va_newaK hx hb (atype := .long) (hts _ hw) rfl hd rfl (fun h => by have := (iI_lt (a := (n : Int)) (b := 0) (by omega) (by decide)).mp h; omega) e0 (by show n * _ ≤ _; simp [newarray.typeOf, componentBytes]; omega) hcl hsl rfl fun H1 cA e1 z1 o1 hAr hNm => ?_
  have hcA : cA = D.2 3 := by
    have h := (hE.1.2 3 _ (gtys_at D (by decide))).2
    exact Option.some.inj (hNm.symm.trans h)
  subst hcA
  refine kk H.size (hG.fresh (Nat.le_refl _)) H1 locs ls (hG.new (Nat.le_trans hE.2.1 hS.1) ?_ o1) ⟨Nat.le_trans hS.1 (by omega), fun q h1 h2 => (o1 q (Nat.lt_of_lt_of_le h1 hS.1)).trans (hS.2.1 q h1 h2), hS.2.2⟩ hl
  exact e1
theorem g_newR (hC : gK x l D base nL own cc rm) {n kd idx : Nat} {z : Int} {C : String} (hd : decode cc pc = .ok (.anewarray idx, 3)) (hw : Cond.classLink own idx C ∈ gwA) (ho : C ∈ gAo) (hk : kd < 10) (hkC : gty kd = .object C) (hz : z = (n : Int)) (hn : n ≤ 100000) (hcl : cells + 1 ≤ rm.cells) (hsl : slots + n ≤ rm.slots)
    (kk : ∀ q : Nat, gh q = none → gV x D base nL (pc + 3) lv (.ref q :: st) (gset gh q (gR kd n (fun _ => none))) (cells + 1) (slots + n)) : gV x D base nL pc lv (vi z :: st) gh cells slots := by
  obtain ⟨p, l', e, R, s, m, args, below, meth, c, Q⟩ := x
  obtain ⟨hx, hb, hml, hown, hts, hE, hlocks, hR, hl', htr⟩ := hC
  intro H locs ls hG hS hl
  subst hz
  subst hR
  have e0 : (iI (n : Int)).toNatClampNeg = n := by rw [iI_clamp (by omega) (by omega)]; omega
  refine W.anew hx hb hown (hts _ hw) (va_AO.use (hE.2.2.2.2.2.2.2 C ho)) rfl hd rfl (fun h => by have := (iI_lt (a := (n : Int)) (b := 0) (by omega) (by decide)).mp h; omega) (by rw [e0]; omega) hcl (by rw [e0]; exact hsl) fun cA kA comp f1 f2 f3 f4 => ?_
  rw [e0]
  have hcA : cA = D.2 kd := by
    have h := (hE.1.2 kd _ (gtys_at D hk)).2
    rw [hkC] at h
    obtain ⟨_, _, _, _, _, h⟩ := h
    exact Option.some.inj (f1.symm.trans h)
  subst hcA
  generalize hH1 : H.push ({ cls := D.2 kd, slots := Array.replicate n .null, vm := .none } : Cell) = H1
  have z1 : H1.size = H.size + 1 := by rw [← hH1, Array.size_push]
  have e1 : H1[H.size]? = some (arrV (D.2 kd) n (fun _ => .null)) := by rw [← hH1, Array.getElem?_push_size, ← arrV_new]
  have o1 : ∀ q : Nat, q < H.size → H1[q]? = H[q]? := fun q hq => by rw [← hH1, Array.getElem?_push, if_neg (Nat.ne_of_lt hq)]
  refine kk H.size (hG.fresh (Nat.le_refl _)) H1 locs ls (hG.new (Nat.le_trans hE.2.1 hS.1) ?_ o1) ⟨Nat.le_trans hS.1 (by omega), fun q h1 h2 => (o1 q (Nat.lt_of_lt_of_le h1 hS.1)).trans (hS.2.1 q h1 h2), hS.2.2⟩ hl
  exact e1
/-- own's pool entry idx is the class ci; fs: what a new object of it holds -/
def gNw (own : String) (idx ci N : Nat) (fs : List Value) : Prop := ∃ (C : String) (T : u_T), vwCl[ci]? = some (C, T, N) ∧ (∀ w ∈ u_ws C T N, w ∈ gwA) ∧ Cond.classLink own idx C ∈ gwA ∧ Cond.instantiable C N ∈ gwA ∧ Cond.initialized C ∈ gwA ∧
  ∃ ty0 : Nat → FieldType, (∀ k, k < N → parseFieldDescriptor (T k).2.2.1 = some (ty0 k)) ∧ ∀ j, j < N → defaultValue (ty0 j) = vp_V fs j
theorem g_new (hC : gK x l D base nL own cc rm) {idx ci N : Nat} {fs : List Value} (hd : decode cc pc = .ok (.new idx, 3)) (hw : gNw own idx ci N fs) (hcl : cells + 1 ≤ rm.cells) (hsl : slots + N ≤ rm.slots)
    (kk : ∀ q : Nat, gh q = none → gV x D base nL (pc + 3) lv (.ref q :: st) (gset gh q (gO ci fs)) (cells + 1) (slots + N)) : gV x D base nL pc lv st gh cells slots := by
  obtain ⟨p, l', e, R, s, m, args, below, meth, c, Q⟩ := x
  obtain ⟨hx, hb, hml, hown, hts, hE, hlocks, hR, hl', htr⟩ := hC
  intro H locs ls hG hS hl
  subst hR
  obtain ⟨C, T, h1, h2, h3, h4, h5, ty0, h6, h7⟩ := hw
  have hKn := hE.1.1 ci _ h1
  refine W.newcK hx hb hown (hts _ h3) (hts _ h4) (hts _ h5) rfl hd hcl hsl hKn.2.1 rfl fun H1 kC hkC e1 z1 o1 => ?_
  refine kk H.size (hG.fresh (Nat.le_refl _)) H1 locs ls (hG.new (Nat.le_trans hE.2.1 hS.1) ?_ o1) ⟨Nat.le_trans hS.1 (by omega), fun q h1 h2 => (o1 q (Nat.lt_of_lt_of_le h1 hS.1)).trans (hS.2.1 q h1 h2), hS.2.2⟩ hl
  exact ⟨_, h1, (u_born ty0 hts h2 hKn hkC e1 h6).to h7⟩
theorem g_objInit (hC : gK x l D base nL own cc rm) {idx a : Nat} (hd : decode cc pc = .ok (.invokespecial idx, 3)) (hw : Cond.methodLink own idx objectInit ∈ gwA) (hi : Cond.instanceMethod objectInit ∈ gwA) (hc : Cond.code objectInit ⟨#[0xb1]⟩ 1 none ∈ gwA) (h1 : 1 ≤ rm.frames) (h2 : (st.map fun v => v.category).sum + 12 ≤ rm.locals)
    (kk : gV x D base nL (pc + 3) lv st gh cells slots) : gV x D base nL pc lv (.ref a :: st) gh cells slots := by
  obtain ⟨p, l', e, R, s, m, args, below, meth, c, Q⟩ := x
  obtain ⟨hx, hb, hml, hown, hts, hE, hlocks, hR, hl', htr⟩ := hC
  intro H locs ls hG hS hl
  subst hR
  exact W.objInit hx hb hown (hts _ hw) (hts _ hi) (hts _ hc) rfl (by rw [hml]; exact hl.1) rfl hd h1 (by show 2 * 0 + _ + 12 ≤ _; omega) (kk H locs ls hG hS hl)
end GR
end
section
/-! ends, throws, calls -/
section GD
variable {x : gX} {l : Launch} {D : gD} {base nL : Nat} {own : String} {cc : ByteArray} {rm : Room} {pc : Nat} {lv : List (Option Value)} {st : List Value} {gh : gH} {cells slots : Nat}
variable {post : Option Value → gH → Prop} {postX : String → gH → Prop} {mc ms : Nat} {nm : String}
theorem g_iret (hC : gK x l D base nL own cc rm) (hq : gEnd x D base post postX mc ms (some .int) nm) {v : Int32} (hd : decode cc pc = .ok (.ireturn, 1)) (h1 : cells ≤ mc) (h2 : slots ≤ ms) (hp : post (some (.int v)) gh) : gV x D base nL pc lv [.int v] gh cells slots := by
  obtain ⟨p, l', e, R, s, m, args, below, meth, c, Q⟩ := x
  obtain ⟨hx, hb, hml, hown, hts, hE, hlocks, hR, hl', htr⟩ := hC
  subst hl'
  obtain ⟨rfl, hr, -⟩ := hq
  intro H locs ls hG hS hl
  refine W.widen h1 h2 ?_
  exact vx_ret (W.iret hx hb hr (fun t ht hW => ⟨⟨_, gh, rfl, hp, by rw [ht]; exact hG⟩, hS.F ht⟩) hS.2.2 hd hlocks)
theorem g_zret (hC : gK x l D base nL own cc rm) {ty : FieldType} (hq : gEnd x D base post postX mc ms (some ty) nm) {v : Int32} (hn : narrow ty (.int v) = .int v) (hd : decode cc pc = .ok (.ireturn, 1)) (h1 : cells ≤ mc) (h2 : slots ≤ ms) (hp : post (some (.int v)) gh) : gV x D base nL pc lv [.int v] gh cells slots := by
  obtain ⟨p, l', e, R, s, m, args, below, meth, c, Q⟩ := x
  obtain ⟨hx, hb, hml, hown, hts, hE, hlocks, hR, hl', htr⟩ := hC
  subst hl'
  obtain ⟨rfl, hr, -⟩ := hq
  intro H locs ls hG hS hl
  refine W.widen h1 h2 ?_
  exact vx_ret (W.zret hx hb hr hn (fun t ht hW => ⟨⟨_, gh, rfl, hp, by rw [ht]; exact hG⟩, hS.F ht⟩) hS.2.2 hd hlocks)
theorem b2i_nar (b : Bool) : narrow .boolean (.int (iI (b2i b))) = .int (iI (b2i b)) := by cases b <;> rfl
theorem g_bret (hC : gK x l D base nL own cc rm) (hq : gEnd x D base post postX mc ms (some .boolean) nm) {b : Bool} (hd : decode cc pc = .ok (.ireturn, 1)) (h1 : cells ≤ mc) (h2 : slots ≤ ms) (hp : post (some (vi (b2i b))) gh) : gV x D base nL pc lv [vi (b2i b)] gh cells slots := g_zret hC hq (b2i_nar b) hd h1 h2 hp
theorem g_cret (hC : gK x l D base nL own cc rm) (hq : gEnd x D base post postX mc ms (some .char) nm) {z : Int} (hz : 0 ≤ z ∧ z < 65536) (hd : decode cc pc = .ok (.ireturn, 1)) (h1 : cells ≤ mc) (h2 : slots ≤ ms) (hp : post (some (vi z)) gh) : gV x D base nL pc lv [vi z] gh cells slots := g_zret hC hq (iI_charN hz.1 hz.2) hd h1 h2 hp
theorem g_vret (hC : gK x l D base nL own cc rm) (hq : gEnd x D base post postX mc ms none nm) (hd : decode cc pc = .ok (.return_, 1)) (h1 : cells ≤ mc) (h2 : slots ≤ ms) (hp : post none gh) : gV x D base nL pc lv [] gh cells slots := by
  obtain ⟨p, l', e, R, s, m, args, below, meth, c, Q⟩ := x
  obtain ⟨hx, hb, hml, hown, hts, hE, hlocks, hR, hl', htr⟩ := hC
  subst hl'
  obtain ⟨rfl, hr, -⟩ := hq
  intro H locs ls hG hS hl
  refine W.widen h1 h2 ?_
  exact vx_ret (W.vret hx hb hr (fun t ht hW => ⟨⟨_, gh, rfl, hp, by rw [ht]; exact hG⟩, hS.F ht⟩) hS.2.2 hd hlocks)
theorem g_aret (hC : gK x l D base nL own cc rm) {ty : FieldType} (hq : gEnd x D base post postX mc ms (some ty) nm) (hty : (∃ n, ty = .object n) ∨ ∃ t, ty = .array t) {v : Option Nat} (hd : decode cc pc = .ok (.areturn, 1)) (h1 : cells ≤ mc) (h2 : slots ≤ ms) (hp : post (some (va_rf v)) gh) : gV x D base nL pc lv [va_rf v] gh cells slots := by
  obtain ⟨p, l', e, R, s, m, args, below, meth, c, Q⟩ := x
  obtain ⟨hx, hb, hml, hown, hts, hE, hlocks, hR, hl', htr⟩ := hC
  subst hl'
  obtain ⟨rfl, hr, -⟩ := hq
  intro H locs ls hG hS hl
  refine W.widen h1 h2 ?_
  exact vx_ret (W.aret hx hb hr hty (by cases v with | none => exact Or.inl rfl | some a => exact Or.inr ⟨a, rfl⟩) (fun t ht hW => ⟨⟨_, gh, rfl, hp, by rw [ht]; exact hG⟩, hS.F ht⟩) hS.2.2 hd hlocks)
/-- not caught here: it goes on to the caller -/
theorem g_out (hC : gK x l D base nL own cc rm) {ret : Option FieldType} (hq : gEnd x D base post postX mc ms ret nm) {E : String} (h1 : cells ≤ mc) (h2 : slots ≤ ms) (hp : postX E gh) : gVX x D base nL pc lv st E gh cells slots := by
  obtain ⟨p, l', e, R, s, m, args, below, meth, c, Q⟩ := x
  obtain ⟨hx, hb, hml, hown, hts, hE, hlocks, hR, hl', htr⟩ := hC
  subst hl'
  obtain ⟨rfl, hr, -, ht⟩ := hq
  intro H locs ls ce q hG hS hl hce hcv hcl
  exact vx_out (fun z hz => (ht z hz).elim) hlocks hce hcv hcl (fun t ht hW => ⟨⟨gh, hp, by rw [ht]; exact hG⟩, hS.F ht⟩) hS.2.2 h1 h2
/-- a throw of the class's own: 'throw new E("text")' -/
def gTh (own : String) (ik is ic : Nat) (cls text : String) : Prop := Bundle.fit cls = true ∧ Cond.classLink own ik cls ∈ gwA ∧ Cond.initialized cls ∈ gwA ∧ (own, is, text) ∈ gStr ∧ (∀ w ∈ vx_atS own ic cls ["java/lang/RuntimeException", "java/lang/Exception"], w ∈ lw_tbl ∧ (goodWord w = true ∨ gBk w = true)) ∧ ∀ w ∈ Cond.classLink own ik cls :: Cond.initialized cls :: vx_atS own ic cls ["java/lang/RuntimeException", "java/lang/Exception"], vx_ot w = true
theorem gTh.of {own : String} {ik is ic : Nat} {cls text : String} (h1 : Bundle.fit cls = true) (h2 : Cond.classLink own ik cls ∈ gwA) (h3 : Cond.initialized cls ∈ gwA) (h4 : (own, is, text) ∈ gStr)
    (h5 : (vx_atS own ic cls ["java/lang/RuntimeException", "java/lang/Exception"]).all (fun w => decide (w ∈ lw_tbl) && (goodWord w || gBk w)) = true) (h6 : (Cond.classLink own ik cls :: Cond.initialized cls :: vx_atS own ic cls ["java/lang/RuntimeException", "java/lang/Exception"]).all vx_ot = true) : gTh own ik is ic cls text :=
  ⟨h1, h2, h3, h4, fun w hw => by have := List.all_eq_true.mp h5 w hw; simp only [Bool.and_eq_true, decide_eq_true_eq, Bool.or_eq_true] at this; exact this, fun w hw => List.all_eq_true.mp h6 w hw⟩
theorem gE.word {s : State} {args : Array Value} (hE : gE D base s) (hts : ∀ w ∈ gwA, w.before args s = true) {w : Cond} (h : w ∈ lw_tbl) (hg : goodWord w = true ∨ gBk w = true) : w.before args s = true := by
  rcases hg with hg | hg
  · exact hts w (gwA_mem h hg)
  · exact va_Nw.use (gBk_tab hg) (hE.2.2.2.2.2.1 w h hg)
theorem g_throw (hC : gK x l D base nL own cc rm) {ret : Option FieldType} (hq : gEnd x D base post postX mc ms ret nm) {ik is ic : Nat} {cls text : String} (hw : gTh own ik is ic cls text)
    (d0 : decode cc pc = .ok (.new ik, 3)) (d3 : decode cc (pc + 3) = .ok (.dup, 1)) (d4 : decode cc (pc + 4) = .ok (.ldc is, 2)) (d6 : decode cc (pc + 6) = .ok (.invokespecial ic, 3)) (d9 : decode cc (pc + 9) = .ok (.athrow, 1))
    (hf : 5 < rm.frames) (hlo : (st.map fun v => v.category).sum + 82 ≤ rm.locals) (hc1 : cells + 1 ≤ rm.cells) (hs1 : slots + 6 ≤ rm.slots) (h1 : cells + 1 ≤ mc) (h2 : slots + 6 ≤ ms) (hp : postX cls gh) : gV x D base nL pc lv st gh cells slots := by
  obtain ⟨p, l', e, R, s, m, args, below, meth, c, Q⟩ := x
  obtain ⟨hx, hb, hml, hown, hts, hE, hlocks, hR, hl', htr⟩ := hC
  subst hl'
  subst hR
  obtain ⟨rfl, hr, -, ht⟩ := hq
  obtain ⟨w1, w2, w3, w4, w5, w6⟩ := hw
  obtain ⟨sa, hstr⟩ := hE.2.2.1 _ w4
  intro H locs ls hG hS hl
  refine vx_throwS (A := fun q => base ≤ q) (names := ["java/lang/RuntimeException", "java/lang/Exception"]) hx hb htr hown w1 (by decide) (hts _ w2) (hts _ w3) hstr (fun w hw => hE.word hts (w5 w hw).1 (w5 w hw).2) w6 hE.2.2.2.1 hE.2.2.2.2.1 hS (hl.1.trans hml.symm) d0 d3 d4 d6 d9 (fun z hz => (ht z hz).elim) hf (by simpa using hlo) hc1 hs1 hlocks ?_ hS.2.2 h1 h2
  intro t hvm hz hk
  exact ⟨⟨gh, hp, hG.kept hk⟩, Nat.le_trans hS.1 hz, fun q h3 h4 => (hk q (Nat.lt_of_lt_of_le h3 hS.1)).trans (hS.2.1 q h3 h4)⟩
/-- the words of a call site -/
def gCw (own : String) (idx : Nat) (y : MethodName) (c' : ByteArray) (nL' : Nat) (ret : Option FieldType) (n : Nat) : Prop := Cond.code y c' nL' ret ∈ gwA ∧ Cond.methodLink own idx y ∈ gwA ∧ Cond.initialized y.cls ∈ gwA ∧ (y.cls ≠ "java/lang/invoke/MethodHandle" ∧ y.cls ≠ "java/lang/invoke/VarHandle" ∧ (parseMethodDescriptor y.desc).map (fun d => d.parameters.length) = some n)
def gCv (own : String) (idx : Nat) (y : MethodName) (c' : ByteArray) (nL' : Nat) (ret : Option FieldType) (n : Nat) : Prop := gCw own idx y c' nL' ret n ∧ Cond.instanceMethod y ∈ gwA ∧ Cond.selects y.cls y y ∈ gwA
def gCs (own : String) (idx : Nat) (y : MethodName) (c' : ByteArray) (nL' : Nat) (ret : Option FieldType) (n : Nat) : Prop := gCw own idx y c' nL' ret n ∧ Cond.static y ∈ gwA
def gCi (own : String) (idx : Nat) (y : MethodName) (c' : ByteArray) (nL' : Nat) (n : Nat) : Prop := gCw own idx y c' nL' none n ∧ Cond.instanceMethod y ∈ gwA ∧ y.name = "<init>"
/-- a nest mate's private static method -/
def gCn (own host : String) (idx : Nat) (y : MethodName) (c' : ByteArray) (nL' : Nat) (ret : Option FieldType) (n : Nat) : Prop := Cond.code y c' nL' ret ∈ gwA ∧ Cond.methodLinkNest own idx y host ∈ lw_tbl ∧ Cond.initialized y.cls ∈ gwA ∧ (y.cls ≠ "java/lang/invoke/MethodHandle" ∧ y.cls ≠ "java/lang/invoke/VarHandle" ∧ (parseMethodDescriptor y.desc).map (fun d => d.parameters.length) = some n) ∧ Cond.static y ∈ gwA
theorem gM.met {y : MethodName} {c' : ByteArray} {nL' f loc mc' ms' : Nat} {ret : Option FieldType} {As : List Value} {post' : Option Value → gH → Prop} (h : gM l D base y c' nL' ret f loc mc' ms' As gh post' gNo) :
    Met l y (.code y c' nL' ret :: gwA) ({ frames := f, cells := mc', slots := ms', locals := loc } : Room) (gP D base As gh) (gQ D base post') mc' ms' (fun q => base ≤ q) := by
  intro p e ha hc hk s m args below hf hap hP hK
  obtain ⟨n, o, h1, h2, h3, h4⟩ := h p e ha hc hk s m args below hf hap hP hK
  refine ⟨n, o, h1, h2, h3, ?_⟩
  rcases h4 with h4 | ⟨q, -, E, ce, L, ⟨⟨gh', h5, -⟩, -⟩, -⟩
  · exact h4
  · exact h5.elim
theorem gC_B {s : State} {args : Array Value} {R : Room} {idx nL' n f loc mc' ms' : Nat} {y : MethodName} {c' : ByteArray} {ret : Option FieldType} (hts : ∀ w ∈ gwA, w.before args s = true) (hw : gCw own idx y c' nL' ret n) (hR : f + 1 ≤ R.frames ∧ 8 + (nL' + 11) + loc ≤ R.locals) :
    CallB R s args own idx y c' nL' ret (.code y c' nL' ret :: gwA) ({ frames := f, cells := mc', slots := ms', locals := loc } : Room) mc' ms' n := by
  obtain ⟨h1, h2, h3, h4⟩ := hw
  exact callB_of n (Ts := gwA) hts (gwA_good (fun w h => h) _ h1) rfl rfl rfl (hts _ h3) (hts _ h2) h4 hR
theorem g_run {p : Program} {e : Env} {R : Room} {s : State} {m : MethodId} {args : Array Value} {below : List Frame} {meth : Method} {c : Code} {Q : State → Prop} {H : Heap} {locs : List Loc} {ls : Array Slot} {mc' ms' : Nat} {post' : Option Value → gH → Prop} {st0 rest : List Value} {a : Array Value}
    (hr : va_Run p l e R s m args below meth c H locs cells slots mc' ms' (F0 m pc ls st0) rest (gQ D base post' a) (fun q => base ≤ q)) (hS : va_S (fun q => base ≤ q) s.heap H locs) (hl : gLv ls nL lv)
    (kk : ∀ (r : Option Value) (gh' : gH), post' r gh' → gV (p, l, e, R, s, m, args, below, meth, c, Q) D base nL (pc + 3) lv (r.toList ++ rest) gh' (cells + mc') (slots + ms')) : W p l e R s m args below meth c H locs cells slots Q (F0 m pc ls st0) := by
  intro T hT X
  obtain ⟨v, st₀, t, T', L, h0, X', hL, e1, e2, ⟨⟨r, gh', hv, hp, hg⟩, hz, hk⟩, st⟩ := hr T hT X
  cases hv
  rw [h0] at hz hk
  obtain ⟨t2, a1, b1⟩ := kk _ gh' hp T'.heap (locs ++ L) ls (by rw [e1]; exact hg) ⟨Nat.le_trans hS.1 (by rw [e1]; exact hz), fun q h1 h2 => by rw [e1, hk q (Nat.lt_of_lt_of_le h1 hS.1) h2]; exact hS.2.1 q h1 h2, fun q hq => by
      rcases List.mem_append.mp hq with h | h
      · exact hS.2.2 q h
      · exact hL q h⟩ hl T' rfl X'
  exact ⟨t2, st t2 a1, b1⟩
theorem g_runX {p : Program} {e : Env} {R : Room} {s : State} {m : MethodId} {args : Array Value} {below : List Frame} {meth : Method} {c : Code} {Q : State → Prop} {H : Heap} {locs : List Loc} {ls : Array Slot} {mc' ms' : Nat} {post' : Option Value → gH → Prop} {postX' : String → gH → Prop} {st0 rest : List Value} {a : Array Value}
    (hr : vx_Run p l e R s m args below meth c H locs cells slots mc' ms' (F0 m pc ls st0) rest (gQ D base post' a) (gXC D base postX') (fun q => base ≤ q)) (hS : va_S (fun q => base ≤ q) s.heap H locs) (hl : gLv ls nL lv)
    (kx : ∀ (E : String) (gh' : gH), postX' E gh' → gVX (p, l, e, R, s, m, args, below, meth, c, Q) D base nL pc lv rest E gh' (cells + mc') (slots + ms'))
    (kk : ∀ (r : Option Value) (gh' : gH), post' r gh' → gV (p, l, e, R, s, m, args, below, meth, c, Q) D base nL (pc + 3) lv (r.toList ++ rest) gh' (cells + mc') (slots + ms')) : W p l e R s m args below meth c H locs cells slots Q (F0 m pc ls st0) := by
  intro T hT X
  rcases hr T hT X with ⟨v, st₀, t, T', L, h0, X', hL, e1, e2, ⟨⟨r, gh', hv, hp, hg⟩, hF⟩, st⟩ | ⟨q, st₀, t, T', L, E, ce, h0, X', hL, e1, e2, ⟨⟨gh', hp, hg⟩, hF⟩, hce, hcv, hcl, st⟩
  · cases hv
    obtain ⟨k1, k2, k3⟩ := vx_keep h0 e1 hS (fun q _ h => h) (fun q h => h) hL hF
    obtain ⟨t2, a1, b1⟩ := kk _ gh' hp T'.heap (locs ++ L) ls (by rw [e1]; exact hg) k3 hl T' rfl X'
    exact ⟨t2, st t2 a1, b1⟩
  · obtain ⟨k1, k2, k3⟩ := vx_keep h0 e1 hS (fun q _ h => h) (fun q h => h) hL hF
    obtain ⟨t2, a1, b1⟩ := kx E gh' hp T'.heap (locs ++ L) ls ce q (by rw [e1]; exact hg) k3 hl (by rw [e1]; exact hce) hcv hcl T' rfl X'
    exact ⟨t2, st.trans a1, b1⟩
theorem gG.recv {s : State} {H : Heap} (hE : gE D base s) (hG : gG D base gh H) {b ci : Nat} {fs : List Value} {q : vw_C} (hb : gh b = some (gO ci fs)) (hc : vwCl[ci]? = some q) : ∃ cell : Cell, H[b]? = some cell ∧ cell.vm.isStatics = false ∧ s.vm.findClass q.1 = some cell.cls := va_recv hE.1 (hG.one hb) (q0 := 0) hc rfl
section
variable {idx nL' n f loc mc' ms' : Nat} {y : MethodName} {c' : ByteArray} {ret : Option FieldType} {post' : Option Value → gH → Prop} {postX' : String → gH → Prop} {As rest : List Value}
theorem g_callV (hC : gK x l D base nL own cc rm) {b ci : Nat} {fs : List Value} {T : u_T} {N : Nat} (hM : gM l D base y c' nL' ret f loc mc' ms' (.ref b :: As) gh post' gNo) (hw : gCv own idx y c' nL' ret n) (hn : As.length = n) (hb' : gh b = some (gO ci fs)) (hc' : vwCl[ci]? = some (y.cls, T, N))
    (hR' : f + 1 ≤ rm.frames ∧ 8 + (nL' + 11) + loc ≤ rm.locals) (hf : cells + mc' ≤ rm.cells ∧ slots + ms' ≤ rm.slots) (hrest : (rest.map fun v => v.category).sum ≤ 8) (hs : st = As.reverse ++ .ref b :: rest) (hd : decode cc pc = .ok (.invokevirtual idx, 3))
    (kk : ∀ (r : Option Value) (gh' : gH), post' r gh' → gV x D base nL (pc + 3) lv (r.toList ++ rest) gh' (cells + mc') (slots + ms')) : gV x D base nL pc lv st gh cells slots := by
  obtain ⟨p, l', e, R, s, m, args, below, meth, c, Q⟩ := x
  obtain ⟨hx, hb, hml, hown, hts, hE, hlocks, hR, hl', htr⟩ := hC
  subst hl'
  subst hR; subst hs
  intro H locs ls hG hS hl
  exact g_run (va_runV (Ts := gwA) (b := b) (As := As) (rest := rest) ⟨hx, hb, hml, hown, hts⟩ hM.met ⟨gC_B hts hw.1 hR', hts _ hw.2.1, hts _ hw.2.2⟩ ⟨gP.blind, hG.recv hE hb' hc', fun U hU hW => ⟨rfl, by rw [hU]; exact hG, hE.callee hS hU hW⟩⟩ rfl hn hl.1 rfl (lv_room hrest) hd hf) hS hl kk
theorem g_callVX (hC : gK x l D base nL own cc rm) {b ci : Nat} {fs : List Value} {T : u_T} {N : Nat} (hM : gM l D base y c' nL' ret f loc mc' ms' (.ref b :: As) gh post' postX') (hw : gCv own idx y c' nL' ret n) (hn : As.length = n) (hb' : gh b = some (gO ci fs)) (hc' : vwCl[ci]? = some (y.cls, T, N))
    (hR' : f + 1 ≤ rm.frames ∧ 8 + (nL' + 11) + loc ≤ rm.locals) (hf : cells + mc' ≤ rm.cells ∧ slots + ms' ≤ rm.slots) (hrest : (rest.map fun v => v.category).sum ≤ 8) (hs : st = As.reverse ++ .ref b :: rest) (hd : decode cc pc = .ok (.invokevirtual idx, 3))
    (kx : ∀ (E : String) (gh' : gH), postX' E gh' → gVX x D base nL pc lv rest E gh' (cells + mc') (slots + ms'))
    (kk : ∀ (r : Option Value) (gh' : gH), post' r gh' → gV x D base nL (pc + 3) lv (r.toList ++ rest) gh' (cells + mc') (slots + ms')) : gV x D base nL pc lv st gh cells slots := by
  obtain ⟨p, l', e, R, s, m, args, below, meth, c, Q⟩ := x
  obtain ⟨hx, hb, hml, hown, hts, hE, hlocks, hR, hl', htr⟩ := hC
  subst hl'
  subst hR; subst hs
  intro H locs ls hG hS hl
  exact g_runX (vx_runV (Ts := gwA) (b := b) (As := As) (rest := rest) ⟨hx, hb, hml, hown, hts⟩ hM ⟨gC_B hts hw.1 hR', hts _ hw.2.1, hts _ hw.2.2⟩ ⟨gP.blind, hG.recv hE hb' hc', fun U hU hW => ⟨rfl, by rw [hU]; exact hG, hE.callee hS hU hW⟩⟩ rfl hn hl.1 rfl (lv_room hrest) hd hf) hS hl kx kk
theorem g_callS (hC : gK x l D base nL own cc rm) (hM : gM l D base y c' nL' ret f loc mc' ms' As gh post' gNo) (hw : gCs own idx y c' nL' ret n) (hn : As.length = n)
    (hR' : f + 1 ≤ rm.frames ∧ 8 + (nL' + 11) + loc ≤ rm.locals) (hf : cells + mc' ≤ rm.cells ∧ slots + ms' ≤ rm.slots) (hrest : (rest.map fun v => v.category).sum ≤ 8) (hs : st = As.reverse ++ rest) (hd : decode cc pc = .ok (.invokestatic idx, 3))
    (kk : ∀ (r : Option Value) (gh' : gH), post' r gh' → gV x D base nL (pc + 3) lv (r.toList ++ rest) gh' (cells + mc') (slots + ms')) : gV x D base nL pc lv st gh cells slots := by
  obtain ⟨p, l', e, R, s, m, args, below, meth, c, Q⟩ := x
  obtain ⟨hx, hb, hml, hown, hts, hE, hlocks, hR, hl', htr⟩ := hC
  subst hl'
  subst hR; subst hs
  intro H locs ls hG hS hl
  exact g_run (va_runS (Ts := gwA) (As := As) (rest := rest) ⟨hx, hb, hml, hown, hts⟩ hM.met ⟨gC_B hts hw.1 hR', hts _ hw.2⟩ ⟨gP.blind, fun U hU hW => ⟨rfl, by rw [hU]; exact hG, hE.callee hS hU hW⟩⟩ rfl hn hl.1 rfl (lv_room hrest) hd hf) hS hl kk
theorem g_callSN (hC : gK x l D base nL own cc rm) {host : String} (hM : gM l D base y c' nL' ret f loc mc' ms' As gh post' gNo) (hw : gCn own host idx y c' nL' ret n) (hn : As.length = n)
    (hR' : f + 1 ≤ rm.frames ∧ 8 + (nL' + 11) + loc ≤ rm.locals) (hf : cells + mc' ≤ rm.cells ∧ slots + ms' ≤ rm.slots) (hrest : (rest.map fun v => v.category).sum ≤ 8) (hs : st = As.reverse ++ rest) (hd : decode cc pc = .ok (.invokestatic idx, 3))
    (kk : ∀ (r : Option Value) (gh' : gH), post' r gh' → gV x D base nL (pc + 3) lv (r.toList ++ rest) gh' (cells + mc') (slots + ms')) : gV x D base nL pc lv st gh cells slots := by
  obtain ⟨p, l', e, R, s, m, args, below, meth, c, Q⟩ := x
  obtain ⟨hx, hb, hml, hown, hts, hE, hlocks, hR, hl', htr⟩ := hC
  subst hl'
  subst hR; subst hs
  intro H locs ls hG hS hl
  obtain ⟨w1, w2, w3, w4, w5⟩ := hw
  exact g_run (va_runSN (Ts := gwA) (As := As) (rest := rest) ⟨hx, hb, hml, hown, hts⟩ hM.met ⟨va_cnB n (Ts := gwA) hts (gwA_good (fun w h => h) _ w1) rfl rfl rfl (hE.2.2.2.2.2.1 _ w2 rfl) (hts _ w3) w4 hR', hts _ w5, trivial⟩ ⟨gP.blind, fun U hU hW => ⟨rfl, by rw [hU]; exact hG, hE.callee hS hU hW⟩⟩ rfl hn hl.1 rfl (lv_room hrest) hd hf) hS hl kk
theorem g_callI (hC : gK x l D base nL own cc rm) {b : Nat} (hM : gM l D base y c' nL' none f loc mc' ms' (.ref b :: As) gh post' gNo) (hw : gCi own idx y c' nL' n) (hn : As.length = n)
    (hR' : f + 1 ≤ rm.frames ∧ 8 + (nL' + 11) + loc ≤ rm.locals) (hf : cells + mc' ≤ rm.cells ∧ slots + ms' ≤ rm.slots) (hrest : (rest.map fun v => v.category).sum ≤ 8) (hs : st = As.reverse ++ .ref b :: rest) (hd : decode cc pc = .ok (.invokespecial idx, 3))
    (kk : ∀ (r : Option Value) (gh' : gH), post' r gh' → gV x D base nL (pc + 3) lv (r.toList ++ rest) gh' (cells + mc') (slots + ms')) : gV x D base nL pc lv st gh cells slots := by
  obtain ⟨p, l', e, R, s, m, args, below, meth, c, Q⟩ := x
  obtain ⟨hx, hb, hml, hown, hts, hE, hlocks, hR, hl', htr⟩ := hC
  subst hl'
  subst hR; subst hs
  intro H locs ls hG hS hl
  exact g_run (va_runI (Ts := gwA) (b := b) (As := As) (rest := rest) ⟨hx, hb, hml, hown, hts⟩ hM.met ⟨gC_B hts hw.1 hR', hw.2.2, hts _ hw.2.1⟩ ⟨gP.blind, fun U hU hW => ⟨rfl, by rw [hU]; exact hG, hE.callee hS hU hW⟩⟩ rfl hn hl.1 rfl (lv_room hrest) hd hf) hS hl kk
end
theorem g_max (hC : gK x l D base nL own cc rm) {idx : Nat} {a b : Int} (w1 : Cond.methodLink own idx Lib.Math.max.name ∈ gwA) (w2 : Cond.static Lib.Math.max.name ∈ gwA) (w3 : Cond.initialized "java/lang/Math" ∈ gwA) (w4 : Cond.code Lib.Math.max.name Lib.Math.max.code 2 (some .int) ∈ gwA) (hf : 1 ≤ rm.frames) (hlo : (st.map fun v => v.category).sum + 13 ≤ rm.locals) (hc1 : cells ≤ rm.cells) (hs1 : slots ≤ rm.slots)
    (ha : -2147483648 ≤ a ∧ a < 2147483648) (hb' : -2147483648 ≤ b ∧ b < 2147483648) (hd : decode cc pc = .ok (.invokestatic idx, 3)) (kk : gV x D base nL (pc + 3) lv (vi (max a b) :: st) gh cells slots) : gV x D base nL pc lv (vi b :: vi a :: st) gh cells slots := by
  obtain ⟨p, l', e, R, s, m, args, below, meth, c, Q⟩ := x
  obtain ⟨hx, hb, hml, hown, hts, hE, hlocks, hR, hl', htr⟩ := hC
  subst hl'
  subst hR
  intro H locs ls hG hS hl
  refine va_mmax hx hb (hml.trans hl.1.symm) hown (hts _ w1) (hts _ w2) (hts _ w3) (hts _ w4) hf hlo hc1 hs1 hd ?_
  have e0 : (if iI a < iI b then iI b else iI a) = iI (max a b) := by
    by_cases h : a < b
    · rw [if_pos ((iI_lt ha hb').mpr h), Int.max_eq_right (by omega)]
    · rw [if_neg (fun z => h ((iI_lt ha hb').mp z)), Int.max_eq_left (by omega)]
  rw [e0]
  exact kk H locs ls hG hS hl
theorem g_getN (hC : gK x l D base nL own cc rm) {host C : String} {T : u_T} {N idx ci k a : Nat} {fs : List Value} {v : Value} (hd : decode cc pc = .ok (.getfield idx, 3)) (h1 : vwCl[ci]? = some (C, T, N)) (h2 : ∀ w ∈ u_ws C T N, w ∈ gwA) (h3 : k < N) (h4 : Cond.fieldLinkNest own idx (T k).1 (T k).2.1 (T k).2.2.1 host ∈ lw_tbl) (ha : gh a = some (gO ci fs)) (hv : fs[k]? = some v)
    (kk : gV x D base nL (pc + 3) lv (v :: st) gh cells slots) : gV x D base nL pc lv (.ref a :: st) gh cells slots := by
  obtain ⟨p, l', e, R, s, m, args, below, meth, c, Q⟩ := x
  obtain ⟨hx, hb, hml, hown, hts, hE, hlocks, hR, hl', htr⟩ := hC
  subst hl'
  intro H locs ls hG hS hl
  exact va_getN hx hb hts h2 hown hE.1 (hG.one ha) 0 rfl h1 k h3 (va_Nw.use rfl (hE.2.2.2.2.2.1 _ h4 rfl)) (fun _ h => h) hv hd (kk H locs ls hG hS hl)
end GD
end
section
/-! words of the tables, field, call, new and throw sites (by wip/whole/gen/words.py) -/
theorem gwA_all {ws : List Cond} (h : ws.all (fun w => decide (w ∈ lw_tbl) && goodWord w) = true) : ∀ w ∈ ws, w ∈ gwA := fun w hw => by
  have := List.all_eq_true.mp h w hw
  simp only [Bool.and_eq_true, decide_eq_true_eq] at this
  exact gwA_mem this.1 this.2
theorem gw_1 : Jvm.Cond.initialized "GraticulePress" ∈ gwA := gwA_at 1 (by decide +kernel) rfl
theorem gw_2 : Jvm.Cond.initialized "java/lang/AbstractStringBuilder" ∈ gwA := gwA_at 2 (by decide +kernel) rfl
theorem gw_3 : Jvm.Cond.initialized "java/lang/StringBuilder" ∈ gwA := gwA_at 3 (by decide +kernel) rfl
theorem gw_4 : Jvm.Cond.initialized "java/lang/String" ∈ gwA := gwA_at 4 (by decide +kernel) rfl
theorem gw_5 : Jvm.Cond.initialized "java/lang/StringUTF16" ∈ gwA := gwA_at 5 (by decide +kernel) rfl
theorem gw_6 : Jvm.Cond.initialized "GraticulePressModel" ∈ gwA := gwA_at 6 (by decide +kernel) rfl
theorem gw_10 : Jvm.Cond.initialized "java/lang/IllegalArgumentException" ∈ gwA := gwA_at 10 (by decide +kernel) rfl
theorem gw_11 : Jvm.Cond.initialized "java/lang/IllegalStateException" ∈ gwA := gwA_at 11 (by decide +kernel) rfl
theorem gw_12 : Jvm.Cond.initialized "jdk/internal/util/ArraysSupport" ∈ gwA := gwA_at 12 (by decide +kernel) rfl
theorem gw_13 : Jvm.Cond.initialized "java/lang/Math" ∈ gwA := gwA_at 13 (by decide +kernel) rfl
theorem gw_14 : Jvm.Cond.initialized "java/util/Arrays" ∈ gwA := gwA_at 14 (by decide +kernel) rfl
theorem gw_16 : Jvm.Cond.initialized "java/lang/StringLatin1" ∈ gwA := gwA_at 16 (by decide +kernel) rfl
theorem gw_17 : Jvm.Cond.initialized "jdk/internal/util/Preconditions" ∈ gwA := gwA_at 17 (by decide +kernel) rfl
theorem gw_18 : Jvm.Cond.initialized "GraticulePress$Place" ∈ gwA := gwA_at 18 (by decide +kernel) rfl
theorem gw_19 : Jvm.Cond.initialized "GraticulePress$Spot" ∈ gwA := gwA_at 19 (by decide +kernel) rfl
theorem gw_20 : Jvm.Cond.initialized "java/lang/IndexOutOfBoundsException" ∈ gwA := gwA_at 20 (by decide +kernel) rfl
theorem gw_21 : Jvm.Cond.initialized "GraticulePress$Spelling" ∈ gwA := gwA_at 21 (by decide +kernel) rfl
theorem gw_22 : Jvm.Cond.initialized "java/lang/Integer" ∈ gwA := gwA_at 22 (by decide +kernel) rfl
theorem gw_23 : Jvm.Cond.initialized "java/lang/StringIndexOutOfBoundsException" ∈ gwA := gwA_at 23 (by decide +kernel) rfl
theorem gw_24 : Jvm.Cond.initialized "java/lang/ArrayIndexOutOfBoundsException" ∈ gwA := gwA_at 24 (by decide +kernel) rfl
theorem gw_25 : Jvm.Cond.initialized "GraticulePress$Sheet" ∈ gwA := gwA_at 25 (by decide +kernel) rfl
theorem gw_26 : Jvm.Cond.initialized "GraticulePress$Grid" ∈ gwA := gwA_at 26 (by decide +kernel) rfl
theorem gw_27 : Jvm.Cond.initialized "GraticulePress$Edition" ∈ gwA := gwA_at 27 (by decide +kernel) rfl
theorem gw_28 : Jvm.Cond.classLink "GraticulePressLaw" (8 : Nat) "GraticulePress" ∈ gwA := gwA_at 28 (by decide +kernel) rfl
theorem gw_29 : Jvm.Cond.instantiable "GraticulePress" (8 : Nat) ∈ gwA := gwA_at 29 (by decide +kernel) rfl
theorem gw_30 : Jvm.Cond.methodLink "GraticulePressLaw" (62 : Nat) ({ cls := "GraticulePress", name := "<init>", desc := "()V" } : Jvm.MethodName) ∈ gwA := gwA_at 30 (by decide +kernel) rfl
theorem gw_31 : Jvm.Cond.instanceMethod ({ cls := "GraticulePress", name := "<init>", desc := "()V" } : Jvm.MethodName) ∈ gwA := gwA_at 31 (by decide +kernel) rfl
theorem gw_32 : Jvm.Cond.code ({ cls := "GraticulePress", name := "<init>", desc := "()V" } : Jvm.MethodName) prog_1_method_1_code (1 : Nat) (Option.none : Option Jvm.ClassFile.FieldType) ∈ gwA := gwA_at 32 (by decide +kernel) rfl
theorem gw_33 : Jvm.Cond.methodLink "GraticulePress" (1 : Nat) ({ cls := "java/lang/Object", name := "<init>", desc := "()V" } : Jvm.MethodName) ∈ gwA := gwA_at 33 (by decide +kernel) rfl
theorem gw_34 : Jvm.Cond.instanceMethod ({ cls := "java/lang/Object", name := "<init>", desc := "()V" } : Jvm.MethodName) ∈ gwA := gwA_at 34 (by decide +kernel) rfl
theorem gw_35 : Jvm.Cond.code ({ cls := "java/lang/Object", name := "<init>", desc := "()V" } : Jvm.MethodName) object_method_1_code (1 : Nat) (Option.none : Option Jvm.ClassFile.FieldType) ∈ gwA := gwA_at 35 (by decide +kernel) rfl
theorem gw_36 : Jvm.Cond.classLink "GraticulePress" (7 : Nat) "java/lang/StringBuilder" ∈ gwA := gwA_at 36 (by decide +kernel) rfl
theorem gw_37 : Jvm.Cond.instantiable "java/lang/StringBuilder" (4 : Nat) ∈ gwA := gwA_at 37 (by decide +kernel) rfl
theorem gw_38 : Jvm.Cond.methodLink "GraticulePress" (9 : Nat) ({ cls := "java/lang/StringBuilder", name := "<init>", desc := "()V" } : Jvm.MethodName) ∈ gwA := gwA_at 38 (by decide +kernel) rfl
theorem gw_39 : Jvm.Cond.instanceMethod ({ cls := "java/lang/StringBuilder", name := "<init>", desc := "()V" } : Jvm.MethodName) ∈ gwA := gwA_at 39 (by decide +kernel) rfl
theorem gw_40 : Jvm.Cond.code ({ cls := "java/lang/StringBuilder", name := "<init>", desc := "()V" } : Jvm.MethodName) prog_21_method_1_code (1 : Nat) (Option.none : Option Jvm.ClassFile.FieldType) ∈ gwA := gwA_at 40 (by decide +kernel) rfl
theorem gw_41 : Jvm.Cond.methodLink "java/lang/StringBuilder" (1 : Nat) ({ cls := "java/lang/AbstractStringBuilder", name := "<init>", desc := "(I)V" } : Jvm.MethodName) ∈ gwA := gwA_at 41 (by decide +kernel) rfl
theorem gw_42 : Jvm.Cond.instanceMethod ({ cls := "java/lang/AbstractStringBuilder", name := "<init>", desc := "(I)V" } : Jvm.MethodName) ∈ gwA := gwA_at 42 (by decide +kernel) rfl
theorem gw_43 : Jvm.Cond.code ({ cls := "java/lang/AbstractStringBuilder", name := "<init>", desc := "(I)V" } : Jvm.MethodName) prog_10_method_2_code (2 : Nat) (Option.none : Option Jvm.ClassFile.FieldType) ∈ gwA := gwA_at 43 (by decide +kernel) rfl
theorem gw_44 : Jvm.Cond.methodLink "java/lang/AbstractStringBuilder" (3 : Nat) ({ cls := "java/lang/Object", name := "<init>", desc := "()V" } : Jvm.MethodName) ∈ gwA := gwA_at 44 (by decide +kernel) rfl
theorem gw_47 : Jvm.Cond.methodLink "java/lang/AbstractStringBuilder" (26 : Nat) ({ cls := "java/lang/StringUTF16", name := "newBytesFor", desc := "(I)[B" } : Jvm.MethodName) ∈ gwA := gwA_at 47 (by decide +kernel) rfl
theorem gw_48 : Jvm.Cond.static ({ cls := "java/lang/StringUTF16", name := "newBytesFor", desc := "(I)[B" } : Jvm.MethodName) ∈ gwA := gwA_at 48 (by decide +kernel) rfl
theorem gw_49 : Jvm.Cond.code ({ cls := "java/lang/StringUTF16", name := "newBytesFor", desc := "(I)[B" } : Jvm.MethodName) prog_24_method_2_code (1 : Nat) (Option.some (Jvm.ClassFile.FieldType.array Jvm.ClassFile.FieldType.byte)) ∈ gwA := gwA_at 49 (by decide +kernel) rfl
theorem gw_50 : Jvm.Cond.methodLink "java/lang/StringUTF16" (11 : Nat) ({ cls := "java/lang/StringUTF16", name := "newBytesLength", desc := "(I)I" } : Jvm.MethodName) ∈ gwA := gwA_at 50 (by decide +kernel) rfl
theorem gw_51 : Jvm.Cond.static ({ cls := "java/lang/StringUTF16", name := "newBytesLength", desc := "(I)I" } : Jvm.MethodName) ∈ gwA := gwA_at 51 (by decide +kernel) rfl
theorem gw_52 : Jvm.Cond.code ({ cls := "java/lang/StringUTF16", name := "newBytesLength", desc := "(I)I" } : Jvm.MethodName) prog_24_method_3_code (1 : Nat) (Option.some Jvm.ClassFile.FieldType.int) ∈ gwA := gwA_at 52 (by decide +kernel) rfl
theorem gw_54 : Jvm.Cond.fieldLink "java/lang/AbstractStringBuilder" (15 : Nat) "java/lang/AbstractStringBuilder" "value" "[B" ∈ gwA := gwA_at 54 (by decide +kernel) rfl
theorem gw_55 : Jvm.Cond.fieldLink "java/lang/AbstractStringBuilder" (22 : Nat) "java/lang/AbstractStringBuilder" "coder" "B" ∈ gwA := gwA_at 55 (by decide +kernel) rfl
theorem gw_56 : Jvm.Cond.fieldLink "java/lang/AbstractStringBuilder" (73 : Nat) "java/lang/AbstractStringBuilder" "maybeLatin1" "Z" ∈ gwA := gwA_at 56 (by decide +kernel) rfl
theorem gw_57 : Jvm.Cond.fieldLink "java/lang/String" (1048 : Nat) "java/lang/AbstractStringBuilder" "maybeLatin1" "Z" ∈ gwA := gwA_at 57 (by decide +kernel) rfl
theorem gw_58 : Jvm.Cond.fieldLink "java/lang/AbstractStringBuilder" (79 : Nat) "java/lang/AbstractStringBuilder" "count" "I" ∈ gwA := gwA_at 58 (by decide +kernel) rfl
theorem gw_68 : Jvm.Cond.arrayClass Jvm.ClassFile.FieldType.byte ∈ gwA := gwA_at 68 (by decide +kernel) rfl
theorem gw_69 : Jvm.Cond.classLink "GraticulePress" (16 : Nat) "GraticulePress$Place" ∈ gwA := gwA_at 69 (by decide +kernel) rfl
theorem gw_71 : Jvm.Cond.classLink "GraticulePress" (22 : Nat) "GraticulePress$Sheet" ∈ gwA := gwA_at 71 (by decide +kernel) rfl
theorem gw_73 : Jvm.Cond.classLink "GraticulePress" (28 : Nat) "GraticulePress$Edition" ∈ gwA := gwA_at 73 (by decide +kernel) rfl
theorem gw_75 : Jvm.Cond.fieldLink "GraticulePress" (10 : Nat) "GraticulePress" "typed" "Ljava/lang/StringBuilder;" ∈ gwA := gwA_at 75 (by decide +kernel) rfl
theorem gw_76 : Jvm.Cond.fieldLink "GraticulePress" (18 : Nat) "GraticulePress" "places" "[LGraticulePress$Place;" ∈ gwA := gwA_at 76 (by decide +kernel) rfl
theorem gw_77 : Jvm.Cond.fieldLink "GraticulePress" (24 : Nat) "GraticulePress" "sheets" "[LGraticulePress$Sheet;" ∈ gwA := gwA_at 77 (by decide +kernel) rfl
theorem gw_78 : Jvm.Cond.fieldLink "GraticulePress" (30 : Nat) "GraticulePress" "editions" "[LGraticulePress$Edition;" ∈ gwA := gwA_at 78 (by decide +kernel) rfl
theorem gw_79 : Jvm.Cond.fieldLink "GraticulePress" (34 : Nat) "GraticulePress" "placeCount" "I" ∈ gwA := gwA_at 79 (by decide +kernel) rfl
theorem gw_80 : Jvm.Cond.fieldLink "GraticulePress" (38 : Nat) "GraticulePress" "sheetCount" "I" ∈ gwA := gwA_at 80 (by decide +kernel) rfl
theorem gw_81 : Jvm.Cond.fieldLink "GraticulePress" (41 : Nat) "GraticulePress" "editionCount" "I" ∈ gwA := gwA_at 81 (by decide +kernel) rfl
theorem gw_82 : Jvm.Cond.fieldLink "GraticulePress" (44 : Nat) "GraticulePress" "today" "I" ∈ gwA := gwA_at 82 (by decide +kernel) rfl
theorem gw_105 : Jvm.Cond.methodLink "GraticulePressLaw" (7 : Nat) ({ cls := "GraticulePress", name := "letter", desc := "(C)I" } : Jvm.MethodName) ∈ gwA := gwA_at 105 (by decide +kernel) rfl
theorem gw_106 : Jvm.Cond.instanceMethod ({ cls := "GraticulePress", name := "letter", desc := "(C)I" } : Jvm.MethodName) ∈ gwA := gwA_at 106 (by decide +kernel) rfl
theorem gw_107 : Jvm.Cond.selects "GraticulePress" ({ cls := "GraticulePress", name := "letter", desc := "(C)I" } : Jvm.MethodName) ({ cls := "GraticulePress", name := "letter", desc := "(C)I" } : Jvm.MethodName) ∈ gwA := gwA_at 107 (by decide +kernel) rfl
theorem gw_108 : Jvm.Cond.code ({ cls := "GraticulePress", name := "letter", desc := "(C)I" } : Jvm.MethodName) prog_1_method_2_code (2 : Nat) (Option.some Jvm.ClassFile.FieldType.int) ∈ gwA := gwA_at 108 (by decide +kernel) rfl
theorem gw_109 : Jvm.Cond.classLink "GraticulePress" (47 : Nat) "java/lang/IllegalArgumentException" ∈ gwA := gwA_at 109 (by decide +kernel) rfl
theorem gw_178 : Jvm.Cond.methodLink "GraticulePress" (54 : Nat) ({ cls := "java/lang/StringBuilder", name := "length", desc := "()I" } : Jvm.MethodName) ∈ gwA := gwA_at 178 (by decide +kernel) rfl
theorem gw_179 : Jvm.Cond.instanceMethod ({ cls := "java/lang/StringBuilder", name := "length", desc := "()I" } : Jvm.MethodName) ∈ gwA := gwA_at 179 (by decide +kernel) rfl
theorem gw_180 : Jvm.Cond.selects "java/lang/StringBuilder" ({ cls := "java/lang/StringBuilder", name := "length", desc := "()I" } : Jvm.MethodName) ({ cls := "java/lang/StringBuilder", name := "length", desc := "()I" } : Jvm.MethodName) ∈ gwA := gwA_at 180 (by decide +kernel) rfl
theorem gw_181 : Jvm.Cond.code ({ cls := "java/lang/StringBuilder", name := "length", desc := "()I" } : Jvm.MethodName) prog_21_method_93_code (1 : Nat) (Option.some Jvm.ClassFile.FieldType.int) ∈ gwA := gwA_at 181 (by decide +kernel) rfl
theorem gw_182 : Jvm.Cond.methodLink "java/lang/StringBuilder" (343 : Nat) ({ cls := "java/lang/AbstractStringBuilder", name := "length", desc := "()I" } : Jvm.MethodName) ∈ gwA := gwA_at 182 (by decide +kernel) rfl
theorem gw_184 : Jvm.Cond.code ({ cls := "java/lang/AbstractStringBuilder", name := "length", desc := "()I" } : Jvm.MethodName) prog_10_method_6_code (1 : Nat) (Option.some Jvm.ClassFile.FieldType.int) ∈ gwA := gwA_at 184 (by decide +kernel) rfl
theorem gw_185 : Jvm.Cond.classLink "GraticulePress" (58 : Nat) "java/lang/IllegalStateException" ∈ gwA := gwA_at 185 (by decide +kernel) rfl
theorem gw_201 : Jvm.Cond.methodLink "GraticulePress" (63 : Nat) ({ cls := "java/lang/StringBuilder", name := "append", desc := "(C)Ljava/lang/StringBuilder;" } : Jvm.MethodName) ∈ gwA := gwA_at 201 (by decide +kernel) rfl
theorem gw_202 : Jvm.Cond.instanceMethod ({ cls := "java/lang/StringBuilder", name := "append", desc := "(C)Ljava/lang/StringBuilder;" } : Jvm.MethodName) ∈ gwA := gwA_at 202 (by decide +kernel) rfl
theorem gw_203 : Jvm.Cond.selects "java/lang/StringBuilder" ({ cls := "java/lang/StringBuilder", name := "append", desc := "(C)Ljava/lang/StringBuilder;" } : Jvm.MethodName) ({ cls := "java/lang/StringBuilder", name := "append", desc := "(C)Ljava/lang/StringBuilder;" } : Jvm.MethodName) ∈ gwA := gwA_at 203 (by decide +kernel) rfl
theorem gw_204 : Jvm.Cond.code ({ cls := "java/lang/StringBuilder", name := "append", desc := "(C)Ljava/lang/StringBuilder;" } : Jvm.MethodName) prog_21_method_14_code (2 : Nat) (Option.some (Jvm.ClassFile.FieldType.object "java/lang/StringBuilder")) ∈ gwA := gwA_at 204 (by decide +kernel) rfl
theorem gw_205 : Jvm.Cond.methodLink "java/lang/StringBuilder" (50 : Nat) ({ cls := "java/lang/AbstractStringBuilder", name := "append", desc := "(C)Ljava/lang/AbstractStringBuilder;" } : Jvm.MethodName) ∈ gwA := gwA_at 205 (by decide +kernel) rfl
theorem gw_207 : Jvm.Cond.code ({ cls := "java/lang/AbstractStringBuilder", name := "append", desc := "(C)Ljava/lang/AbstractStringBuilder;" } : Jvm.MethodName) prog_10_method_31_code (2 : Nat) (Option.some (Jvm.ClassFile.FieldType.object "java/lang/AbstractStringBuilder")) ∈ gwA := gwA_at 207 (by decide +kernel) rfl
theorem gw_208 : Jvm.Cond.methodLink "java/lang/AbstractStringBuilder" (100 : Nat) ({ cls := "java/lang/AbstractStringBuilder", name := "ensureCapacityInternal", desc := "(I)V" } : Jvm.MethodName) ∈ gwA := gwA_at 208 (by decide +kernel) rfl
theorem gw_211 : Jvm.Cond.code ({ cls := "java/lang/AbstractStringBuilder", name := "ensureCapacityInternal", desc := "(I)V" } : Jvm.MethodName) prog_10_method_9_code (3 : Nat) (Option.none : Option Jvm.ClassFile.FieldType) ∈ gwA := gwA_at 211 (by decide +kernel) rfl
theorem gw_212 : Jvm.Cond.methodLink "java/lang/AbstractStringBuilder" (104 : Nat) ({ cls := "java/lang/AbstractStringBuilder", name := "newCapacity", desc := "(I)I" } : Jvm.MethodName) ∈ gwA := gwA_at 212 (by decide +kernel) rfl
theorem gw_215 : Jvm.Cond.code ({ cls := "java/lang/AbstractStringBuilder", name := "newCapacity", desc := "(I)I" } : Jvm.MethodName) prog_10_method_10_code (6 : Nat) (Option.some Jvm.ClassFile.FieldType.int) ∈ gwA := gwA_at 215 (by decide +kernel) rfl
theorem gw_216 : Jvm.Cond.methodLink "java/lang/AbstractStringBuilder" (114 : Nat) ({ cls := "jdk/internal/util/ArraysSupport", name := "newLength", desc := "(III)I" } : Jvm.MethodName) ∈ gwA := gwA_at 216 (by decide +kernel) rfl
theorem gw_217 : Jvm.Cond.static ({ cls := "jdk/internal/util/ArraysSupport", name := "newLength", desc := "(III)I" } : Jvm.MethodName) ∈ gwA := gwA_at 217 (by decide +kernel) rfl
theorem gw_218 : Jvm.Cond.code ({ cls := "jdk/internal/util/ArraysSupport", name := "newLength", desc := "(III)I" } : Jvm.MethodName) prog_28_method_27_code (4 : Nat) (Option.some Jvm.ClassFile.FieldType.int) ∈ gwA := gwA_at 218 (by decide +kernel) rfl
theorem gw_219 : Jvm.Cond.methodLink "jdk/internal/util/ArraysSupport" (194 : Nat) ({ cls := "java/lang/Math", name := "max", desc := "(II)I" } : Jvm.MethodName) ∈ gwA := gwA_at 219 (by decide +kernel) rfl
theorem gw_220 : Jvm.Cond.static ({ cls := "java/lang/Math", name := "max", desc := "(II)I" } : Jvm.MethodName) ∈ gwA := gwA_at 220 (by decide +kernel) rfl
theorem gw_221 : Jvm.Cond.code ({ cls := "java/lang/Math", name := "max", desc := "(II)I" } : Jvm.MethodName) prog_18_method_65_code (2 : Nat) (Option.some Jvm.ClassFile.FieldType.int) ∈ gwA := gwA_at 221 (by decide +kernel) rfl
theorem gw_223 : Jvm.Cond.methodLink "jdk/internal/util/ArraysSupport" (201 : Nat) ({ cls := "jdk/internal/util/ArraysSupport", name := "hugeLength", desc := "(II)I" } : Jvm.MethodName) ∈ gwA := gwA_at 223 (by decide +kernel) rfl
theorem gw_224 : Jvm.Cond.static ({ cls := "jdk/internal/util/ArraysSupport", name := "hugeLength", desc := "(II)I" } : Jvm.MethodName) ∈ gwA := gwA_at 224 (by decide +kernel) rfl
theorem gw_225 : Jvm.Cond.code ({ cls := "jdk/internal/util/ArraysSupport", name := "hugeLength", desc := "(II)I" } : Jvm.MethodName) prog_28_method_28_code (3 : Nat) (Option.some Jvm.ClassFile.FieldType.int) ∈ gwA := gwA_at 225 (by decide +kernel) rfl
theorem gw_227 : Jvm.Cond.methodLink "java/lang/AbstractStringBuilder" (108 : Nat) ({ cls := "java/util/Arrays", name := "copyOf", desc := "([BI)[B" } : Jvm.MethodName) ∈ gwA := gwA_at 227 (by decide +kernel) rfl
theorem gw_228 : Jvm.Cond.static ({ cls := "java/util/Arrays", name := "copyOf", desc := "([BI)[B" } : Jvm.MethodName) ∈ gwA := gwA_at 228 (by decide +kernel) rfl
theorem gw_229 : Jvm.Cond.code ({ cls := "java/util/Arrays", name := "copyOf", desc := "([BI)[B" } : Jvm.MethodName) prog_27_method_121_code (3 : Nat) (Option.some (Jvm.ClassFile.FieldType.array Jvm.ClassFile.FieldType.byte)) ∈ gwA := gwA_at 229 (by decide +kernel) rfl
theorem gw_237 : Jvm.Cond.methodLink "java/util/Arrays" (304 : Nat) ({ cls := "java/lang/Math", name := "min", desc := "(II)I" } : Jvm.MethodName) ∈ gwA := gwA_at 237 (by decide +kernel) rfl
theorem gw_238 : Jvm.Cond.static ({ cls := "java/lang/Math", name := "min", desc := "(II)I" } : Jvm.MethodName) ∈ gwA := gwA_at 238 (by decide +kernel) rfl
theorem gw_239 : Jvm.Cond.code ({ cls := "java/lang/Math", name := "min", desc := "(II)I" } : Jvm.MethodName) prog_18_method_69_code (2 : Nat) (Option.some Jvm.ClassFile.FieldType.int) ∈ gwA := gwA_at 239 (by decide +kernel) rfl
theorem gw_243 : Jvm.Cond.methodLink "java/lang/AbstractStringBuilder" (83 : Nat) ({ cls := "java/lang/AbstractStringBuilder", name := "isLatin1", desc := "()Z" } : Jvm.MethodName) ∈ gwA := gwA_at 243 (by decide +kernel) rfl
theorem gw_247 : Jvm.Cond.code ({ cls := "java/lang/AbstractStringBuilder", name := "isLatin1", desc := "()Z" } : Jvm.MethodName) prog_10_method_68_code (1 : Nat) (Option.some Jvm.ClassFile.FieldType.boolean) ∈ gwA := gwA_at 247 (by decide +kernel) rfl
theorem gw_248 : Jvm.Cond.methodLink "java/lang/AbstractStringBuilder" (191 : Nat) ({ cls := "java/lang/StringLatin1", name := "canEncode", desc := "(C)Z" } : Jvm.MethodName) ∈ gwA := gwA_at 248 (by decide +kernel) rfl
theorem gw_249 : Jvm.Cond.static ({ cls := "java/lang/StringLatin1", name := "canEncode", desc := "(C)Z" } : Jvm.MethodName) ∈ gwA := gwA_at 249 (by decide +kernel) rfl
theorem gw_250 : Jvm.Cond.code ({ cls := "java/lang/StringLatin1", name := "canEncode", desc := "(C)Z" } : Jvm.MethodName) prog_23_method_3_code (1 : Nat) (Option.some Jvm.ClassFile.FieldType.boolean) ∈ gwA := gwA_at 250 (by decide +kernel) rfl
theorem gw_251 : Jvm.Cond.methodLink "java/lang/AbstractStringBuilder" (195 : Nat) ({ cls := "java/lang/AbstractStringBuilder", name := "inflate", desc := "()V" } : Jvm.MethodName) ∈ gwA := gwA_at 251 (by decide +kernel) rfl
theorem gw_254 : Jvm.Cond.code ({ cls := "java/lang/AbstractStringBuilder", name := "inflate", desc := "()V" } : Jvm.MethodName) prog_10_method_11_code (2 : Nat) (Option.none : Option Jvm.ClassFile.FieldType) ∈ gwA := gwA_at 254 (by decide +kernel) rfl
theorem gw_255 : Jvm.Cond.methodLink "java/lang/AbstractStringBuilder" (125 : Nat) ({ cls := "java/lang/StringLatin1", name := "inflate", desc := "([BI[BII)V" } : Jvm.MethodName) ∈ gwA := gwA_at 255 (by decide +kernel) rfl
theorem gw_256 : Jvm.Cond.static ({ cls := "java/lang/StringLatin1", name := "inflate", desc := "([BI[BII)V" } : Jvm.MethodName) ∈ gwA := gwA_at 256 (by decide +kernel) rfl
theorem gw_257 : Jvm.Cond.code ({ cls := "java/lang/StringLatin1", name := "inflate", desc := "([BI[BII)V" } : Jvm.MethodName) prog_23_method_50_code (5 : Nat) (Option.none : Option Jvm.ClassFile.FieldType) ∈ gwA := gwA_at 257 (by decide +kernel) rfl
theorem gw_258 : Jvm.Cond.methodLink "java/lang/StringLatin1" (240 : Nat) ({ cls := "java/lang/StringUTF16", name := "inflate", desc := "([BI[BII)V" } : Jvm.MethodName) ∈ gwA := gwA_at 258 (by decide +kernel) rfl
theorem gw_259 : Jvm.Cond.static ({ cls := "java/lang/StringUTF16", name := "inflate", desc := "([BI[BII)V" } : Jvm.MethodName) ∈ gwA := gwA_at 259 (by decide +kernel) rfl
theorem gw_260 : Jvm.Cond.code ({ cls := "java/lang/StringUTF16", name := "inflate", desc := "([BI[BII)V" } : Jvm.MethodName) prog_24_method_86_code (6 : Nat) (Option.none : Option Jvm.ClassFile.FieldType) ∈ gwA := gwA_at 260 (by decide +kernel) rfl
theorem gw_261 : Jvm.Cond.methodLink "java/lang/StringUTF16" (173 : Nat) ({ cls := "java/lang/StringUTF16", name := "checkBoundsOffCount", desc := "(II[B)V" } : Jvm.MethodName) ∈ gwA := gwA_at 261 (by decide +kernel) rfl
theorem gw_262 : Jvm.Cond.static ({ cls := "java/lang/StringUTF16", name := "checkBoundsOffCount", desc := "(II[B)V" } : Jvm.MethodName) ∈ gwA := gwA_at 262 (by decide +kernel) rfl
theorem gw_263 : Jvm.Cond.code ({ cls := "java/lang/StringUTF16", name := "checkBoundsOffCount", desc := "(II[B)V" } : Jvm.MethodName) prog_24_method_94_code (3 : Nat) (Option.none : Option Jvm.ClassFile.FieldType) ∈ gwA := gwA_at 263 (by decide +kernel) rfl
theorem gw_264 : Jvm.Cond.methodLink "java/lang/StringUTF16" (48 : Nat) ({ cls := "java/lang/StringUTF16", name := "length", desc := "([B)I" } : Jvm.MethodName) ∈ gwA := gwA_at 264 (by decide +kernel) rfl
theorem gw_265 : Jvm.Cond.static ({ cls := "java/lang/StringUTF16", name := "length", desc := "([B)I" } : Jvm.MethodName) ∈ gwA := gwA_at 265 (by decide +kernel) rfl
theorem gw_266 : Jvm.Cond.code ({ cls := "java/lang/StringUTF16", name := "length", desc := "([B)I" } : Jvm.MethodName) prog_24_method_6_code (1 : Nat) (Option.some Jvm.ClassFile.FieldType.int) ∈ gwA := gwA_at 266 (by decide +kernel) rfl
theorem gw_267 : Jvm.Cond.methodLink "java/lang/StringUTF16" (419 : Nat) ({ cls := "java/lang/String", name := "checkBoundsOffCount", desc := "(III)I" } : Jvm.MethodName) ∈ gwA := gwA_at 267 (by decide +kernel) rfl
theorem gw_268 : Jvm.Cond.static ({ cls := "java/lang/String", name := "checkBoundsOffCount", desc := "(III)I" } : Jvm.MethodName) ∈ gwA := gwA_at 268 (by decide +kernel) rfl
theorem gw_269 : Jvm.Cond.code ({ cls := "java/lang/String", name := "checkBoundsOffCount", desc := "(III)I" } : Jvm.MethodName) prog_20_method_157_code (3 : Nat) (Option.some Jvm.ClassFile.FieldType.int) ∈ gwA := gwA_at 269 (by decide +kernel) rfl
theorem gw_272 : Jvm.Cond.methodLink "java/lang/String" (1065 : Nat) ({ cls := "jdk/internal/util/Preconditions", name := "checkFromIndexSize", desc := "(IIILjava/util/function/BiFunction;)I" } : Jvm.MethodName) ∈ gwA := gwA_at 272 (by decide +kernel) rfl
theorem gw_273 : Jvm.Cond.static ({ cls := "jdk/internal/util/Preconditions", name := "checkFromIndexSize", desc := "(IIILjava/util/function/BiFunction;)I" } : Jvm.MethodName) ∈ gwA := gwA_at 273 (by decide +kernel) rfl
theorem gw_274 : Jvm.Cond.code ({ cls := "jdk/internal/util/Preconditions", name := "checkFromIndexSize", desc := "(IIILjava/util/function/BiFunction;)I" } : Jvm.MethodName) prog_29_method_13_code (4 : Nat) (Option.some Jvm.ClassFile.FieldType.int) ∈ gwA := gwA_at 274 (by decide +kernel) rfl
theorem gw_275 : Jvm.Cond.methodLink "java/lang/StringUTF16" (111 : Nat) ({ cls := "java/lang/StringUTF16", name := "putChar", desc := "([BII)V" } : Jvm.MethodName) ∈ gwA := gwA_at 275 (by decide +kernel) rfl
theorem gw_276 : Jvm.Cond.static ({ cls := "java/lang/StringUTF16", name := "putChar", desc := "([BII)V" } : Jvm.MethodName) ∈ gwA := gwA_at 276 (by decide +kernel) rfl
theorem gw_277 : Jvm.Cond.code ({ cls := "java/lang/StringUTF16", name := "putChar", desc := "([BII)V" } : Jvm.MethodName) prog_24_method_4_code (3 : Nat) (Option.none : Option Jvm.ClassFile.FieldType) ∈ gwA := gwA_at 277 (by decide +kernel) rfl
theorem gw_284 : Jvm.Cond.methodLink "java/lang/AbstractStringBuilder" (197 : Nat) ({ cls := "java/lang/StringUTF16", name := "putCharSB", desc := "([BII)V" } : Jvm.MethodName) ∈ gwA := gwA_at 284 (by decide +kernel) rfl
theorem gw_285 : Jvm.Cond.static ({ cls := "java/lang/StringUTF16", name := "putCharSB", desc := "([BII)V" } : Jvm.MethodName) ∈ gwA := gwA_at 285 (by decide +kernel) rfl
theorem gw_286 : Jvm.Cond.code ({ cls := "java/lang/StringUTF16", name := "putCharSB", desc := "([BII)V" } : Jvm.MethodName) prog_24_method_71_code (3 : Nat) (Option.none : Option Jvm.ClassFile.FieldType) ∈ gwA := gwA_at 286 (by decide +kernel) rfl
theorem gw_287 : Jvm.Cond.methodLink "java/lang/StringUTF16" (67 : Nat) ({ cls := "java/lang/StringUTF16", name := "checkIndex", desc := "(I[B)V" } : Jvm.MethodName) ∈ gwA := gwA_at 287 (by decide +kernel) rfl
theorem gw_288 : Jvm.Cond.static ({ cls := "java/lang/StringUTF16", name := "checkIndex", desc := "(I[B)V" } : Jvm.MethodName) ∈ gwA := gwA_at 288 (by decide +kernel) rfl
theorem gw_289 : Jvm.Cond.code ({ cls := "java/lang/StringUTF16", name := "checkIndex", desc := "(I[B)V" } : Jvm.MethodName) prog_24_method_91_code (2 : Nat) (Option.none : Option Jvm.ClassFile.FieldType) ∈ gwA := gwA_at 289 (by decide +kernel) rfl
theorem gw_290 : Jvm.Cond.methodLink "java/lang/StringUTF16" (414 : Nat) ({ cls := "java/lang/String", name := "checkIndex", desc := "(II)V" } : Jvm.MethodName) ∈ gwA := gwA_at 290 (by decide +kernel) rfl
theorem gw_291 : Jvm.Cond.static ({ cls := "java/lang/String", name := "checkIndex", desc := "(II)V" } : Jvm.MethodName) ∈ gwA := gwA_at 291 (by decide +kernel) rfl
theorem gw_292 : Jvm.Cond.code ({ cls := "java/lang/String", name := "checkIndex", desc := "(II)V" } : Jvm.MethodName) prog_20_method_155_code (2 : Nat) (Option.none : Option Jvm.ClassFile.FieldType) ∈ gwA := gwA_at 292 (by decide +kernel) rfl
theorem gw_293 : Jvm.Cond.methodLink "java/lang/String" (1059 : Nat) ({ cls := "jdk/internal/util/Preconditions", name := "checkIndex", desc := "(IILjava/util/function/BiFunction;)I" } : Jvm.MethodName) ∈ gwA := gwA_at 293 (by decide +kernel) rfl
theorem gw_294 : Jvm.Cond.static ({ cls := "jdk/internal/util/Preconditions", name := "checkIndex", desc := "(IILjava/util/function/BiFunction;)I" } : Jvm.MethodName) ∈ gwA := gwA_at 294 (by decide +kernel) rfl
theorem gw_295 : Jvm.Cond.code ({ cls := "jdk/internal/util/Preconditions", name := "checkIndex", desc := "(IILjava/util/function/BiFunction;)I" } : Jvm.MethodName) prog_29_method_11_code (3 : Nat) (Option.some Jvm.ClassFile.FieldType.int) ∈ gwA := gwA_at 295 (by decide +kernel) rfl
theorem gw_299 : Jvm.Cond.methodLink "GraticulePressLaw" (17 : Nat) ({ cls := "GraticulePress", name := "place", desc := "(III)I" } : Jvm.MethodName) ∈ gwA := gwA_at 299 (by decide +kernel) rfl
theorem gw_300 : Jvm.Cond.instanceMethod ({ cls := "GraticulePress", name := "place", desc := "(III)I" } : Jvm.MethodName) ∈ gwA := gwA_at 300 (by decide +kernel) rfl
theorem gw_301 : Jvm.Cond.selects "GraticulePress" ({ cls := "GraticulePress", name := "place", desc := "(III)I" } : Jvm.MethodName) ({ cls := "GraticulePress", name := "place", desc := "(III)I" } : Jvm.MethodName) ∈ gwA := gwA_at 301 (by decide +kernel) rfl
theorem gw_302 : Jvm.Cond.code ({ cls := "GraticulePress", name := "place", desc := "(III)I" } : Jvm.MethodName) prog_1_method_3_code (5 : Nat) (Option.some Jvm.ClassFile.FieldType.int) ∈ gwA := gwA_at 302 (by decide +kernel) rfl
theorem gw_303 : Jvm.Cond.methodLink "GraticulePress" (67 : Nat) ({ cls := "GraticulePress", name := "isWithin", desc := "(III)Z" } : Jvm.MethodName) ∈ gwA := gwA_at 303 (by decide +kernel) rfl
theorem gw_304 : Jvm.Cond.static ({ cls := "GraticulePress", name := "isWithin", desc := "(III)Z" } : Jvm.MethodName) ∈ gwA := gwA_at 304 (by decide +kernel) rfl
theorem gw_305 : Jvm.Cond.code ({ cls := "GraticulePress", name := "isWithin", desc := "(III)Z" } : Jvm.MethodName) prog_1_method_15_code (3 : Nat) (Option.some Jvm.ClassFile.FieldType.boolean) ∈ gwA := gwA_at 305 (by decide +kernel) rfl
theorem gw_308 : Jvm.Cond.instantiable "GraticulePress$Place" (5 : Nat) ∈ gwA := gwA_at 308 (by decide +kernel) rfl
theorem gw_309 : Jvm.Cond.methodLink "GraticulePress" (75 : Nat) ({ cls := "GraticulePress$Place", name := "<init>", desc := "(III)V" } : Jvm.MethodName) ∈ gwA := gwA_at 309 (by decide +kernel) rfl
theorem gw_310 : Jvm.Cond.instanceMethod ({ cls := "GraticulePress$Place", name := "<init>", desc := "(III)V" } : Jvm.MethodName) ∈ gwA := gwA_at 310 (by decide +kernel) rfl
theorem gw_311 : Jvm.Cond.code ({ cls := "GraticulePress$Place", name := "<init>", desc := "(III)V" } : Jvm.MethodName) prog_4_method_1_code (4 : Nat) (Option.none : Option Jvm.ClassFile.FieldType) ∈ gwA := gwA_at 311 (by decide +kernel) rfl
theorem gw_312 : Jvm.Cond.methodLink "GraticulePress$Place" (3 : Nat) ({ cls := "java/lang/Object", name := "<init>", desc := "()V" } : Jvm.MethodName) ∈ gwA := gwA_at 312 (by decide +kernel) rfl
theorem gw_313 : Jvm.Cond.classLink "GraticulePress$Place" (21 : Nat) "GraticulePress$Spelling" ∈ gwA := gwA_at 313 (by decide +kernel) rfl
theorem gw_315 : Jvm.Cond.fieldLink "GraticulePress$Place" (9 : Nat) "GraticulePress$Place" "length" "I" ∈ gwA := gwA_at 315 (by decide +kernel) rfl
theorem gw_316 : Jvm.Cond.fieldLink "GraticulePress$Sheet" (60 : Nat) "GraticulePress$Place" "length" "I" ∈ gwA := gwA_at 316 (by decide +kernel) rfl
theorem gw_317 : Jvm.Cond.fieldLink "GraticulePress$Place" (15 : Nat) "GraticulePress$Place" "breadth" "I" ∈ gwA := gwA_at 317 (by decide +kernel) rfl
theorem gw_318 : Jvm.Cond.fieldLink "GraticulePress$Sheet" (67 : Nat) "GraticulePress$Place" "breadth" "I" ∈ gwA := gwA_at 318 (by decide +kernel) rfl
theorem gw_319 : Jvm.Cond.fieldLink "GraticulePress$Spot" (15 : Nat) "GraticulePress$Place" "rank" "I" ∈ gwA := gwA_at 319 (by decide +kernel) rfl
theorem gw_320 : Jvm.Cond.fieldLink "GraticulePress$Place" (18 : Nat) "GraticulePress$Place" "rank" "I" ∈ gwA := gwA_at 320 (by decide +kernel) rfl
theorem gw_321 : Jvm.Cond.fieldLink "GraticulePress$Place" (23 : Nat) "GraticulePress$Place" "spellings" "[LGraticulePress$Spelling;" ∈ gwA := gwA_at 321 (by decide +kernel) rfl
theorem gw_322 : Jvm.Cond.fieldLink "GraticulePress$Place" (27 : Nat) "GraticulePress$Place" "toldCount" "I" ∈ gwA := gwA_at 322 (by decide +kernel) rfl
theorem gw_334 : Jvm.Cond.methodLink "GraticulePress" (78 : Nat) ({ cls := "GraticulePress", name := "showOnAllSheets", desc := "(LGraticulePress$Place;)V" } : Jvm.MethodName) ∈ gwA := gwA_at 334 (by decide +kernel) rfl
theorem gw_336 : Jvm.Cond.instanceMethod ({ cls := "GraticulePress", name := "showOnAllSheets", desc := "(LGraticulePress$Place;)V" } : Jvm.MethodName) ∈ gwA := gwA_at 336 (by decide +kernel) rfl
theorem gw_337 : Jvm.Cond.code ({ cls := "GraticulePress", name := "showOnAllSheets", desc := "(LGraticulePress$Place;)V" } : Jvm.MethodName) prog_1_method_21_code (4 : Nat) (Option.none : Option Jvm.ClassFile.FieldType) ∈ gwA := gwA_at 337 (by decide +kernel) rfl
theorem gw_338 : Jvm.Cond.methodLink "GraticulePress" (142 : Nat) ({ cls := "GraticulePress$Sheet", name := "show", desc := "(LGraticulePress$Place;)V" } : Jvm.MethodName) ∈ gwA := gwA_at 338 (by decide +kernel) rfl
theorem gw_339 : Jvm.Cond.instanceMethod ({ cls := "GraticulePress$Sheet", name := "show", desc := "(LGraticulePress$Place;)V" } : Jvm.MethodName) ∈ gwA := gwA_at 339 (by decide +kernel) rfl
theorem gw_340 : Jvm.Cond.selects "GraticulePress$Sheet" ({ cls := "GraticulePress$Sheet", name := "show", desc := "(LGraticulePress$Place;)V" } : Jvm.MethodName) ({ cls := "GraticulePress$Sheet", name := "show", desc := "(LGraticulePress$Place;)V" } : Jvm.MethodName) ∈ gwA := gwA_at 340 (by decide +kernel) rfl
theorem gw_341 : Jvm.Cond.code ({ cls := "GraticulePress$Sheet", name := "show", desc := "(LGraticulePress$Place;)V" } : Jvm.MethodName) prog_5_method_2_code (2 : Nat) (Option.none : Option Jvm.ClassFile.FieldType) ∈ gwA := gwA_at 341 (by decide +kernel) rfl
theorem gw_342 : Jvm.Cond.methodLink "GraticulePress$Sheet" (46 : Nat) ({ cls := "GraticulePress$Sheet", name := "has", desc := "(LGraticulePress$Place;)Z" } : Jvm.MethodName) ∈ gwA := gwA_at 342 (by decide +kernel) rfl
theorem gw_344 : Jvm.Cond.instanceMethod ({ cls := "GraticulePress$Sheet", name := "has", desc := "(LGraticulePress$Place;)Z" } : Jvm.MethodName) ∈ gwA := gwA_at 344 (by decide +kernel) rfl
theorem gw_345 : Jvm.Cond.instantiable "GraticulePress$Sheet" (9 : Nat) ∈ gwA := gwA_at 345 (by decide +kernel) rfl
theorem gw_346 : Jvm.Cond.code ({ cls := "GraticulePress$Sheet", name := "has", desc := "(LGraticulePress$Place;)Z" } : Jvm.MethodName) prog_5_method_3_code (2 : Nat) (Option.some Jvm.ClassFile.FieldType.boolean) ∈ gwA := gwA_at 346 (by decide +kernel) rfl
theorem gw_348 : Jvm.Cond.classLink "GraticulePress$Sheet" (31 : Nat) "GraticulePress$Spot" ∈ gwA := gwA_at 348 (by decide +kernel) rfl
theorem gw_349 : Jvm.Cond.instantiable "GraticulePress$Spot" (7 : Nat) ∈ gwA := gwA_at 349 (by decide +kernel) rfl
theorem gw_350 : Jvm.Cond.methodLink "GraticulePress$Sheet" (50 : Nat) ({ cls := "GraticulePress$Sheet", name := "columnOf", desc := "(LGraticulePress$Place;)I" } : Jvm.MethodName) ∈ gwA := gwA_at 350 (by decide +kernel) rfl
theorem gw_352 : Jvm.Cond.instanceMethod ({ cls := "GraticulePress$Sheet", name := "columnOf", desc := "(LGraticulePress$Place;)I" } : Jvm.MethodName) ∈ gwA := gwA_at 352 (by decide +kernel) rfl
theorem gw_353 : Jvm.Cond.code ({ cls := "GraticulePress$Sheet", name := "columnOf", desc := "(LGraticulePress$Place;)I" } : Jvm.MethodName) prog_5_method_5_code (5 : Nat) (Option.some Jvm.ClassFile.FieldType.int) ∈ gwA := gwA_at 353 (by decide +kernel) rfl
theorem gw_354 : Jvm.Cond.constantFloat "GraticulePress$Sheet" (68 : Nat) (1017370378 : UInt32) ∈ gwA := gwA_at 354 (by decide +kernel) rfl
theorem gw_355 : Jvm.Cond.constantFloat "GraticulePress$Sheet" (69 : Nat) (1097859072 : UInt32) ∈ gwA := gwA_at 355 (by decide +kernel) rfl
theorem gw_356 : Jvm.Cond.constantFloat "GraticulePress$Sheet" (70 : Nat) (1082130432 : UInt32) ∈ gwA := gwA_at 356 (by decide +kernel) rfl
theorem gw_357 : Jvm.Cond.constantFloat "GraticulePress$Sheet" (71 : Nat) (1077936128 : UInt32) ∈ gwA := gwA_at 357 (by decide +kernel) rfl
theorem gw_358 : Jvm.Cond.constantFloat "GraticulePress$Sheet" (72 : Nat) (1101004800 : UInt32) ∈ gwA := gwA_at 358 (by decide +kernel) rfl
theorem gw_359 : Jvm.Cond.methodLink "GraticulePress$Sheet" (54 : Nat) ({ cls := "GraticulePress$Sheet", name := "rowOf", desc := "(LGraticulePress$Place;)I" } : Jvm.MethodName) ∈ gwA := gwA_at 359 (by decide +kernel) rfl
theorem gw_361 : Jvm.Cond.instanceMethod ({ cls := "GraticulePress$Sheet", name := "rowOf", desc := "(LGraticulePress$Place;)I" } : Jvm.MethodName) ∈ gwA := gwA_at 361 (by decide +kernel) rfl
theorem gw_362 : Jvm.Cond.code ({ cls := "GraticulePress$Sheet", name := "rowOf", desc := "(LGraticulePress$Place;)I" } : Jvm.MethodName) prog_5_method_4_code (2 : Nat) (Option.some Jvm.ClassFile.FieldType.int) ∈ gwA := gwA_at 362 (by decide +kernel) rfl
theorem gw_363 : Jvm.Cond.methodLink "GraticulePress$Sheet" (57 : Nat) ({ cls := "GraticulePress$Spot", name := "<init>", desc := "(LGraticulePress$Place;II)V" } : Jvm.MethodName) ∈ gwA := gwA_at 363 (by decide +kernel) rfl
theorem gw_364 : Jvm.Cond.instanceMethod ({ cls := "GraticulePress$Spot", name := "<init>", desc := "(LGraticulePress$Place;II)V" } : Jvm.MethodName) ∈ gwA := gwA_at 364 (by decide +kernel) rfl
theorem gw_365 : Jvm.Cond.code ({ cls := "GraticulePress$Spot", name := "<init>", desc := "(LGraticulePress$Place;II)V" } : Jvm.MethodName) prog_7_method_1_code (4 : Nat) (Option.none : Option Jvm.ClassFile.FieldType) ∈ gwA := gwA_at 365 (by decide +kernel) rfl
theorem gw_366 : Jvm.Cond.methodLink "GraticulePress$Spot" (3 : Nat) ({ cls := "java/lang/Object", name := "<init>", desc := "()V" } : Jvm.MethodName) ∈ gwA := gwA_at 366 (by decide +kernel) rfl
theorem gw_367 : Jvm.Cond.fieldLink "GraticulePress$Spot" (21 : Nat) "GraticulePress$Spot" "rank" "I" ∈ gwA := gwA_at 367 (by decide +kernel) rfl
theorem gw_368 : Jvm.Cond.fieldLink "GraticulePress$Sheet" (87 : Nat) "GraticulePress$Spot" "rank" "I" ∈ gwA := gwA_at 368 (by decide +kernel) rfl
theorem gw_369 : Jvm.Cond.fieldLink "GraticulePress$Spot" (22 : Nat) "GraticulePress$Spot" "column" "I" ∈ gwA := gwA_at 369 (by decide +kernel) rfl
theorem gw_370 : Jvm.Cond.fieldLink "GraticulePress" (157 : Nat) "GraticulePress$Spot" "column" "I" ∈ gwA := gwA_at 370 (by decide +kernel) rfl
theorem gw_371 : Jvm.Cond.fieldLink "GraticulePress$Sheet" (103 : Nat) "GraticulePress$Spot" "column" "I" ∈ gwA := gwA_at 371 (by decide +kernel) rfl
theorem gw_372 : Jvm.Cond.fieldLink "GraticulePress$Spot" (25 : Nat) "GraticulePress$Spot" "row" "I" ∈ gwA := gwA_at 372 (by decide +kernel) rfl
theorem gw_373 : Jvm.Cond.fieldLink "GraticulePress" (152 : Nat) "GraticulePress$Spot" "row" "I" ∈ gwA := gwA_at 373 (by decide +kernel) rfl
theorem gw_374 : Jvm.Cond.fieldLink "GraticulePress$Sheet" (100 : Nat) "GraticulePress$Spot" "row" "I" ∈ gwA := gwA_at 374 (by decide +kernel) rfl
theorem gw_375 : Jvm.Cond.fieldLink "GraticulePress$Spot" (9 : Nat) "GraticulePress$Spot" "place" "LGraticulePress$Place;" ∈ gwA := gwA_at 375 (by decide +kernel) rfl
theorem gw_376 : Jvm.Cond.fieldLink "GraticulePress$Spot" (28 : Nat) "GraticulePress$Spot" "word" "Ljava/lang/String;" ∈ gwA := gwA_at 376 (by decide +kernel) rfl
theorem gw_377 : Jvm.Cond.fieldLink "GraticulePress$Spot" (32 : Nat) "GraticulePress$Spot" "side" "I" ∈ gwA := gwA_at 377 (by decide +kernel) rfl
theorem gw_380 : Jvm.Cond.fieldLink "GraticulePress$Spot" (35 : Nat) "GraticulePress$Spot" "sideAhead" "I" ∈ gwA := gwA_at 380 (by decide +kernel) rfl
theorem gw_396 : Jvm.Cond.methodLink "GraticulePress" (145 : Nat) ({ cls := "GraticulePress$Sheet", name := "placeAnew", desc := "(I)V" } : Jvm.MethodName) ∈ gwA := gwA_at 396 (by decide +kernel) rfl
theorem gw_397 : Jvm.Cond.instanceMethod ({ cls := "GraticulePress$Sheet", name := "placeAnew", desc := "(I)V" } : Jvm.MethodName) ∈ gwA := gwA_at 397 (by decide +kernel) rfl
theorem gw_398 : Jvm.Cond.selects "GraticulePress$Sheet" ({ cls := "GraticulePress$Sheet", name := "placeAnew", desc := "(I)V" } : Jvm.MethodName) ({ cls := "GraticulePress$Sheet", name := "placeAnew", desc := "(I)V" } : Jvm.MethodName) ∈ gwA := gwA_at 398 (by decide +kernel) rfl
theorem gw_399 : Jvm.Cond.code ({ cls := "GraticulePress$Sheet", name := "placeAnew", desc := "(I)V" } : Jvm.MethodName) prog_5_method_7_code (4 : Nat) (Option.none : Option Jvm.ClassFile.FieldType) ∈ gwA := gwA_at 399 (by decide +kernel) rfl
theorem gw_400 : Jvm.Cond.methodLink "GraticulePress$Sheet" (73 : Nat) ({ cls := "GraticulePress$Spot", name := "takeUp", desc := "(I)V" } : Jvm.MethodName) ∈ gwA := gwA_at 400 (by decide +kernel) rfl
theorem gw_401 : Jvm.Cond.instanceMethod ({ cls := "GraticulePress$Spot", name := "takeUp", desc := "(I)V" } : Jvm.MethodName) ∈ gwA := gwA_at 401 (by decide +kernel) rfl
theorem gw_402 : Jvm.Cond.selects "GraticulePress$Spot" ({ cls := "GraticulePress$Spot", name := "takeUp", desc := "(I)V" } : Jvm.MethodName) ({ cls := "GraticulePress$Spot", name := "takeUp", desc := "(I)V" } : Jvm.MethodName) ∈ gwA := gwA_at 402 (by decide +kernel) rfl
theorem gw_403 : Jvm.Cond.code ({ cls := "GraticulePress$Spot", name := "takeUp", desc := "(I)V" } : Jvm.MethodName) prog_7_method_2_code (2 : Nat) (Option.none : Option Jvm.ClassFile.FieldType) ∈ gwA := gwA_at 403 (by decide +kernel) rfl
theorem gw_404 : Jvm.Cond.methodLink "GraticulePress$Spot" (38 : Nat) ({ cls := "GraticulePress$Place", name := "wordOn", desc := "(I)Ljava/lang/String;" } : Jvm.MethodName) ∈ gwA := gwA_at 404 (by decide +kernel) rfl
theorem gw_405 : Jvm.Cond.instanceMethod ({ cls := "GraticulePress$Place", name := "wordOn", desc := "(I)Ljava/lang/String;" } : Jvm.MethodName) ∈ gwA := gwA_at 405 (by decide +kernel) rfl
theorem gw_406 : Jvm.Cond.selects "GraticulePress$Place" ({ cls := "GraticulePress$Place", name := "wordOn", desc := "(I)Ljava/lang/String;" } : Jvm.MethodName) ({ cls := "GraticulePress$Place", name := "wordOn", desc := "(I)Ljava/lang/String;" } : Jvm.MethodName) ∈ gwA := gwA_at 406 (by decide +kernel) rfl
theorem gw_407 : Jvm.Cond.code ({ cls := "GraticulePress$Place", name := "wordOn", desc := "(I)Ljava/lang/String;" } : Jvm.MethodName) prog_4_method_4_code (5 : Nat) (Option.some (Jvm.ClassFile.FieldType.object "java/lang/String")) ∈ gwA := gwA_at 407 (by decide +kernel) rfl
theorem gw_408 : Jvm.Cond.methodLink "GraticulePress$Sheet" (77 : Nat) ({ cls := "GraticulePress$Sheet", name := "listNamed", desc := "()V" } : Jvm.MethodName) ∈ gwA := gwA_at 408 (by decide +kernel) rfl
theorem gw_410 : Jvm.Cond.instanceMethod ({ cls := "GraticulePress$Sheet", name := "listNamed", desc := "()V" } : Jvm.MethodName) ∈ gwA := gwA_at 410 (by decide +kernel) rfl
theorem gw_411 : Jvm.Cond.code ({ cls := "GraticulePress$Sheet", name := "listNamed", desc := "()V" } : Jvm.MethodName) prog_5_method_8_code (4 : Nat) (Option.none : Option Jvm.ClassFile.FieldType) ∈ gwA := gwA_at 411 (by decide +kernel) rfl
theorem gw_412 : Jvm.Cond.methodLink "GraticulePress$Sheet" (90 : Nat) ({ cls := "GraticulePress$Spot", name := "isNamed", desc := "()Z" } : Jvm.MethodName) ∈ gwA := gwA_at 412 (by decide +kernel) rfl
theorem gw_413 : Jvm.Cond.instanceMethod ({ cls := "GraticulePress$Spot", name := "isNamed", desc := "()Z" } : Jvm.MethodName) ∈ gwA := gwA_at 413 (by decide +kernel) rfl
theorem gw_414 : Jvm.Cond.selects "GraticulePress$Spot" ({ cls := "GraticulePress$Spot", name := "isNamed", desc := "()Z" } : Jvm.MethodName) ({ cls := "GraticulePress$Spot", name := "isNamed", desc := "()Z" } : Jvm.MethodName) ∈ gwA := gwA_at 414 (by decide +kernel) rfl
theorem gw_415 : Jvm.Cond.code ({ cls := "GraticulePress$Spot", name := "isNamed", desc := "()Z" } : Jvm.MethodName) prog_7_method_4_code (1 : Nat) (Option.some Jvm.ClassFile.FieldType.boolean) ∈ gwA := gwA_at 415 (by decide +kernel) rfl
theorem gw_416 : Jvm.Cond.methodLink "GraticulePress$Spot" (42 : Nat) ({ cls := "GraticulePress$Spot", name := "isOnSheet", desc := "()Z" } : Jvm.MethodName) ∈ gwA := gwA_at 416 (by decide +kernel) rfl
theorem gw_417 : Jvm.Cond.instanceMethod ({ cls := "GraticulePress$Spot", name := "isOnSheet", desc := "()Z" } : Jvm.MethodName) ∈ gwA := gwA_at 417 (by decide +kernel) rfl
theorem gw_418 : Jvm.Cond.selects "GraticulePress$Spot" ({ cls := "GraticulePress$Spot", name := "isOnSheet", desc := "()Z" } : Jvm.MethodName) ({ cls := "GraticulePress$Spot", name := "isOnSheet", desc := "()Z" } : Jvm.MethodName) ∈ gwA := gwA_at 418 (by decide +kernel) rfl
theorem gw_419 : Jvm.Cond.code ({ cls := "GraticulePress$Spot", name := "isOnSheet", desc := "()Z" } : Jvm.MethodName) prog_7_method_3_code (1 : Nat) (Option.some Jvm.ClassFile.FieldType.boolean) ∈ gwA := gwA_at 419 (by decide +kernel) rfl
theorem gw_420 : Jvm.Cond.methodLink "GraticulePress$Sheet" (80 : Nat) ({ cls := "GraticulePress$Sheet", name := "drawDots", desc := "(LGraticulePress$Grid;)V" } : Jvm.MethodName) ∈ gwA := gwA_at 420 (by decide +kernel) rfl
theorem gw_422 : Jvm.Cond.instanceMethod ({ cls := "GraticulePress$Sheet", name := "drawDots", desc := "(LGraticulePress$Grid;)V" } : Jvm.MethodName) ∈ gwA := gwA_at 422 (by decide +kernel) rfl
theorem gw_423 : Jvm.Cond.code ({ cls := "GraticulePress$Sheet", name := "drawDots", desc := "(LGraticulePress$Grid;)V" } : Jvm.MethodName) prog_5_method_9_code (4 : Nat) (Option.none : Option Jvm.ClassFile.FieldType) ∈ gwA := gwA_at 423 (by decide +kernel) rfl
theorem gw_424 : Jvm.Cond.methodLink "GraticulePress$Sheet" (94 : Nat) ({ cls := "GraticulePress$Grid", name := "clear", desc := "()V" } : Jvm.MethodName) ∈ gwA := gwA_at 424 (by decide +kernel) rfl
theorem gw_425 : Jvm.Cond.instanceMethod ({ cls := "GraticulePress$Grid", name := "clear", desc := "()V" } : Jvm.MethodName) ∈ gwA := gwA_at 425 (by decide +kernel) rfl
theorem gw_426 : Jvm.Cond.selects "GraticulePress$Grid" ({ cls := "GraticulePress$Grid", name := "clear", desc := "()V" } : Jvm.MethodName) ({ cls := "GraticulePress$Grid", name := "clear", desc := "()V" } : Jvm.MethodName) ∈ gwA := gwA_at 426 (by decide +kernel) rfl
theorem gw_427 : Jvm.Cond.code ({ cls := "GraticulePress$Grid", name := "clear", desc := "()V" } : Jvm.MethodName) prog_3_method_2_code (2 : Nat) (Option.none : Option Jvm.ClassFile.FieldType) ∈ gwA := gwA_at 427 (by decide +kernel) rfl
theorem gw_428 : Jvm.Cond.methodLink "GraticulePress$Sheet" (97 : Nat) ({ cls := "GraticulePress$Spot", name := "isOnSheet", desc := "()Z" } : Jvm.MethodName) ∈ gwA := gwA_at 428 (by decide +kernel) rfl
theorem gw_429 : Jvm.Cond.methodLink "GraticulePress$Sheet" (106 : Nat) ({ cls := "GraticulePress$Grid", name := "setSign", desc := "(IIC)V" } : Jvm.MethodName) ∈ gwA := gwA_at 429 (by decide +kernel) rfl
theorem gw_430 : Jvm.Cond.instanceMethod ({ cls := "GraticulePress$Grid", name := "setSign", desc := "(IIC)V" } : Jvm.MethodName) ∈ gwA := gwA_at 430 (by decide +kernel) rfl
theorem gw_431 : Jvm.Cond.selects "GraticulePress$Grid" ({ cls := "GraticulePress$Grid", name := "setSign", desc := "(IIC)V" } : Jvm.MethodName) ({ cls := "GraticulePress$Grid", name := "setSign", desc := "(IIC)V" } : Jvm.MethodName) ∈ gwA := gwA_at 431 (by decide +kernel) rfl
theorem gw_432 : Jvm.Cond.code ({ cls := "GraticulePress$Grid", name := "setSign", desc := "(IIC)V" } : Jvm.MethodName) prog_3_method_5_code (4 : Nat) (Option.none : Option Jvm.ClassFile.FieldType) ∈ gwA := gwA_at 432 (by decide +kernel) rfl
theorem gw_434 : Jvm.Cond.static ({ cls := "GraticulePress", name := "isOnGrid", desc := "(II)Z" } : Jvm.MethodName) ∈ gwA := gwA_at 434 (by decide +kernel) rfl
theorem gw_435 : Jvm.Cond.code ({ cls := "GraticulePress", name := "isOnGrid", desc := "(II)Z" } : Jvm.MethodName) prog_1_method_16_code (2 : Nat) (Option.some Jvm.ClassFile.FieldType.boolean) ∈ gwA := gwA_at 435 (by decide +kernel) rfl
theorem gw_436 : Jvm.Cond.methodLink "GraticulePress$Sheet" (84 : Nat) ({ cls := "GraticulePress$Spot", name := "standAtFirstFree", desc := "(LGraticulePress$Grid;)V" } : Jvm.MethodName) ∈ gwA := gwA_at 436 (by decide +kernel) rfl
theorem gw_437 : Jvm.Cond.instanceMethod ({ cls := "GraticulePress$Spot", name := "standAtFirstFree", desc := "(LGraticulePress$Grid;)V" } : Jvm.MethodName) ∈ gwA := gwA_at 437 (by decide +kernel) rfl
theorem gw_438 : Jvm.Cond.selects "GraticulePress$Spot" ({ cls := "GraticulePress$Spot", name := "standAtFirstFree", desc := "(LGraticulePress$Grid;)V" } : Jvm.MethodName) ({ cls := "GraticulePress$Spot", name := "standAtFirstFree", desc := "(LGraticulePress$Grid;)V" } : Jvm.MethodName) ∈ gwA := gwA_at 438 (by decide +kernel) rfl
theorem gw_439 : Jvm.Cond.code ({ cls := "GraticulePress$Spot", name := "standAtFirstFree", desc := "(LGraticulePress$Grid;)V" } : Jvm.MethodName) prog_7_method_11_code (3 : Nat) (Option.none : Option Jvm.ClassFile.FieldType) ∈ gwA := gwA_at 439 (by decide +kernel) rfl
theorem gw_440 : Jvm.Cond.methodLink "GraticulePress$Spot" (74 : Nat) ({ cls := "GraticulePress$Spot", name := "mayStand", desc := "(LGraticulePress$Grid;I)Z" } : Jvm.MethodName) ∈ gwA := gwA_at 440 (by decide +kernel) rfl
theorem gw_441 : Jvm.Cond.instanceMethod ({ cls := "GraticulePress$Spot", name := "mayStand", desc := "(LGraticulePress$Grid;I)Z" } : Jvm.MethodName) ∈ gwA := gwA_at 441 (by decide +kernel) rfl
theorem gw_442 : Jvm.Cond.selects "GraticulePress$Spot" ({ cls := "GraticulePress$Spot", name := "mayStand", desc := "(LGraticulePress$Grid;I)Z" } : Jvm.MethodName) ({ cls := "GraticulePress$Spot", name := "mayStand", desc := "(LGraticulePress$Grid;I)Z" } : Jvm.MethodName) ∈ gwA := gwA_at 442 (by decide +kernel) rfl
theorem gw_443 : Jvm.Cond.code ({ cls := "GraticulePress$Spot", name := "mayStand", desc := "(LGraticulePress$Grid;I)Z" } : Jvm.MethodName) prog_7_method_8_code (4 : Nat) (Option.some Jvm.ClassFile.FieldType.boolean) ∈ gwA := gwA_at 443 (by decide +kernel) rfl
theorem gw_444 : Jvm.Cond.methodLink "GraticulePress$Spot" (46 : Nat) ({ cls := "java/lang/String", name := "length", desc := "()I" } : Jvm.MethodName) ∈ gwA := gwA_at 444 (by decide +kernel) rfl
theorem gw_445 : Jvm.Cond.instanceMethod ({ cls := "java/lang/String", name := "length", desc := "()I" } : Jvm.MethodName) ∈ gwA := gwA_at 445 (by decide +kernel) rfl
theorem gw_446 : Jvm.Cond.selects "java/lang/String" ({ cls := "java/lang/String", name := "length", desc := "()I" } : Jvm.MethodName) ({ cls := "java/lang/String", name := "length", desc := "()I" } : Jvm.MethodName) ∈ gwA := gwA_at 446 (by decide +kernel) rfl
theorem gw_447 : Jvm.Cond.code ({ cls := "java/lang/String", name := "length", desc := "()I" } : Jvm.MethodName) prog_20_method_54_code (1 : Nat) (Option.some Jvm.ClassFile.FieldType.int) ∈ gwA := gwA_at 447 (by decide +kernel) rfl
theorem gw_448 : Jvm.Cond.methodLink "java/lang/String" (335 : Nat) ({ cls := "java/lang/String", name := "coder", desc := "()B" } : Jvm.MethodName) ∈ gwA := gwA_at 448 (by decide +kernel) rfl
theorem gw_449 : Jvm.Cond.instanceMethod ({ cls := "java/lang/String", name := "coder", desc := "()B" } : Jvm.MethodName) ∈ gwA := gwA_at 449 (by decide +kernel) rfl
theorem gw_450 : Jvm.Cond.selects "java/lang/String" ({ cls := "java/lang/String", name := "coder", desc := "()B" } : Jvm.MethodName) ({ cls := "java/lang/String", name := "coder", desc := "()B" } : Jvm.MethodName) ∈ gwA := gwA_at 450 (by decide +kernel) rfl
theorem gw_451 : Jvm.Cond.code ({ cls := "java/lang/String", name := "coder", desc := "()B" } : Jvm.MethodName) prog_20_method_152_code (1 : Nat) (Option.some Jvm.ClassFile.FieldType.byte) ∈ gwA := gwA_at 451 (by decide +kernel) rfl
theorem gw_453 : Jvm.Cond.methodLink "GraticulePress$Spot" (52 : Nat) ({ cls := "GraticulePress$Spot", name := "rowAt", desc := "(I)I" } : Jvm.MethodName) ∈ gwA := gwA_at 453 (by decide +kernel) rfl
theorem gw_455 : Jvm.Cond.instanceMethod ({ cls := "GraticulePress$Spot", name := "rowAt", desc := "(I)I" } : Jvm.MethodName) ∈ gwA := gwA_at 455 (by decide +kernel) rfl
theorem gw_456 : Jvm.Cond.code ({ cls := "GraticulePress$Spot", name := "rowAt", desc := "(I)I" } : Jvm.MethodName) prog_7_method_6_code (2 : Nat) (Option.some Jvm.ClassFile.FieldType.int) ∈ gwA := gwA_at 456 (by decide +kernel) rfl
theorem gw_457 : Jvm.Cond.methodLink "GraticulePress$Spot" (56 : Nat) ({ cls := "GraticulePress$Spot", name := "firstColumnAt", desc := "(II)I" } : Jvm.MethodName) ∈ gwA := gwA_at 457 (by decide +kernel) rfl
theorem gw_459 : Jvm.Cond.instanceMethod ({ cls := "GraticulePress$Spot", name := "firstColumnAt", desc := "(II)I" } : Jvm.MethodName) ∈ gwA := gwA_at 459 (by decide +kernel) rfl
theorem gw_460 : Jvm.Cond.code ({ cls := "GraticulePress$Spot", name := "firstColumnAt", desc := "(II)I" } : Jvm.MethodName) prog_7_method_7_code (3 : Nat) (Option.some Jvm.ClassFile.FieldType.int) ∈ gwA := gwA_at 460 (by decide +kernel) rfl
theorem gw_461 : Jvm.Cond.methodLink "GraticulePress$Spot" (60 : Nat) ({ cls := "GraticulePress$Grid", name := "isFree", desc := "(III)Z" } : Jvm.MethodName) ∈ gwA := gwA_at 461 (by decide +kernel) rfl
theorem gw_462 : Jvm.Cond.instanceMethod ({ cls := "GraticulePress$Grid", name := "isFree", desc := "(III)Z" } : Jvm.MethodName) ∈ gwA := gwA_at 462 (by decide +kernel) rfl
theorem gw_463 : Jvm.Cond.selects "GraticulePress$Grid" ({ cls := "GraticulePress$Grid", name := "isFree", desc := "(III)Z" } : Jvm.MethodName) ({ cls := "GraticulePress$Grid", name := "isFree", desc := "(III)Z" } : Jvm.MethodName) ∈ gwA := gwA_at 463 (by decide +kernel) rfl
theorem gw_464 : Jvm.Cond.code ({ cls := "GraticulePress$Grid", name := "isFree", desc := "(III)Z" } : Jvm.MethodName) prog_3_method_8_code (5 : Nat) (Option.some Jvm.ClassFile.FieldType.boolean) ∈ gwA := gwA_at 464 (by decide +kernel) rfl
theorem gw_465 : Jvm.Cond.methodLink "GraticulePress$Grid" (33 : Nat) ({ cls := "GraticulePress$Grid", name := "signAt", desc := "(II)C" } : Jvm.MethodName) ∈ gwA := gwA_at 465 (by decide +kernel) rfl
theorem gw_466 : Jvm.Cond.instanceMethod ({ cls := "GraticulePress$Grid", name := "signAt", desc := "(II)C" } : Jvm.MethodName) ∈ gwA := gwA_at 466 (by decide +kernel) rfl
theorem gw_467 : Jvm.Cond.selects "GraticulePress$Grid" ({ cls := "GraticulePress$Grid", name := "signAt", desc := "(II)C" } : Jvm.MethodName) ({ cls := "GraticulePress$Grid", name := "signAt", desc := "(II)C" } : Jvm.MethodName) ∈ gwA := gwA_at 467 (by decide +kernel) rfl
theorem gw_468 : Jvm.Cond.code ({ cls := "GraticulePress$Grid", name := "signAt", desc := "(II)C" } : Jvm.MethodName) prog_3_method_4_code (3 : Nat) (Option.some Jvm.ClassFile.FieldType.char) ∈ gwA := gwA_at 468 (by decide +kernel) rfl
theorem gw_469 : Jvm.Cond.methodLink "GraticulePress$Spot" (78 : Nat) ({ cls := "GraticulePress$Spot", name := "write", desc := "(LGraticulePress$Grid;I)V" } : Jvm.MethodName) ∈ gwA := gwA_at 469 (by decide +kernel) rfl
theorem gw_470 : Jvm.Cond.instanceMethod ({ cls := "GraticulePress$Spot", name := "write", desc := "(LGraticulePress$Grid;I)V" } : Jvm.MethodName) ∈ gwA := gwA_at 470 (by decide +kernel) rfl
theorem gw_471 : Jvm.Cond.selects "GraticulePress$Spot" ({ cls := "GraticulePress$Spot", name := "write", desc := "(LGraticulePress$Grid;I)V" } : Jvm.MethodName) ({ cls := "GraticulePress$Spot", name := "write", desc := "(LGraticulePress$Grid;I)V" } : Jvm.MethodName) ∈ gwA := gwA_at 471 (by decide +kernel) rfl
theorem gw_472 : Jvm.Cond.code ({ cls := "GraticulePress$Spot", name := "write", desc := "(LGraticulePress$Grid;I)V" } : Jvm.MethodName) prog_7_method_9_code (3 : Nat) (Option.none : Option Jvm.ClassFile.FieldType) ∈ gwA := gwA_at 472 (by decide +kernel) rfl
theorem gw_473 : Jvm.Cond.methodLink "GraticulePress$Spot" (66 : Nat) ({ cls := "GraticulePress$Grid", name := "write", desc := "(IILjava/lang/String;)V" } : Jvm.MethodName) ∈ gwA := gwA_at 473 (by decide +kernel) rfl
theorem gw_474 : Jvm.Cond.instanceMethod ({ cls := "GraticulePress$Grid", name := "write", desc := "(IILjava/lang/String;)V" } : Jvm.MethodName) ∈ gwA := gwA_at 474 (by decide +kernel) rfl
theorem gw_475 : Jvm.Cond.selects "GraticulePress$Grid" ({ cls := "GraticulePress$Grid", name := "write", desc := "(IILjava/lang/String;)V" } : Jvm.MethodName) ({ cls := "GraticulePress$Grid", name := "write", desc := "(IILjava/lang/String;)V" } : Jvm.MethodName) ∈ gwA := gwA_at 475 (by decide +kernel) rfl
theorem gw_476 : Jvm.Cond.code ({ cls := "GraticulePress$Grid", name := "write", desc := "(IILjava/lang/String;)V" } : Jvm.MethodName) prog_3_method_6_code (5 : Nat) (Option.none : Option Jvm.ClassFile.FieldType) ∈ gwA := gwA_at 476 (by decide +kernel) rfl
theorem gw_477 : Jvm.Cond.methodLink "GraticulePress$Grid" (19 : Nat) ({ cls := "java/lang/String", name := "length", desc := "()I" } : Jvm.MethodName) ∈ gwA := gwA_at 477 (by decide +kernel) rfl
theorem gw_478 : Jvm.Cond.methodLink "GraticulePress$Grid" (25 : Nat) ({ cls := "java/lang/String", name := "charAt", desc := "(I)C" } : Jvm.MethodName) ∈ gwA := gwA_at 478 (by decide +kernel) rfl
theorem gw_479 : Jvm.Cond.instanceMethod ({ cls := "java/lang/String", name := "charAt", desc := "(I)C" } : Jvm.MethodName) ∈ gwA := gwA_at 479 (by decide +kernel) rfl
theorem gw_480 : Jvm.Cond.selects "java/lang/String" ({ cls := "java/lang/String", name := "charAt", desc := "(I)C" } : Jvm.MethodName) ({ cls := "java/lang/String", name := "charAt", desc := "(I)C" } : Jvm.MethodName) ∈ gwA := gwA_at 480 (by decide +kernel) rfl
theorem gw_481 : Jvm.Cond.code ({ cls := "java/lang/String", name := "charAt", desc := "(I)C" } : Jvm.MethodName) prog_20_method_56_code (2 : Nat) (Option.some Jvm.ClassFile.FieldType.char) ∈ gwA := gwA_at 481 (by decide +kernel) rfl
theorem gw_482 : Jvm.Cond.methodLink "java/lang/String" (492 : Nat) ({ cls := "java/lang/String", name := "isLatin1", desc := "()Z" } : Jvm.MethodName) ∈ gwA := gwA_at 482 (by decide +kernel) rfl
theorem gw_483 : Jvm.Cond.instanceMethod ({ cls := "java/lang/String", name := "isLatin1", desc := "()Z" } : Jvm.MethodName) ∈ gwA := gwA_at 483 (by decide +kernel) rfl
theorem gw_484 : Jvm.Cond.selects "java/lang/String" ({ cls := "java/lang/String", name := "isLatin1", desc := "()Z" } : Jvm.MethodName) ({ cls := "java/lang/String", name := "isLatin1", desc := "()Z" } : Jvm.MethodName) ∈ gwA := gwA_at 484 (by decide +kernel) rfl
theorem gw_485 : Jvm.Cond.code ({ cls := "java/lang/String", name := "isLatin1", desc := "()Z" } : Jvm.MethodName) prog_20_method_154_code (1 : Nat) (Option.some Jvm.ClassFile.FieldType.boolean) ∈ gwA := gwA_at 485 (by decide +kernel) rfl
theorem gw_486 : Jvm.Cond.methodLink "java/lang/String" (495 : Nat) ({ cls := "java/lang/StringLatin1", name := "charAt", desc := "([BI)C" } : Jvm.MethodName) ∈ gwA := gwA_at 486 (by decide +kernel) rfl
theorem gw_487 : Jvm.Cond.static ({ cls := "java/lang/StringLatin1", name := "charAt", desc := "([BI)C" } : Jvm.MethodName) ∈ gwA := gwA_at 487 (by decide +kernel) rfl
theorem gw_488 : Jvm.Cond.code ({ cls := "java/lang/StringLatin1", name := "charAt", desc := "([BI)C" } : Jvm.MethodName) prog_23_method_2_code (2 : Nat) (Option.some Jvm.ClassFile.FieldType.char) ∈ gwA := gwA_at 488 (by decide +kernel) rfl
theorem gw_489 : Jvm.Cond.methodLink "java/lang/StringLatin1" (9 : Nat) ({ cls := "java/lang/String", name := "checkIndex", desc := "(II)V" } : Jvm.MethodName) ∈ gwA := gwA_at 489 (by decide +kernel) rfl
theorem gw_490 : Jvm.Cond.methodLink "java/lang/String" (498 : Nat) ({ cls := "java/lang/StringUTF16", name := "charAt", desc := "([BI)C" } : Jvm.MethodName) ∈ gwA := gwA_at 490 (by decide +kernel) rfl
theorem gw_491 : Jvm.Cond.static ({ cls := "java/lang/StringUTF16", name := "charAt", desc := "([BI)C" } : Jvm.MethodName) ∈ gwA := gwA_at 491 (by decide +kernel) rfl
theorem gw_492 : Jvm.Cond.code ({ cls := "java/lang/StringUTF16", name := "charAt", desc := "([BI)C" } : Jvm.MethodName) prog_24_method_83_code (2 : Nat) (Option.some Jvm.ClassFile.FieldType.char) ∈ gwA := gwA_at 492 (by decide +kernel) rfl
theorem gw_493 : Jvm.Cond.methodLink "java/lang/StringUTF16" (71 : Nat) ({ cls := "java/lang/StringUTF16", name := "getChar", desc := "([BI)C" } : Jvm.MethodName) ∈ gwA := gwA_at 493 (by decide +kernel) rfl
theorem gw_494 : Jvm.Cond.static ({ cls := "java/lang/StringUTF16", name := "getChar", desc := "([BI)C" } : Jvm.MethodName) ∈ gwA := gwA_at 494 (by decide +kernel) rfl
theorem gw_495 : Jvm.Cond.code ({ cls := "java/lang/StringUTF16", name := "getChar", desc := "([BI)C" } : Jvm.MethodName) prog_24_method_5_code (2 : Nat) (Option.some Jvm.ClassFile.FieldType.char) ∈ gwA := gwA_at 495 (by decide +kernel) rfl
theorem gw_496 : Jvm.Cond.methodLink "GraticulePress$Grid" (29 : Nat) ({ cls := "GraticulePress$Grid", name := "setSign", desc := "(IIC)V" } : Jvm.MethodName) ∈ gwA := gwA_at 496 (by decide +kernel) rfl
theorem gw_501 : Jvm.Cond.methodLink "GraticulePressLaw" (21 : Nat) ({ cls := "GraticulePress", name := "name", desc := "(I)I" } : Jvm.MethodName) ∈ gwA := gwA_at 501 (by decide +kernel) rfl
theorem gw_502 : Jvm.Cond.instanceMethod ({ cls := "GraticulePress", name := "name", desc := "(I)I" } : Jvm.MethodName) ∈ gwA := gwA_at 502 (by decide +kernel) rfl
theorem gw_503 : Jvm.Cond.selects "GraticulePress" ({ cls := "GraticulePress", name := "name", desc := "(I)I" } : Jvm.MethodName) ({ cls := "GraticulePress", name := "name", desc := "(I)I" } : Jvm.MethodName) ∈ gwA := gwA_at 503 (by decide +kernel) rfl
theorem gw_504 : Jvm.Cond.code ({ cls := "GraticulePress", name := "name", desc := "(I)I" } : Jvm.MethodName) prog_1_method_4_code (3 : Nat) (Option.some Jvm.ClassFile.FieldType.int) ∈ gwA := gwA_at 504 (by decide +kernel) rfl
theorem gw_505 : Jvm.Cond.methodLink "GraticulePress" (82 : Nat) ({ cls := "GraticulePress", name := "placeNumbered", desc := "(I)LGraticulePress$Place;" } : Jvm.MethodName) ∈ gwA := gwA_at 505 (by decide +kernel) rfl
theorem gw_507 : Jvm.Cond.instanceMethod ({ cls := "GraticulePress", name := "placeNumbered", desc := "(I)LGraticulePress$Place;" } : Jvm.MethodName) ∈ gwA := gwA_at 507 (by decide +kernel) rfl
theorem gw_508 : Jvm.Cond.code ({ cls := "GraticulePress", name := "placeNumbered", desc := "(I)LGraticulePress$Place;" } : Jvm.MethodName) prog_1_method_17_code (2 : Nat) (Option.some (Jvm.ClassFile.FieldType.object "GraticulePress$Place")) ∈ gwA := gwA_at 508 (by decide +kernel) rfl
theorem gw_509 : Jvm.Cond.classLink "GraticulePress" (115 : Nat) "java/lang/IndexOutOfBoundsException" ∈ gwA := gwA_at 509 (by decide +kernel) rfl
theorem gw_526 : Jvm.Cond.methodLink "GraticulePress" (88 : Nat) ({ cls := "GraticulePress$Place", name := "isToldOut", desc := "()Z" } : Jvm.MethodName) ∈ gwA := gwA_at 526 (by decide +kernel) rfl
theorem gw_527 : Jvm.Cond.instanceMethod ({ cls := "GraticulePress$Place", name := "isToldOut", desc := "()Z" } : Jvm.MethodName) ∈ gwA := gwA_at 527 (by decide +kernel) rfl
theorem gw_528 : Jvm.Cond.selects "GraticulePress$Place" ({ cls := "GraticulePress$Place", name := "isToldOut", desc := "()Z" } : Jvm.MethodName) ({ cls := "GraticulePress$Place", name := "isToldOut", desc := "()Z" } : Jvm.MethodName) ∈ gwA := gwA_at 528 (by decide +kernel) rfl
theorem gw_529 : Jvm.Cond.code ({ cls := "GraticulePress$Place", name := "isToldOut", desc := "()Z" } : Jvm.MethodName) prog_4_method_2_code (1 : Nat) (Option.some Jvm.ClassFile.FieldType.boolean) ∈ gwA := gwA_at 529 (by decide +kernel) rfl
theorem gw_531 : Jvm.Cond.classLink "GraticulePress" (94 : Nat) "GraticulePress$Spelling" ∈ gwA := gwA_at 531 (by decide +kernel) rfl
theorem gw_532 : Jvm.Cond.instantiable "GraticulePress$Spelling" (2 : Nat) ∈ gwA := gwA_at 532 (by decide +kernel) rfl
theorem gw_533 : Jvm.Cond.methodLink "GraticulePress" (96 : Nat) ({ cls := "java/lang/StringBuilder", name := "toString", desc := "()Ljava/lang/String;" } : Jvm.MethodName) ∈ gwA := gwA_at 533 (by decide +kernel) rfl
theorem gw_534 : Jvm.Cond.instanceMethod ({ cls := "java/lang/StringBuilder", name := "toString", desc := "()Ljava/lang/String;" } : Jvm.MethodName) ∈ gwA := gwA_at 534 (by decide +kernel) rfl
theorem gw_535 : Jvm.Cond.selects "java/lang/StringBuilder" ({ cls := "java/lang/StringBuilder", name := "toString", desc := "()Ljava/lang/String;" } : Jvm.MethodName) ({ cls := "java/lang/StringBuilder", name := "toString", desc := "()Ljava/lang/String;" } : Jvm.MethodName) ∈ gwA := gwA_at 535 (by decide +kernel) rfl
theorem gw_536 : Jvm.Cond.code ({ cls := "java/lang/StringBuilder", name := "toString", desc := "()Ljava/lang/String;" } : Jvm.MethodName) prog_21_method_42_code (1 : Nat) (Option.some (Jvm.ClassFile.FieldType.object "java/lang/String")) ∈ gwA := gwA_at 536 (by decide +kernel) rfl
theorem gw_537 : Jvm.Cond.classLink "java/lang/StringBuilder" (18 : Nat) "java/lang/String" ∈ gwA := gwA_at 537 (by decide +kernel) rfl
theorem gw_538 : Jvm.Cond.instantiable "java/lang/String" (4 : Nat) ∈ gwA := gwA_at 538 (by decide +kernel) rfl
theorem gw_539 : Jvm.Cond.methodLink "java/lang/StringBuilder" (137 : Nat) ({ cls := "java/lang/String", name := "<init>", desc := "(Ljava/lang/StringBuilder;)V" } : Jvm.MethodName) ∈ gwA := gwA_at 539 (by decide +kernel) rfl
theorem gw_540 : Jvm.Cond.instanceMethod ({ cls := "java/lang/String", name := "<init>", desc := "(Ljava/lang/StringBuilder;)V" } : Jvm.MethodName) ∈ gwA := gwA_at 540 (by decide +kernel) rfl
theorem gw_541 : Jvm.Cond.code ({ cls := "java/lang/String", name := "<init>", desc := "(Ljava/lang/StringBuilder;)V" } : Jvm.MethodName) prog_20_method_53_code (2 : Nat) (Option.none : Option Jvm.ClassFile.FieldType) ∈ gwA := gwA_at 541 (by decide +kernel) rfl
theorem gw_542 : Jvm.Cond.methodLink "java/lang/String" (489 : Nat) ({ cls := "java/lang/String", name := "<init>", desc := "(Ljava/lang/AbstractStringBuilder;Ljava/lang/Void;)V" } : Jvm.MethodName) ∈ gwA := gwA_at 542 (by decide +kernel) rfl
theorem gw_543 : Jvm.Cond.instanceMethod ({ cls := "java/lang/String", name := "<init>", desc := "(Ljava/lang/AbstractStringBuilder;Ljava/lang/Void;)V" } : Jvm.MethodName) ∈ gwA := gwA_at 543 (by decide +kernel) rfl
theorem gw_544 : Jvm.Cond.code ({ cls := "java/lang/String", name := "<init>", desc := "(Ljava/lang/AbstractStringBuilder;Ljava/lang/Void;)V" } : Jvm.MethodName) prog_20_method_150_code (5 : Nat) (Option.none : Option Jvm.ClassFile.FieldType) ∈ gwA := gwA_at 544 (by decide +kernel) rfl
theorem gw_545 : Jvm.Cond.methodLink "java/lang/String" (1 : Nat) ({ cls := "java/lang/Object", name := "<init>", desc := "()V" } : Jvm.MethodName) ∈ gwA := gwA_at 545 (by decide +kernel) rfl
theorem gw_546 : Jvm.Cond.methodLink "java/lang/String" (552 : Nat) ({ cls := "java/lang/AbstractStringBuilder", name := "getValue", desc := "()[B" } : Jvm.MethodName) ∈ gwA := gwA_at 546 (by decide +kernel) rfl
theorem gw_550 : Jvm.Cond.code ({ cls := "java/lang/AbstractStringBuilder", name := "getValue", desc := "()[B" } : Jvm.MethodName) prog_10_method_64_code (1 : Nat) (Option.some (Jvm.ClassFile.FieldType.array Jvm.ClassFile.FieldType.byte)) ∈ gwA := gwA_at 550 (by decide +kernel) rfl
theorem gw_551 : Jvm.Cond.methodLink "java/lang/String" (549 : Nat) ({ cls := "java/lang/AbstractStringBuilder", name := "length", desc := "()I" } : Jvm.MethodName) ∈ gwA := gwA_at 551 (by decide +kernel) rfl
theorem gw_552 : Jvm.Cond.methodLink "java/lang/String" (1047 : Nat) ({ cls := "java/lang/AbstractStringBuilder", name := "isLatin1", desc := "()Z" } : Jvm.MethodName) ∈ gwA := gwA_at 552 (by decide +kernel) rfl
theorem gw_553 : Jvm.Cond.methodLink "java/lang/String" (54 : Nat) ({ cls := "java/util/Arrays", name := "copyOfRange", desc := "([BII)[B" } : Jvm.MethodName) ∈ gwA := gwA_at 553 (by decide +kernel) rfl
theorem gw_554 : Jvm.Cond.static ({ cls := "java/util/Arrays", name := "copyOfRange", desc := "([BII)[B" } : Jvm.MethodName) ∈ gwA := gwA_at 554 (by decide +kernel) rfl
theorem gw_555 : Jvm.Cond.code ({ cls := "java/util/Arrays", name := "copyOfRange", desc := "([BII)[B" } : Jvm.MethodName) prog_27_method_132_code (3 : Nat) (Option.some (Jvm.ClassFile.FieldType.array Jvm.ClassFile.FieldType.byte)) ∈ gwA := gwA_at 555 (by decide +kernel) rfl
theorem gw_556 : Jvm.Cond.methodLink "java/util/Arrays" (339 : Nat) ({ cls := "java/util/Arrays", name := "copyOfRangeByte", desc := "([BII)[B" } : Jvm.MethodName) ∈ gwA := gwA_at 556 (by decide +kernel) rfl
theorem gw_557 : Jvm.Cond.static ({ cls := "java/util/Arrays", name := "copyOfRangeByte", desc := "([BII)[B" } : Jvm.MethodName) ∈ gwA := gwA_at 557 (by decide +kernel) rfl
theorem gw_558 : Jvm.Cond.code ({ cls := "java/util/Arrays", name := "copyOfRangeByte", desc := "([BII)[B" } : Jvm.MethodName) prog_27_method_133_code (5 : Nat) (Option.some (Jvm.ClassFile.FieldType.array Jvm.ClassFile.FieldType.byte)) ∈ gwA := gwA_at 558 (by decide +kernel) rfl
theorem gw_559 : Jvm.Cond.methodLink "java/util/Arrays" (343 : Nat) ({ cls := "java/util/Arrays", name := "checkLength", desc := "(II)V" } : Jvm.MethodName) ∈ gwA := gwA_at 559 (by decide +kernel) rfl
theorem gw_560 : Jvm.Cond.static ({ cls := "java/util/Arrays", name := "checkLength", desc := "(II)V" } : Jvm.MethodName) ∈ gwA := gwA_at 560 (by decide +kernel) rfl
theorem gw_561 : Jvm.Cond.code ({ cls := "java/util/Arrays", name := "checkLength", desc := "(II)V" } : Jvm.MethodName) prog_27_method_131_code (2 : Nat) (Option.none : Option Jvm.ClassFile.FieldType) ∈ gwA := gwA_at 561 (by decide +kernel) rfl
theorem gw_563 : Jvm.Cond.classLink "java/util/Arrays" (45 : Nat) "java/lang/StringBuilder" ∈ gwA := gwA_at 563 (by decide +kernel) rfl
theorem gw_564 : Jvm.Cond.methodLink "java/util/Arrays" (47 : Nat) ({ cls := "java/lang/StringBuilder", name := "<init>", desc := "()V" } : Jvm.MethodName) ∈ gwA := gwA_at 564 (by decide +kernel) rfl
theorem gw_565 : Jvm.Cond.methodLink "java/util/Arrays" (54 : Nat) ({ cls := "java/lang/StringBuilder", name := "append", desc := "(I)Ljava/lang/StringBuilder;" } : Jvm.MethodName) ∈ gwA := gwA_at 565 (by decide +kernel) rfl
theorem gw_566 : Jvm.Cond.instanceMethod ({ cls := "java/lang/StringBuilder", name := "append", desc := "(I)Ljava/lang/StringBuilder;" } : Jvm.MethodName) ∈ gwA := gwA_at 566 (by decide +kernel) rfl
theorem gw_567 : Jvm.Cond.selects "java/lang/StringBuilder" ({ cls := "java/lang/StringBuilder", name := "append", desc := "(I)Ljava/lang/StringBuilder;" } : Jvm.MethodName) ({ cls := "java/lang/StringBuilder", name := "append", desc := "(I)Ljava/lang/StringBuilder;" } : Jvm.MethodName) ∈ gwA := gwA_at 567 (by decide +kernel) rfl
theorem gw_568 : Jvm.Cond.code ({ cls := "java/lang/StringBuilder", name := "append", desc := "(I)Ljava/lang/StringBuilder;" } : Jvm.MethodName) prog_21_method_15_code (2 : Nat) (Option.some (Jvm.ClassFile.FieldType.object "java/lang/StringBuilder")) ∈ gwA := gwA_at 568 (by decide +kernel) rfl
theorem gw_569 : Jvm.Cond.methodLink "java/lang/StringBuilder" (53 : Nat) ({ cls := "java/lang/AbstractStringBuilder", name := "append", desc := "(I)Ljava/lang/AbstractStringBuilder;" } : Jvm.MethodName) ∈ gwA := gwA_at 569 (by decide +kernel) rfl
theorem gw_571 : Jvm.Cond.code ({ cls := "java/lang/AbstractStringBuilder", name := "append", desc := "(I)Ljava/lang/AbstractStringBuilder;" } : Jvm.MethodName) prog_10_method_32_code (4 : Nat) (Option.some (Jvm.ClassFile.FieldType.object "java/lang/AbstractStringBuilder")) ∈ gwA := gwA_at 571 (by decide +kernel) rfl
theorem gw_572 : Jvm.Cond.methodLink "java/lang/AbstractStringBuilder" (245 : Nat) ({ cls := "java/lang/Integer", name := "stringSize", desc := "(I)I" } : Jvm.MethodName) ∈ gwA := gwA_at 572 (by decide +kernel) rfl
theorem gw_573 : Jvm.Cond.static ({ cls := "java/lang/Integer", name := "stringSize", desc := "(I)I" } : Jvm.MethodName) ∈ gwA := gwA_at 573 (by decide +kernel) rfl
theorem gw_574 : Jvm.Cond.code ({ cls := "java/lang/Integer", name := "stringSize", desc := "(I)I" } : Jvm.MethodName) prog_17_method_13_code (4 : Nat) (Option.some Jvm.ClassFile.FieldType.int) ∈ gwA := gwA_at 574 (by decide +kernel) rfl
theorem gw_575 : Jvm.Cond.methodLink "java/lang/AbstractStringBuilder" (248 : Nat) ({ cls := "java/lang/Integer", name := "getChars", desc := "(II[B)I" } : Jvm.MethodName) ∈ gwA := gwA_at 575 (by decide +kernel) rfl
theorem gw_576 : Jvm.Cond.static ({ cls := "java/lang/Integer", name := "getChars", desc := "(II[B)I" } : Jvm.MethodName) ∈ gwA := gwA_at 576 (by decide +kernel) rfl
theorem gw_577 : Jvm.Cond.code ({ cls := "java/lang/Integer", name := "getChars", desc := "(II[B)I" } : Jvm.MethodName) prog_17_method_12_code (7 : Nat) (Option.some Jvm.ClassFile.FieldType.int) ∈ gwA := gwA_at 577 (by decide +kernel) rfl
theorem gw_582 : Jvm.Cond.methodLink "java/lang/AbstractStringBuilder" (251 : Nat) ({ cls := "java/lang/StringUTF16", name := "getChars", desc := "(III[B)I" } : Jvm.MethodName) ∈ gwA := gwA_at 582 (by decide +kernel) rfl
theorem gw_583 : Jvm.Cond.static ({ cls := "java/lang/StringUTF16", name := "getChars", desc := "(III[B)I" } : Jvm.MethodName) ∈ gwA := gwA_at 583 (by decide +kernel) rfl
theorem gw_584 : Jvm.Cond.code ({ cls := "java/lang/StringUTF16", name := "getChars", desc := "(III[B)I" } : Jvm.MethodName) prog_24_method_77_code (5 : Nat) (Option.some Jvm.ClassFile.FieldType.int) ∈ gwA := gwA_at 584 (by decide +kernel) rfl
theorem gw_585 : Jvm.Cond.methodLink "java/lang/StringUTF16" (96 : Nat) ({ cls := "java/lang/StringUTF16", name := "checkBoundsBeginEnd", desc := "(II[B)V" } : Jvm.MethodName) ∈ gwA := gwA_at 585 (by decide +kernel) rfl
theorem gw_586 : Jvm.Cond.static ({ cls := "java/lang/StringUTF16", name := "checkBoundsBeginEnd", desc := "(II[B)V" } : Jvm.MethodName) ∈ gwA := gwA_at 586 (by decide +kernel) rfl
theorem gw_587 : Jvm.Cond.code ({ cls := "java/lang/StringUTF16", name := "checkBoundsBeginEnd", desc := "(II[B)V" } : Jvm.MethodName) prog_24_method_93_code (3 : Nat) (Option.none : Option Jvm.ClassFile.FieldType) ∈ gwA := gwA_at 587 (by decide +kernel) rfl
theorem gw_588 : Jvm.Cond.methodLink "java/lang/StringUTF16" (241 : Nat) ({ cls := "java/lang/String", name := "checkBoundsBeginEnd", desc := "(III)V" } : Jvm.MethodName) ∈ gwA := gwA_at 588 (by decide +kernel) rfl
theorem gw_589 : Jvm.Cond.static ({ cls := "java/lang/String", name := "checkBoundsBeginEnd", desc := "(III)V" } : Jvm.MethodName) ∈ gwA := gwA_at 589 (by decide +kernel) rfl
theorem gw_590 : Jvm.Cond.code ({ cls := "java/lang/String", name := "checkBoundsBeginEnd", desc := "(III)V" } : Jvm.MethodName) prog_20_method_158_code (3 : Nat) (Option.none : Option Jvm.ClassFile.FieldType) ∈ gwA := gwA_at 590 (by decide +kernel) rfl
theorem gw_591 : Jvm.Cond.methodLink "java/lang/String" (1062 : Nat) ({ cls := "jdk/internal/util/Preconditions", name := "checkFromToIndex", desc := "(IIILjava/util/function/BiFunction;)I" } : Jvm.MethodName) ∈ gwA := gwA_at 591 (by decide +kernel) rfl
theorem gw_592 : Jvm.Cond.static ({ cls := "jdk/internal/util/Preconditions", name := "checkFromToIndex", desc := "(IIILjava/util/function/BiFunction;)I" } : Jvm.MethodName) ∈ gwA := gwA_at 592 (by decide +kernel) rfl
theorem gw_593 : Jvm.Cond.code ({ cls := "jdk/internal/util/Preconditions", name := "checkFromToIndex", desc := "(IIILjava/util/function/BiFunction;)I" } : Jvm.MethodName) prog_29_method_12_code (4 : Nat) (Option.some Jvm.ClassFile.FieldType.int) ∈ gwA := gwA_at 593 (by decide +kernel) rfl
theorem gw_594 : Jvm.Cond.methodLink "java/lang/StringUTF16" (393 : Nat) ({ cls := "java/lang/StringUTF16", name := "getChars", desc := "(II[B)I" } : Jvm.MethodName) ∈ gwA := gwA_at 594 (by decide +kernel) rfl
theorem gw_595 : Jvm.Cond.static ({ cls := "java/lang/StringUTF16", name := "getChars", desc := "(II[B)I" } : Jvm.MethodName) ∈ gwA := gwA_at 595 (by decide +kernel) rfl
theorem gw_596 : Jvm.Cond.code ({ cls := "java/lang/StringUTF16", name := "getChars", desc := "(II[B)I" } : Jvm.MethodName) prog_24_method_89_code (7 : Nat) (Option.some Jvm.ClassFile.FieldType.int) ∈ gwA := gwA_at 596 (by decide +kernel) rfl
theorem gw_600 : Jvm.Cond.methodLink "java/util/Arrays" (50 : Nat) ({ cls := "java/lang/StringBuilder", name := "append", desc := "(Ljava/lang/String;)Ljava/lang/StringBuilder;" } : Jvm.MethodName) ∈ gwA := gwA_at 600 (by decide +kernel) rfl
theorem gw_601 : Jvm.Cond.instanceMethod ({ cls := "java/lang/StringBuilder", name := "append", desc := "(Ljava/lang/String;)Ljava/lang/StringBuilder;" } : Jvm.MethodName) ∈ gwA := gwA_at 601 (by decide +kernel) rfl
theorem gw_602 : Jvm.Cond.selects "java/lang/StringBuilder" ({ cls := "java/lang/StringBuilder", name := "append", desc := "(Ljava/lang/String;)Ljava/lang/StringBuilder;" } : Jvm.MethodName) ({ cls := "java/lang/StringBuilder", name := "append", desc := "(Ljava/lang/String;)Ljava/lang/StringBuilder;" } : Jvm.MethodName) ∈ gwA := gwA_at 602 (by decide +kernel) rfl
theorem gw_603 : Jvm.Cond.code ({ cls := "java/lang/StringBuilder", name := "append", desc := "(Ljava/lang/String;)Ljava/lang/StringBuilder;" } : Jvm.MethodName) prog_21_method_7_code (2 : Nat) (Option.some (Jvm.ClassFile.FieldType.object "java/lang/StringBuilder")) ∈ gwA := gwA_at 603 (by decide +kernel) rfl
theorem gw_604 : Jvm.Cond.methodLink "java/lang/StringBuilder" (29 : Nat) ({ cls := "java/lang/AbstractStringBuilder", name := "append", desc := "(Ljava/lang/String;)Ljava/lang/AbstractStringBuilder;" } : Jvm.MethodName) ∈ gwA := gwA_at 604 (by decide +kernel) rfl
theorem gw_606 : Jvm.Cond.code ({ cls := "java/lang/AbstractStringBuilder", name := "append", desc := "(Ljava/lang/String;)Ljava/lang/AbstractStringBuilder;" } : Jvm.MethodName) prog_10_method_22_code (3 : Nat) (Option.some (Jvm.ClassFile.FieldType.object "java/lang/AbstractStringBuilder")) ∈ gwA := gwA_at 606 (by decide +kernel) rfl
theorem gw_607 : Jvm.Cond.methodLink "java/lang/AbstractStringBuilder" (204 : Nat) ({ cls := "java/lang/AbstractStringBuilder", name := "appendNull", desc := "()Ljava/lang/AbstractStringBuilder;" } : Jvm.MethodName) ∈ gwA := gwA_at 607 (by decide +kernel) rfl
theorem gw_610 : Jvm.Cond.code ({ cls := "java/lang/AbstractStringBuilder", name := "appendNull", desc := "()Ljava/lang/AbstractStringBuilder;" } : Jvm.MethodName) prog_10_method_26_code (3 : Nat) (Option.some (Jvm.ClassFile.FieldType.object "java/lang/AbstractStringBuilder")) ∈ gwA := gwA_at 610 (by decide +kernel) rfl
theorem gw_611 : Jvm.Cond.methodLink "java/lang/AbstractStringBuilder" (226 : Nat) ({ cls := "java/lang/StringUTF16", name := "putCharsAt", desc := "([BICCCC)I" } : Jvm.MethodName) ∈ gwA := gwA_at 611 (by decide +kernel) rfl
theorem gw_612 : Jvm.Cond.static ({ cls := "java/lang/StringUTF16", name := "putCharsAt", desc := "([BICCCC)I" } : Jvm.MethodName) ∈ gwA := gwA_at 612 (by decide +kernel) rfl
theorem gw_613 : Jvm.Cond.code ({ cls := "java/lang/StringUTF16", name := "putCharsAt", desc := "([BICCCC)I" } : Jvm.MethodName) prog_24_method_81_code (7 : Nat) (Option.some Jvm.ClassFile.FieldType.int) ∈ gwA := gwA_at 613 (by decide +kernel) rfl
theorem gw_614 : Jvm.Cond.methodLink "java/lang/AbstractStringBuilder" (32 : Nat) ({ cls := "java/lang/String", name := "length", desc := "()I" } : Jvm.MethodName) ∈ gwA := gwA_at 614 (by decide +kernel) rfl
theorem gw_615 : Jvm.Cond.methodLink "java/lang/AbstractStringBuilder" (208 : Nat) ({ cls := "java/lang/AbstractStringBuilder", name := "putStringAt", desc := "(ILjava/lang/String;)V" } : Jvm.MethodName) ∈ gwA := gwA_at 615 (by decide +kernel) rfl
theorem gw_618 : Jvm.Cond.code ({ cls := "java/lang/AbstractStringBuilder", name := "putStringAt", desc := "(ILjava/lang/String;)V" } : Jvm.MethodName) prog_10_method_73_code (3 : Nat) (Option.none : Option Jvm.ClassFile.FieldType) ∈ gwA := gwA_at 618 (by decide +kernel) rfl
theorem gw_619 : Jvm.Cond.methodLink "java/lang/AbstractStringBuilder" (397 : Nat) ({ cls := "java/lang/AbstractStringBuilder", name := "inflateIfNeededFor", desc := "(Ljava/lang/String;)V" } : Jvm.MethodName) ∈ gwA := gwA_at 619 (by decide +kernel) rfl
theorem gw_622 : Jvm.Cond.code ({ cls := "java/lang/AbstractStringBuilder", name := "inflateIfNeededFor", desc := "(Ljava/lang/String;)V" } : Jvm.MethodName) prog_10_method_71_code (2 : Nat) (Option.none : Option Jvm.ClassFile.FieldType) ∈ gwA := gwA_at 622 (by decide +kernel) rfl
theorem gw_623 : Jvm.Cond.methodLink "java/lang/AbstractStringBuilder" (40 : Nat) ({ cls := "java/lang/String", name := "coder", desc := "()B" } : Jvm.MethodName) ∈ gwA := gwA_at 623 (by decide +kernel) rfl
theorem gw_624 : Jvm.Cond.methodLink "java/lang/AbstractStringBuilder" (399 : Nat) ({ cls := "java/lang/String", name := "getBytes", desc := "([BIB)V" } : Jvm.MethodName) ∈ gwA := gwA_at 624 (by decide +kernel) rfl
theorem gw_625 : Jvm.Cond.instanceMethod ({ cls := "java/lang/String", name := "getBytes", desc := "([BIB)V" } : Jvm.MethodName) ∈ gwA := gwA_at 625 (by decide +kernel) rfl
theorem gw_626 : Jvm.Cond.selects "java/lang/String" ({ cls := "java/lang/String", name := "getBytes", desc := "([BIB)V" } : Jvm.MethodName) ({ cls := "java/lang/String", name := "getBytes", desc := "([BIB)V" } : Jvm.MethodName) ∈ gwA := gwA_at 626 (by decide +kernel) rfl
theorem gw_627 : Jvm.Cond.code ({ cls := "java/lang/String", name := "getBytes", desc := "([BIB)V" } : Jvm.MethodName) prog_20_method_147_code (4 : Nat) (Option.none : Option Jvm.ClassFile.FieldType) ∈ gwA := gwA_at 627 (by decide +kernel) rfl
theorem gw_629 : Jvm.Cond.methodLink "java/lang/String" (106 : Nat) ({ cls := "java/lang/StringLatin1", name := "inflate", desc := "([BI[BII)V" } : Jvm.MethodName) ∈ gwA := gwA_at 629 (by decide +kernel) rfl
theorem gw_630 : Jvm.Cond.methodLink "java/util/Arrays" (61 : Nat) ({ cls := "java/lang/StringBuilder", name := "toString", desc := "()Ljava/lang/String;" } : Jvm.MethodName) ∈ gwA := gwA_at 630 (by decide +kernel) rfl
theorem gw_632 : Jvm.Cond.methodLink "java/lang/String" (1051 : Nat) ({ cls := "java/lang/StringUTF16", name := "compress", desc := "([BII)[B" } : Jvm.MethodName) ∈ gwA := gwA_at 632 (by decide +kernel) rfl
theorem gw_633 : Jvm.Cond.static ({ cls := "java/lang/StringUTF16", name := "compress", desc := "([BII)[B" } : Jvm.MethodName) ∈ gwA := gwA_at 633 (by decide +kernel) rfl
theorem gw_634 : Jvm.Cond.code ({ cls := "java/lang/StringUTF16", name := "compress", desc := "([BII)[B" } : Jvm.MethodName) prog_24_method_17_code (6 : Nat) (Option.some (Jvm.ClassFile.FieldType.array Jvm.ClassFile.FieldType.byte)) ∈ gwA := gwA_at 634 (by decide +kernel) rfl
theorem gw_635 : Jvm.Cond.methodLink "java/lang/StringUTF16" (123 : Nat) ({ cls := "java/lang/StringUTF16", name := "compress", desc := "([BI[BII)I" } : Jvm.MethodName) ∈ gwA := gwA_at 635 (by decide +kernel) rfl
theorem gw_636 : Jvm.Cond.static ({ cls := "java/lang/StringUTF16", name := "compress", desc := "([BI[BII)I" } : Jvm.MethodName) ∈ gwA := gwA_at 636 (by decide +kernel) rfl
theorem gw_637 : Jvm.Cond.code ({ cls := "java/lang/StringUTF16", name := "compress", desc := "([BI[BII)I" } : Jvm.MethodName) prog_24_method_22_code (7 : Nat) (Option.some Jvm.ClassFile.FieldType.int) ∈ gwA := gwA_at 637 (by decide +kernel) rfl
theorem gw_638 : Jvm.Cond.methodLink "java/lang/StringUTF16" (126 : Nat) ({ cls := "java/util/Arrays", name := "copyOfRange", desc := "([BII)[B" } : Jvm.MethodName) ∈ gwA := gwA_at 638 (by decide +kernel) rfl
theorem gw_639 : Jvm.Cond.methodLink "java/lang/String" (47 : Nat) ({ cls := "java/lang/StringUTF16", name := "coderFromArrayLen", desc := "([BI)B" } : Jvm.MethodName) ∈ gwA := gwA_at 639 (by decide +kernel) rfl
theorem gw_640 : Jvm.Cond.static ({ cls := "java/lang/StringUTF16", name := "coderFromArrayLen", desc := "([BI)B" } : Jvm.MethodName) ∈ gwA := gwA_at 640 (by decide +kernel) rfl
theorem gw_641 : Jvm.Cond.code ({ cls := "java/lang/StringUTF16", name := "coderFromArrayLen", desc := "([BI)B" } : Jvm.MethodName) prog_24_method_15_code (2 : Nat) (Option.some Jvm.ClassFile.FieldType.byte) ∈ gwA := gwA_at 641 (by decide +kernel) rfl
theorem gw_642 : Jvm.Cond.fieldLink "java/lang/String" (9 : Nat) "java/lang/String" "value" "[B" ∈ gwA := gwA_at 642 (by decide +kernel) rfl
theorem gw_643 : Jvm.Cond.fieldLink "java/lang/String" (15 : Nat) "java/lang/String" "coder" "B" ∈ gwA := gwA_at 643 (by decide +kernel) rfl
theorem gw_653 : Jvm.Cond.methodLink "GraticulePress" (100 : Nat) ({ cls := "GraticulePress$Spelling", name := "<init>", desc := "(ILjava/lang/String;)V" } : Jvm.MethodName) ∈ gwA := gwA_at 653 (by decide +kernel) rfl
theorem gw_654 : Jvm.Cond.instanceMethod ({ cls := "GraticulePress$Spelling", name := "<init>", desc := "(ILjava/lang/String;)V" } : Jvm.MethodName) ∈ gwA := gwA_at 654 (by decide +kernel) rfl
theorem gw_655 : Jvm.Cond.code ({ cls := "GraticulePress$Spelling", name := "<init>", desc := "(ILjava/lang/String;)V" } : Jvm.MethodName) prog_6_method_1_code (3 : Nat) (Option.none : Option Jvm.ClassFile.FieldType) ∈ gwA := gwA_at 655 (by decide +kernel) rfl
theorem gw_656 : Jvm.Cond.methodLink "GraticulePress$Spelling" (1 : Nat) ({ cls := "java/lang/Object", name := "<init>", desc := "()V" } : Jvm.MethodName) ∈ gwA := gwA_at 656 (by decide +kernel) rfl
theorem gw_657 : Jvm.Cond.fieldLink "GraticulePress$Spelling" (7 : Nat) "GraticulePress$Spelling" "day" "I" ∈ gwA := gwA_at 657 (by decide +kernel) rfl
theorem gw_658 : Jvm.Cond.fieldLink "GraticulePress$Place" (30 : Nat) "GraticulePress$Spelling" "day" "I" ∈ gwA := gwA_at 658 (by decide +kernel) rfl
theorem gw_659 : Jvm.Cond.fieldLink "GraticulePress$Spelling" (13 : Nat) "GraticulePress$Spelling" "word" "Ljava/lang/String;" ∈ gwA := gwA_at 659 (by decide +kernel) rfl
theorem gw_660 : Jvm.Cond.fieldLink "GraticulePress$Place" (33 : Nat) "GraticulePress$Spelling" "word" "Ljava/lang/String;" ∈ gwA := gwA_at 660 (by decide +kernel) rfl
theorem gw_666 : Jvm.Cond.methodLink "GraticulePress" (103 : Nat) ({ cls := "GraticulePress$Place", name := "tell", desc := "(LGraticulePress$Spelling;)V" } : Jvm.MethodName) ∈ gwA := gwA_at 666 (by decide +kernel) rfl
theorem gw_667 : Jvm.Cond.instanceMethod ({ cls := "GraticulePress$Place", name := "tell", desc := "(LGraticulePress$Spelling;)V" } : Jvm.MethodName) ∈ gwA := gwA_at 667 (by decide +kernel) rfl
theorem gw_668 : Jvm.Cond.selects "GraticulePress$Place" ({ cls := "GraticulePress$Place", name := "tell", desc := "(LGraticulePress$Spelling;)V" } : Jvm.MethodName) ({ cls := "GraticulePress$Place", name := "tell", desc := "(LGraticulePress$Spelling;)V" } : Jvm.MethodName) ∈ gwA := gwA_at 668 (by decide +kernel) rfl
theorem gw_669 : Jvm.Cond.code ({ cls := "GraticulePress$Place", name := "tell", desc := "(LGraticulePress$Spelling;)V" } : Jvm.MethodName) prog_4_method_3_code (2 : Nat) (Option.none : Option Jvm.ClassFile.FieldType) ∈ gwA := gwA_at 669 (by decide +kernel) rfl
theorem gw_670 : Jvm.Cond.methodLink "GraticulePress" (107 : Nat) ({ cls := "java/lang/StringBuilder", name := "setLength", desc := "(I)V" } : Jvm.MethodName) ∈ gwA := gwA_at 670 (by decide +kernel) rfl
theorem gw_671 : Jvm.Cond.instanceMethod ({ cls := "java/lang/StringBuilder", name := "setLength", desc := "(I)V" } : Jvm.MethodName) ∈ gwA := gwA_at 671 (by decide +kernel) rfl
theorem gw_672 : Jvm.Cond.selects "java/lang/StringBuilder" ({ cls := "java/lang/StringBuilder", name := "setLength", desc := "(I)V" } : Jvm.MethodName) ({ cls := "java/lang/StringBuilder", name := "setLength", desc := "(I)V" } : Jvm.MethodName) ∈ gwA := gwA_at 672 (by decide +kernel) rfl
theorem gw_673 : Jvm.Cond.code ({ cls := "java/lang/StringBuilder", name := "setLength", desc := "(I)V" } : Jvm.MethodName) prog_21_method_89_code (2 : Nat) (Option.none : Option Jvm.ClassFile.FieldType) ∈ gwA := gwA_at 673 (by decide +kernel) rfl
theorem gw_674 : Jvm.Cond.methodLink "java/lang/StringBuilder" (333 : Nat) ({ cls := "java/lang/AbstractStringBuilder", name := "setLength", desc := "(I)V" } : Jvm.MethodName) ∈ gwA := gwA_at 674 (by decide +kernel) rfl
theorem gw_676 : Jvm.Cond.code ({ cls := "java/lang/AbstractStringBuilder", name := "setLength", desc := "(I)V" } : Jvm.MethodName) prog_10_method_13_code (2 : Nat) (Option.none : Option Jvm.ClassFile.FieldType) ∈ gwA := gwA_at 676 (by decide +kernel) rfl
theorem gw_679 : Jvm.Cond.methodLink "java/lang/AbstractStringBuilder" (131 : Nat) ({ cls := "java/lang/StringIndexOutOfBoundsException", name := "<init>", desc := "(I)V" } : Jvm.MethodName) ∈ gwA := gwA_at 679 (by decide +kernel) rfl
theorem gw_680 : Jvm.Cond.instanceMethod ({ cls := "java/lang/StringIndexOutOfBoundsException", name := "<init>", desc := "(I)V" } : Jvm.MethodName) ∈ gwA := gwA_at 680 (by decide +kernel) rfl
theorem gw_681 : Jvm.Cond.code ({ cls := "java/lang/StringIndexOutOfBoundsException", name := "<init>", desc := "(I)V" } : Jvm.MethodName) prog_22_method_3_code (2 : Nat) (Option.none : Option Jvm.ClassFile.FieldType) ∈ gwA := gwA_at 681 (by decide +kernel) rfl
theorem gw_682 : Jvm.Cond.classLink "java/lang/StringIndexOutOfBoundsException" (10 : Nat) "java/lang/StringBuilder" ∈ gwA := gwA_at 682 (by decide +kernel) rfl
theorem gw_683 : Jvm.Cond.methodLink "java/lang/StringIndexOutOfBoundsException" (12 : Nat) ({ cls := "java/lang/StringBuilder", name := "<init>", desc := "()V" } : Jvm.MethodName) ∈ gwA := gwA_at 683 (by decide +kernel) rfl
theorem gw_685 : Jvm.Cond.methodLink "java/lang/StringIndexOutOfBoundsException" (15 : Nat) ({ cls := "java/lang/StringBuilder", name := "append", desc := "(Ljava/lang/String;)Ljava/lang/StringBuilder;" } : Jvm.MethodName) ∈ gwA := gwA_at 685 (by decide +kernel) rfl
theorem gw_686 : Jvm.Cond.methodLink "java/lang/StringIndexOutOfBoundsException" (19 : Nat) ({ cls := "java/lang/StringBuilder", name := "append", desc := "(I)Ljava/lang/StringBuilder;" } : Jvm.MethodName) ∈ gwA := gwA_at 686 (by decide +kernel) rfl
theorem gw_687 : Jvm.Cond.methodLink "java/lang/StringIndexOutOfBoundsException" (22 : Nat) ({ cls := "java/lang/StringBuilder", name := "toString", desc := "()Ljava/lang/String;" } : Jvm.MethodName) ∈ gwA := gwA_at 687 (by decide +kernel) rfl
theorem gw_696 : Jvm.Cond.methodLink "java/lang/AbstractStringBuilder" (133 : Nat) ({ cls := "java/lang/StringLatin1", name := "fillNull", desc := "([BII)V" } : Jvm.MethodName) ∈ gwA := gwA_at 696 (by decide +kernel) rfl
theorem gw_697 : Jvm.Cond.static ({ cls := "java/lang/StringLatin1", name := "fillNull", desc := "([BII)V" } : Jvm.MethodName) ∈ gwA := gwA_at 697 (by decide +kernel) rfl
theorem gw_698 : Jvm.Cond.code ({ cls := "java/lang/StringLatin1", name := "fillNull", desc := "([BII)V" } : Jvm.MethodName) prog_23_method_48_code (3 : Nat) (Option.none : Option Jvm.ClassFile.FieldType) ∈ gwA := gwA_at 698 (by decide +kernel) rfl
theorem gw_699 : Jvm.Cond.methodLink "java/lang/StringLatin1" (236 : Nat) ({ cls := "java/util/Arrays", name := "fill", desc := "([BIIB)V" } : Jvm.MethodName) ∈ gwA := gwA_at 699 (by decide +kernel) rfl
theorem gw_700 : Jvm.Cond.static ({ cls := "java/util/Arrays", name := "fill", desc := "([BIIB)V" } : Jvm.MethodName) ∈ gwA := gwA_at 700 (by decide +kernel) rfl
theorem gw_701 : Jvm.Cond.code ({ cls := "java/util/Arrays", name := "fill", desc := "([BIIB)V" } : Jvm.MethodName) prog_27_method_110_code (5 : Nat) (Option.none : Option Jvm.ClassFile.FieldType) ∈ gwA := gwA_at 701 (by decide +kernel) rfl
theorem gw_702 : Jvm.Cond.methodLink "java/util/Arrays" (13 : Nat) ({ cls := "java/util/Arrays", name := "rangeCheck", desc := "(III)V" } : Jvm.MethodName) ∈ gwA := gwA_at 702 (by decide +kernel) rfl
theorem gw_703 : Jvm.Cond.static ({ cls := "java/util/Arrays", name := "rangeCheck", desc := "(III)V" } : Jvm.MethodName) ∈ gwA := gwA_at 703 (by decide +kernel) rfl
theorem gw_704 : Jvm.Cond.code ({ cls := "java/util/Arrays", name := "rangeCheck", desc := "(III)V" } : Jvm.MethodName) prog_27_method_30_code (3 : Nat) (Option.none : Option Jvm.ClassFile.FieldType) ∈ gwA := gwA_at 704 (by decide +kernel) rfl
theorem gw_719 : Jvm.Cond.methodLink "java/util/Arrays" (70 : Nat) ({ cls := "java/lang/ArrayIndexOutOfBoundsException", name := "<init>", desc := "(I)V" } : Jvm.MethodName) ∈ gwA := gwA_at 719 (by decide +kernel) rfl
theorem gw_720 : Jvm.Cond.instanceMethod ({ cls := "java/lang/ArrayIndexOutOfBoundsException", name := "<init>", desc := "(I)V" } : Jvm.MethodName) ∈ gwA := gwA_at 720 (by decide +kernel) rfl
theorem gw_721 : Jvm.Cond.code ({ cls := "java/lang/ArrayIndexOutOfBoundsException", name := "<init>", desc := "(I)V" } : Jvm.MethodName) prog_11_method_3_code (2 : Nat) (Option.none : Option Jvm.ClassFile.FieldType) ∈ gwA := gwA_at 721 (by decide +kernel) rfl
theorem gw_722 : Jvm.Cond.classLink "java/lang/ArrayIndexOutOfBoundsException" (10 : Nat) "java/lang/StringBuilder" ∈ gwA := gwA_at 722 (by decide +kernel) rfl
theorem gw_723 : Jvm.Cond.methodLink "java/lang/ArrayIndexOutOfBoundsException" (12 : Nat) ({ cls := "java/lang/StringBuilder", name := "<init>", desc := "()V" } : Jvm.MethodName) ∈ gwA := gwA_at 723 (by decide +kernel) rfl
theorem gw_725 : Jvm.Cond.methodLink "java/lang/ArrayIndexOutOfBoundsException" (15 : Nat) ({ cls := "java/lang/StringBuilder", name := "append", desc := "(Ljava/lang/String;)Ljava/lang/StringBuilder;" } : Jvm.MethodName) ∈ gwA := gwA_at 725 (by decide +kernel) rfl
theorem gw_726 : Jvm.Cond.methodLink "java/lang/ArrayIndexOutOfBoundsException" (19 : Nat) ({ cls := "java/lang/StringBuilder", name := "append", desc := "(I)Ljava/lang/StringBuilder;" } : Jvm.MethodName) ∈ gwA := gwA_at 726 (by decide +kernel) rfl
theorem gw_727 : Jvm.Cond.methodLink "java/lang/ArrayIndexOutOfBoundsException" (22 : Nat) ({ cls := "java/lang/StringBuilder", name := "toString", desc := "()Ljava/lang/String;" } : Jvm.MethodName) ∈ gwA := gwA_at 727 (by decide +kernel) rfl
theorem gw_731 : Jvm.Cond.methodLink "java/lang/AbstractStringBuilder" (137 : Nat) ({ cls := "java/lang/StringUTF16", name := "fillNull", desc := "([BII)V" } : Jvm.MethodName) ∈ gwA := gwA_at 731 (by decide +kernel) rfl
theorem gw_732 : Jvm.Cond.static ({ cls := "java/lang/StringUTF16", name := "fillNull", desc := "([BII)V" } : Jvm.MethodName) ∈ gwA := gwA_at 732 (by decide +kernel) rfl
theorem gw_733 : Jvm.Cond.code ({ cls := "java/lang/StringUTF16", name := "fillNull", desc := "([BII)V" } : Jvm.MethodName) prog_24_method_70_code (3 : Nat) (Option.none : Option Jvm.ClassFile.FieldType) ∈ gwA := gwA_at 733 (by decide +kernel) rfl
theorem gw_734 : Jvm.Cond.methodLink "java/lang/StringUTF16" (380 : Nat) ({ cls := "java/util/Arrays", name := "fill", desc := "([BIIB)V" } : Jvm.MethodName) ∈ gwA := gwA_at 734 (by decide +kernel) rfl
theorem gw_735 : Jvm.Cond.methodLink "GraticulePress" (111 : Nat) ({ cls := "GraticulePress", name := "placeAllSheetsAnew", desc := "(I)I" } : Jvm.MethodName) ∈ gwA := gwA_at 735 (by decide +kernel) rfl
theorem gw_737 : Jvm.Cond.instanceMethod ({ cls := "GraticulePress", name := "placeAllSheetsAnew", desc := "(I)I" } : Jvm.MethodName) ∈ gwA := gwA_at 737 (by decide +kernel) rfl
theorem gw_738 : Jvm.Cond.code ({ cls := "GraticulePress", name := "placeAllSheetsAnew", desc := "(I)I" } : Jvm.MethodName) prog_1_method_22_code (5 : Nat) (Option.some Jvm.ClassFile.FieldType.int) ∈ gwA := gwA_at 738 (by decide +kernel) rfl
theorem gw_739 : Jvm.Cond.methodLink "GraticulePress" (220 : Nat) ({ cls := "GraticulePress$Sheet", name := "pushedBeside", desc := "(I)I" } : Jvm.MethodName) ∈ gwA := gwA_at 739 (by decide +kernel) rfl
theorem gw_740 : Jvm.Cond.instanceMethod ({ cls := "GraticulePress$Sheet", name := "pushedBeside", desc := "(I)I" } : Jvm.MethodName) ∈ gwA := gwA_at 740 (by decide +kernel) rfl
theorem gw_741 : Jvm.Cond.selects "GraticulePress$Sheet" ({ cls := "GraticulePress$Sheet", name := "pushedBeside", desc := "(I)I" } : Jvm.MethodName) ({ cls := "GraticulePress$Sheet", name := "pushedBeside", desc := "(I)I" } : Jvm.MethodName) ∈ gwA := gwA_at 741 (by decide +kernel) rfl
theorem gw_742 : Jvm.Cond.code ({ cls := "GraticulePress$Sheet", name := "pushedBeside", desc := "(I)I" } : Jvm.MethodName) prog_5_method_10_code (5 : Nat) (Option.some Jvm.ClassFile.FieldType.int) ∈ gwA := gwA_at 742 (by decide +kernel) rfl
theorem gw_743 : Jvm.Cond.methodLink "GraticulePress$Sheet" (110 : Nat) ({ cls := "GraticulePress$Spot", name := "isPushed", desc := "()Z" } : Jvm.MethodName) ∈ gwA := gwA_at 743 (by decide +kernel) rfl
theorem gw_744 : Jvm.Cond.instanceMethod ({ cls := "GraticulePress$Spot", name := "isPushed", desc := "()Z" } : Jvm.MethodName) ∈ gwA := gwA_at 744 (by decide +kernel) rfl
theorem gw_745 : Jvm.Cond.selects "GraticulePress$Spot" ({ cls := "GraticulePress$Spot", name := "isPushed", desc := "()Z" } : Jvm.MethodName) ({ cls := "GraticulePress$Spot", name := "isPushed", desc := "()Z" } : Jvm.MethodName) ∈ gwA := gwA_at 745 (by decide +kernel) rfl
theorem gw_746 : Jvm.Cond.code ({ cls := "GraticulePress$Spot", name := "isPushed", desc := "()Z" } : Jvm.MethodName) prog_7_method_5_code (1 : Nat) (Option.some Jvm.ClassFile.FieldType.boolean) ∈ gwA := gwA_at 746 (by decide +kernel) rfl
theorem gw_750 : Jvm.Cond.methodLink "GraticulePressLaw" (27 : Nat) ({ cls := "GraticulePress", name := "spelled", desc := "(III)C" } : Jvm.MethodName) ∈ gwA := gwA_at 750 (by decide +kernel) rfl
theorem gw_751 : Jvm.Cond.instanceMethod ({ cls := "GraticulePress", name := "spelled", desc := "(III)C" } : Jvm.MethodName) ∈ gwA := gwA_at 751 (by decide +kernel) rfl
theorem gw_752 : Jvm.Cond.selects "GraticulePress" ({ cls := "GraticulePress", name := "spelled", desc := "(III)C" } : Jvm.MethodName) ({ cls := "GraticulePress", name := "spelled", desc := "(III)C" } : Jvm.MethodName) ∈ gwA := gwA_at 752 (by decide +kernel) rfl
theorem gw_753 : Jvm.Cond.code ({ cls := "GraticulePress", name := "spelled", desc := "(III)C" } : Jvm.MethodName) prog_1_method_5_code (6 : Nat) (Option.some Jvm.ClassFile.FieldType.char) ∈ gwA := gwA_at 753 (by decide +kernel) rfl
theorem gw_756 : Jvm.Cond.methodLink "GraticulePress" (122 : Nat) ({ cls := "GraticulePress$Place", name := "wordOn", desc := "(I)Ljava/lang/String;" } : Jvm.MethodName) ∈ gwA := gwA_at 756 (by decide +kernel) rfl
theorem gw_757 : Jvm.Cond.methodLink "GraticulePress" (126 : Nat) ({ cls := "java/lang/String", name := "length", desc := "()I" } : Jvm.MethodName) ∈ gwA := gwA_at 757 (by decide +kernel) rfl
theorem gw_758 : Jvm.Cond.methodLink "GraticulePress" (129 : Nat) ({ cls := "java/lang/String", name := "charAt", desc := "(I)C" } : Jvm.MethodName) ∈ gwA := gwA_at 758 (by decide +kernel) rfl
theorem gw_762 : Jvm.Cond.methodLink "GraticulePressLaw" (31 : Nat) ({ cls := "GraticulePress", name := "pass", desc := "(I)I" } : Jvm.MethodName) ∈ gwA := gwA_at 762 (by decide +kernel) rfl
theorem gw_763 : Jvm.Cond.instanceMethod ({ cls := "GraticulePress", name := "pass", desc := "(I)I" } : Jvm.MethodName) ∈ gwA := gwA_at 763 (by decide +kernel) rfl
theorem gw_764 : Jvm.Cond.selects "GraticulePress" ({ cls := "GraticulePress", name := "pass", desc := "(I)I" } : Jvm.MethodName) ({ cls := "GraticulePress", name := "pass", desc := "(I)I" } : Jvm.MethodName) ∈ gwA := gwA_at 764 (by decide +kernel) rfl
theorem gw_765 : Jvm.Cond.code ({ cls := "GraticulePress", name := "pass", desc := "(I)I" } : Jvm.MethodName) prog_1_method_6_code (2 : Nat) (Option.some Jvm.ClassFile.FieldType.int) ∈ gwA := gwA_at 765 (by decide +kernel) rfl
theorem gw_771 : Jvm.Cond.methodLink "GraticulePressLaw" (34 : Nat) ({ cls := "GraticulePress", name := "sheet", desc := "(III)I" } : Jvm.MethodName) ∈ gwA := gwA_at 771 (by decide +kernel) rfl
theorem gw_772 : Jvm.Cond.instanceMethod ({ cls := "GraticulePress", name := "sheet", desc := "(III)I" } : Jvm.MethodName) ∈ gwA := gwA_at 772 (by decide +kernel) rfl
theorem gw_773 : Jvm.Cond.selects "GraticulePress" ({ cls := "GraticulePress", name := "sheet", desc := "(III)I" } : Jvm.MethodName) ({ cls := "GraticulePress", name := "sheet", desc := "(III)I" } : Jvm.MethodName) ∈ gwA := gwA_at 773 (by decide +kernel) rfl
theorem gw_774 : Jvm.Cond.code ({ cls := "GraticulePress", name := "sheet", desc := "(III)I" } : Jvm.MethodName) prog_1_method_7_code (6 : Nat) (Option.some Jvm.ClassFile.FieldType.int) ∈ gwA := gwA_at 774 (by decide +kernel) rfl
theorem gw_777 : Jvm.Cond.methodLink "GraticulePress" (141 : Nat) ({ cls := "GraticulePress$Sheet", name := "<init>", desc := "(III)V" } : Jvm.MethodName) ∈ gwA := gwA_at 777 (by decide +kernel) rfl
theorem gw_778 : Jvm.Cond.instanceMethod ({ cls := "GraticulePress$Sheet", name := "<init>", desc := "(III)V" } : Jvm.MethodName) ∈ gwA := gwA_at 778 (by decide +kernel) rfl
theorem gw_779 : Jvm.Cond.code ({ cls := "GraticulePress$Sheet", name := "<init>", desc := "(III)V" } : Jvm.MethodName) prog_5_method_1_code (4 : Nat) (Option.none : Option Jvm.ClassFile.FieldType) ∈ gwA := gwA_at 779 (by decide +kernel) rfl
theorem gw_780 : Jvm.Cond.methodLink "GraticulePress$Sheet" (3 : Nat) ({ cls := "java/lang/Object", name := "<init>", desc := "()V" } : Jvm.MethodName) ∈ gwA := gwA_at 780 (by decide +kernel) rfl
theorem gw_781 : Jvm.Cond.classLink "GraticulePress$Sheet" (21 : Nat) "GraticulePress$Grid" ∈ gwA := gwA_at 781 (by decide +kernel) rfl
theorem gw_782 : Jvm.Cond.instantiable "GraticulePress$Grid" (1 : Nat) ∈ gwA := gwA_at 782 (by decide +kernel) rfl
theorem gw_783 : Jvm.Cond.methodLink "GraticulePress$Sheet" (23 : Nat) ({ cls := "GraticulePress$Grid", name := "<init>", desc := "()V" } : Jvm.MethodName) ∈ gwA := gwA_at 783 (by decide +kernel) rfl
theorem gw_784 : Jvm.Cond.instanceMethod ({ cls := "GraticulePress$Grid", name := "<init>", desc := "()V" } : Jvm.MethodName) ∈ gwA := gwA_at 784 (by decide +kernel) rfl
theorem gw_785 : Jvm.Cond.code ({ cls := "GraticulePress$Grid", name := "<init>", desc := "()V" } : Jvm.MethodName) prog_3_method_1_code (1 : Nat) (Option.none : Option Jvm.ClassFile.FieldType) ∈ gwA := gwA_at 785 (by decide +kernel) rfl
theorem gw_786 : Jvm.Cond.methodLink "GraticulePress$Grid" (3 : Nat) ({ cls := "java/lang/Object", name := "<init>", desc := "()V" } : Jvm.MethodName) ∈ gwA := gwA_at 786 (by decide +kernel) rfl
theorem gw_787 : Jvm.Cond.fieldLink "GraticulePress$Grid" (9 : Nat) "GraticulePress$Grid" "signs" "[C" ∈ gwA := gwA_at 787 (by decide +kernel) rfl
theorem gw_791 : Jvm.Cond.arrayClass Jvm.ClassFile.FieldType.char ∈ gwA := gwA_at 791 (by decide +kernel) rfl
theorem gw_793 : Jvm.Cond.fieldLink "GraticulePress$Sheet" (24 : Nat) "GraticulePress$Sheet" "picture" "LGraticulePress$Grid;" ∈ gwA := gwA_at 793 (by decide +kernel) rfl
theorem gw_794 : Jvm.Cond.fieldLink "GraticulePress" (173 : Nat) "GraticulePress$Sheet" "picture" "LGraticulePress$Grid;" ∈ gwA := gwA_at 794 (by decide +kernel) rfl
theorem gw_795 : Jvm.Cond.fieldLink "GraticulePress$Sheet" (28 : Nat) "GraticulePress$Sheet" "trial" "LGraticulePress$Grid;" ∈ gwA := gwA_at 795 (by decide +kernel) rfl
theorem gw_796 : Jvm.Cond.fieldLink "GraticulePress$Sheet" (9 : Nat) "GraticulePress$Sheet" "length" "I" ∈ gwA := gwA_at 796 (by decide +kernel) rfl
theorem gw_797 : Jvm.Cond.fieldLink "GraticulePress$Sheet" (15 : Nat) "GraticulePress$Sheet" "breadth" "I" ∈ gwA := gwA_at 797 (by decide +kernel) rfl
theorem gw_798 : Jvm.Cond.fieldLink "GraticulePress$Sheet" (18 : Nat) "GraticulePress$Sheet" "kind" "I" ∈ gwA := gwA_at 798 (by decide +kernel) rfl
theorem gw_799 : Jvm.Cond.fieldLink "GraticulePress$Sheet" (33 : Nat) "GraticulePress$Sheet" "spots" "[LGraticulePress$Spot;" ∈ gwA := gwA_at 799 (by decide +kernel) rfl
theorem gw_800 : Jvm.Cond.fieldLink "GraticulePress$Sheet" (40 : Nat) "GraticulePress$Sheet" "spotCount" "I" ∈ gwA := gwA_at 800 (by decide +kernel) rfl
theorem gw_801 : Jvm.Cond.fieldLink "GraticulePress$Sheet" (37 : Nat) "GraticulePress$Sheet" "named" "[LGraticulePress$Spot;" ∈ gwA := gwA_at 801 (by decide +kernel) rfl
theorem gw_802 : Jvm.Cond.fieldLink "GraticulePress$Sheet" (43 : Nat) "GraticulePress$Sheet" "namedCount" "I" ∈ gwA := gwA_at 802 (by decide +kernel) rfl
theorem gw_826 : Jvm.Cond.methodLink "GraticulePressLaw" (37 : Nat) ({ cls := "GraticulePress", name := "dot", desc := "(IIZ)I" } : Jvm.MethodName) ∈ gwA := gwA_at 826 (by decide +kernel) rfl
theorem gw_827 : Jvm.Cond.instanceMethod ({ cls := "GraticulePress", name := "dot", desc := "(IIZ)I" } : Jvm.MethodName) ∈ gwA := gwA_at 827 (by decide +kernel) rfl
theorem gw_828 : Jvm.Cond.selects "GraticulePress" ({ cls := "GraticulePress", name := "dot", desc := "(IIZ)I" } : Jvm.MethodName) ({ cls := "GraticulePress", name := "dot", desc := "(IIZ)I" } : Jvm.MethodName) ∈ gwA := gwA_at 828 (by decide +kernel) rfl
theorem gw_829 : Jvm.Cond.code ({ cls := "GraticulePress", name := "dot", desc := "(IIZ)I" } : Jvm.MethodName) prog_1_method_8_code (5 : Nat) (Option.some Jvm.ClassFile.FieldType.int) ∈ gwA := gwA_at 829 (by decide +kernel) rfl
theorem gw_830 : Jvm.Cond.methodLink "GraticulePress" (148 : Nat) ({ cls := "GraticulePress", name := "spotOn", desc := "(II)LGraticulePress$Spot;" } : Jvm.MethodName) ∈ gwA := gwA_at 830 (by decide +kernel) rfl
theorem gw_832 : Jvm.Cond.instanceMethod ({ cls := "GraticulePress", name := "spotOn", desc := "(II)LGraticulePress$Spot;" } : Jvm.MethodName) ∈ gwA := gwA_at 832 (by decide +kernel) rfl
theorem gw_833 : Jvm.Cond.code ({ cls := "GraticulePress", name := "spotOn", desc := "(II)LGraticulePress$Spot;" } : Jvm.MethodName) prog_1_method_20_code (4 : Nat) (Option.some (Jvm.ClassFile.FieldType.object "GraticulePress$Spot")) ∈ gwA := gwA_at 833 (by decide +kernel) rfl
theorem gw_834 : Jvm.Cond.methodLink "GraticulePress" (163 : Nat) ({ cls := "GraticulePress", name := "sheetNumbered", desc := "(I)LGraticulePress$Sheet;" } : Jvm.MethodName) ∈ gwA := gwA_at 834 (by decide +kernel) rfl
theorem gw_836 : Jvm.Cond.instanceMethod ({ cls := "GraticulePress", name := "sheetNumbered", desc := "(I)LGraticulePress$Sheet;" } : Jvm.MethodName) ∈ gwA := gwA_at 836 (by decide +kernel) rfl
theorem gw_837 : Jvm.Cond.code ({ cls := "GraticulePress", name := "sheetNumbered", desc := "(I)LGraticulePress$Sheet;" } : Jvm.MethodName) prog_1_method_18_code (2 : Nat) (Option.some (Jvm.ClassFile.FieldType.object "GraticulePress$Sheet")) ∈ gwA := gwA_at 837 (by decide +kernel) rfl
theorem gw_839 : Jvm.Cond.methodLink "GraticulePress" (216 : Nat) ({ cls := "GraticulePress$Sheet", name := "spotOf", desc := "(I)LGraticulePress$Spot;" } : Jvm.MethodName) ∈ gwA := gwA_at 839 (by decide +kernel) rfl
theorem gw_840 : Jvm.Cond.instanceMethod ({ cls := "GraticulePress$Sheet", name := "spotOf", desc := "(I)LGraticulePress$Spot;" } : Jvm.MethodName) ∈ gwA := gwA_at 840 (by decide +kernel) rfl
theorem gw_841 : Jvm.Cond.selects "GraticulePress$Sheet" ({ cls := "GraticulePress$Sheet", name := "spotOf", desc := "(I)LGraticulePress$Spot;" } : Jvm.MethodName) ({ cls := "GraticulePress$Sheet", name := "spotOf", desc := "(I)LGraticulePress$Spot;" } : Jvm.MethodName) ∈ gwA := gwA_at 841 (by decide +kernel) rfl
theorem gw_842 : Jvm.Cond.code ({ cls := "GraticulePress$Sheet", name := "spotOf", desc := "(I)LGraticulePress$Spot;" } : Jvm.MethodName) prog_5_method_6_code (2 : Nat) (Option.some (Jvm.ClassFile.FieldType.object "GraticulePress$Spot")) ∈ gwA := gwA_at 842 (by decide +kernel) rfl
theorem gw_846 : Jvm.Cond.methodLink "GraticulePressLaw" (41 : Nat) ({ cls := "GraticulePress", name := "side", desc := "(II)I" } : Jvm.MethodName) ∈ gwA := gwA_at 846 (by decide +kernel) rfl
theorem gw_847 : Jvm.Cond.instanceMethod ({ cls := "GraticulePress", name := "side", desc := "(II)I" } : Jvm.MethodName) ∈ gwA := gwA_at 847 (by decide +kernel) rfl
theorem gw_848 : Jvm.Cond.selects "GraticulePress" ({ cls := "GraticulePress", name := "side", desc := "(II)I" } : Jvm.MethodName) ({ cls := "GraticulePress", name := "side", desc := "(II)I" } : Jvm.MethodName) ∈ gwA := gwA_at 848 (by decide +kernel) rfl
theorem gw_849 : Jvm.Cond.code ({ cls := "GraticulePress", name := "side", desc := "(II)I" } : Jvm.MethodName) prog_1_method_9_code (3 : Nat) (Option.some Jvm.ClassFile.FieldType.int) ∈ gwA := gwA_at 849 (by decide +kernel) rfl
theorem gw_853 : Jvm.Cond.methodLink "GraticulePressLaw" (45 : Nat) ({ cls := "GraticulePress", name := "drawn", desc := "(III)C" } : Jvm.MethodName) ∈ gwA := gwA_at 853 (by decide +kernel) rfl
theorem gw_854 : Jvm.Cond.instanceMethod ({ cls := "GraticulePress", name := "drawn", desc := "(III)C" } : Jvm.MethodName) ∈ gwA := gwA_at 854 (by decide +kernel) rfl
theorem gw_855 : Jvm.Cond.selects "GraticulePress" ({ cls := "GraticulePress", name := "drawn", desc := "(III)C" } : Jvm.MethodName) ({ cls := "GraticulePress", name := "drawn", desc := "(III)C" } : Jvm.MethodName) ∈ gwA := gwA_at 855 (by decide +kernel) rfl
theorem gw_856 : Jvm.Cond.code ({ cls := "GraticulePress", name := "drawn", desc := "(III)C" } : Jvm.MethodName) prog_1_method_10_code (5 : Nat) (Option.some Jvm.ClassFile.FieldType.char) ∈ gwA := gwA_at 856 (by decide +kernel) rfl
theorem gw_857 : Jvm.Cond.methodLink "GraticulePress" (167 : Nat) ({ cls := "GraticulePress", name := "isOnGrid", desc := "(II)Z" } : Jvm.MethodName) ∈ gwA := gwA_at 857 (by decide +kernel) rfl
theorem gw_859 : Jvm.Cond.methodLink "GraticulePress" (177 : Nat) ({ cls := "GraticulePress$Grid", name := "signAt", desc := "(II)C" } : Jvm.MethodName) ∈ gwA := gwA_at 859 (by decide +kernel) rfl
theorem gw_863 : Jvm.Cond.methodLink "GraticulePressLaw" (48 : Nat) ({ cls := "GraticulePress", name := "worth", desc := "(I)I" } : Jvm.MethodName) ∈ gwA := gwA_at 863 (by decide +kernel) rfl
theorem gw_864 : Jvm.Cond.instanceMethod ({ cls := "GraticulePress", name := "worth", desc := "(I)I" } : Jvm.MethodName) ∈ gwA := gwA_at 864 (by decide +kernel) rfl
theorem gw_865 : Jvm.Cond.selects "GraticulePress" ({ cls := "GraticulePress", name := "worth", desc := "(I)I" } : Jvm.MethodName) ({ cls := "GraticulePress", name := "worth", desc := "(I)I" } : Jvm.MethodName) ∈ gwA := gwA_at 865 (by decide +kernel) rfl
theorem gw_866 : Jvm.Cond.code ({ cls := "GraticulePress", name := "worth", desc := "(I)I" } : Jvm.MethodName) prog_1_method_11_code (2 : Nat) (Option.some Jvm.ClassFile.FieldType.int) ∈ gwA := gwA_at 866 (by decide +kernel) rfl
theorem gw_867 : Jvm.Cond.methodLink "GraticulePress" (183 : Nat) ({ cls := "GraticulePress$Sheet", name := "worthToday", desc := "()I" } : Jvm.MethodName) ∈ gwA := gwA_at 867 (by decide +kernel) rfl
theorem gw_868 : Jvm.Cond.instanceMethod ({ cls := "GraticulePress$Sheet", name := "worthToday", desc := "()I" } : Jvm.MethodName) ∈ gwA := gwA_at 868 (by decide +kernel) rfl
theorem gw_869 : Jvm.Cond.selects "GraticulePress$Sheet" ({ cls := "GraticulePress$Sheet", name := "worthToday", desc := "()I" } : Jvm.MethodName) ({ cls := "GraticulePress$Sheet", name := "worthToday", desc := "()I" } : Jvm.MethodName) ∈ gwA := gwA_at 869 (by decide +kernel) rfl
theorem gw_870 : Jvm.Cond.code ({ cls := "GraticulePress$Sheet", name := "worthToday", desc := "()I" } : Jvm.MethodName) prog_5_method_11_code (4 : Nat) (Option.some Jvm.ClassFile.FieldType.int) ∈ gwA := gwA_at 870 (by decide +kernel) rfl
theorem gw_874 : Jvm.Cond.methodLink "GraticulePressLaw" (51 : Nat) ({ cls := "GraticulePress", name := "best", desc := "(I)I" } : Jvm.MethodName) ∈ gwA := gwA_at 874 (by decide +kernel) rfl
theorem gw_875 : Jvm.Cond.instanceMethod ({ cls := "GraticulePress", name := "best", desc := "(I)I" } : Jvm.MethodName) ∈ gwA := gwA_at 875 (by decide +kernel) rfl
theorem gw_876 : Jvm.Cond.selects "GraticulePress" ({ cls := "GraticulePress", name := "best", desc := "(I)I" } : Jvm.MethodName) ({ cls := "GraticulePress", name := "best", desc := "(I)I" } : Jvm.MethodName) ∈ gwA := gwA_at 876 (by decide +kernel) rfl
theorem gw_877 : Jvm.Cond.code ({ cls := "GraticulePress", name := "best", desc := "(I)I" } : Jvm.MethodName) prog_1_method_12_code (3 : Nat) (Option.some Jvm.ClassFile.FieldType.int) ∈ gwA := gwA_at 877 (by decide +kernel) rfl
theorem gw_879 : Jvm.Cond.methodLink "GraticulePress" (191 : Nat) ({ cls := "GraticulePress$Sheet", name := "greatestWorth", desc := "()I" } : Jvm.MethodName) ∈ gwA := gwA_at 879 (by decide +kernel) rfl
theorem gw_880 : Jvm.Cond.instanceMethod ({ cls := "GraticulePress$Sheet", name := "greatestWorth", desc := "()I" } : Jvm.MethodName) ∈ gwA := gwA_at 880 (by decide +kernel) rfl
theorem gw_881 : Jvm.Cond.selects "GraticulePress$Sheet" ({ cls := "GraticulePress$Sheet", name := "greatestWorth", desc := "()I" } : Jvm.MethodName) ({ cls := "GraticulePress$Sheet", name := "greatestWorth", desc := "()I" } : Jvm.MethodName) ∈ gwA := gwA_at 881 (by decide +kernel) rfl
theorem gw_882 : Jvm.Cond.code ({ cls := "GraticulePress$Sheet", name := "greatestWorth", desc := "()I" } : Jvm.MethodName) prog_5_method_12_code (1 : Nat) (Option.some Jvm.ClassFile.FieldType.int) ∈ gwA := gwA_at 882 (by decide +kernel) rfl
theorem gw_883 : Jvm.Cond.methodLink "GraticulePress$Sheet" (116 : Nat) ({ cls := "GraticulePress$Sheet", name := "greatestFrom", desc := "([LGraticulePress$Spot;IILGraticulePress$Grid;)I" } : Jvm.MethodName) ∈ gwA := gwA_at 883 (by decide +kernel) rfl
theorem gw_884 : Jvm.Cond.static ({ cls := "GraticulePress$Sheet", name := "greatestFrom", desc := "([LGraticulePress$Spot;IILGraticulePress$Grid;)I" } : Jvm.MethodName) ∈ gwA := gwA_at 884 (by decide +kernel) rfl
theorem gw_885 : Jvm.Cond.code ({ cls := "GraticulePress$Sheet", name := "greatestFrom", desc := "([LGraticulePress$Spot;IILGraticulePress$Grid;)I" } : Jvm.MethodName) prog_5_method_13_code (9 : Nat) (Option.some Jvm.ClassFile.FieldType.int) ∈ gwA := gwA_at 885 (by decide +kernel) rfl
theorem gw_886 : Jvm.Cond.methodLink "GraticulePress$Sheet" (120 : Nat) ({ cls := "GraticulePress$Sheet", name := "ranksFrom", desc := "([LGraticulePress$Spot;II)I" } : Jvm.MethodName) ∈ gwA := gwA_at 886 (by decide +kernel) rfl
theorem gw_887 : Jvm.Cond.static ({ cls := "GraticulePress$Sheet", name := "ranksFrom", desc := "([LGraticulePress$Spot;II)I" } : Jvm.MethodName) ∈ gwA := gwA_at 887 (by decide +kernel) rfl
theorem gw_888 : Jvm.Cond.code ({ cls := "GraticulePress$Sheet", name := "ranksFrom", desc := "([LGraticulePress$Spot;II)I" } : Jvm.MethodName) prog_5_method_14_code (6 : Nat) (Option.some Jvm.ClassFile.FieldType.int) ∈ gwA := gwA_at 888 (by decide +kernel) rfl
theorem gw_889 : Jvm.Cond.methodLink "GraticulePress$Sheet" (132 : Nat) ({ cls := "java/lang/Math", name := "max", desc := "(II)I" } : Jvm.MethodName) ∈ gwA := gwA_at 889 (by decide +kernel) rfl
theorem gw_890 : Jvm.Cond.methodLink "GraticulePress$Sheet" (124 : Nat) ({ cls := "GraticulePress$Spot", name := "mayStand", desc := "(LGraticulePress$Grid;I)Z" } : Jvm.MethodName) ∈ gwA := gwA_at 890 (by decide +kernel) rfl
theorem gw_891 : Jvm.Cond.methodLink "GraticulePress$Sheet" (128 : Nat) ({ cls := "GraticulePress$Spot", name := "write", desc := "(LGraticulePress$Grid;I)V" } : Jvm.MethodName) ∈ gwA := gwA_at 891 (by decide +kernel) rfl
theorem gw_892 : Jvm.Cond.methodLink "GraticulePress$Sheet" (138 : Nat) ({ cls := "GraticulePress$Spot", name := "erase", desc := "(LGraticulePress$Grid;I)V" } : Jvm.MethodName) ∈ gwA := gwA_at 892 (by decide +kernel) rfl
theorem gw_893 : Jvm.Cond.instanceMethod ({ cls := "GraticulePress$Spot", name := "erase", desc := "(LGraticulePress$Grid;I)V" } : Jvm.MethodName) ∈ gwA := gwA_at 893 (by decide +kernel) rfl
theorem gw_894 : Jvm.Cond.selects "GraticulePress$Spot" ({ cls := "GraticulePress$Spot", name := "erase", desc := "(LGraticulePress$Grid;I)V" } : Jvm.MethodName) ({ cls := "GraticulePress$Spot", name := "erase", desc := "(LGraticulePress$Grid;I)V" } : Jvm.MethodName) ∈ gwA := gwA_at 894 (by decide +kernel) rfl
theorem gw_895 : Jvm.Cond.code ({ cls := "GraticulePress$Spot", name := "erase", desc := "(LGraticulePress$Grid;I)V" } : Jvm.MethodName) prog_7_method_10_code (4 : Nat) (Option.none : Option Jvm.ClassFile.FieldType) ∈ gwA := gwA_at 895 (by decide +kernel) rfl
theorem gw_896 : Jvm.Cond.methodLink "GraticulePress$Spot" (70 : Nat) ({ cls := "GraticulePress$Grid", name := "erase", desc := "(III)V" } : Jvm.MethodName) ∈ gwA := gwA_at 896 (by decide +kernel) rfl
theorem gw_897 : Jvm.Cond.instanceMethod ({ cls := "GraticulePress$Grid", name := "erase", desc := "(III)V" } : Jvm.MethodName) ∈ gwA := gwA_at 897 (by decide +kernel) rfl
theorem gw_898 : Jvm.Cond.selects "GraticulePress$Grid" ({ cls := "GraticulePress$Grid", name := "erase", desc := "(III)V" } : Jvm.MethodName) ({ cls := "GraticulePress$Grid", name := "erase", desc := "(III)V" } : Jvm.MethodName) ∈ gwA := gwA_at 898 (by decide +kernel) rfl
theorem gw_899 : Jvm.Cond.code ({ cls := "GraticulePress$Grid", name := "erase", desc := "(III)V" } : Jvm.MethodName) prog_3_method_7_code (5 : Nat) (Option.none : Option Jvm.ClassFile.FieldType) ∈ gwA := gwA_at 899 (by decide +kernel) rfl
theorem gw_903 : Jvm.Cond.methodLink "GraticulePressLaw" (54 : Nat) ({ cls := "GraticulePress", name := "print", desc := "()I" } : Jvm.MethodName) ∈ gwA := gwA_at 903 (by decide +kernel) rfl
theorem gw_904 : Jvm.Cond.instanceMethod ({ cls := "GraticulePress", name := "print", desc := "()I" } : Jvm.MethodName) ∈ gwA := gwA_at 904 (by decide +kernel) rfl
theorem gw_905 : Jvm.Cond.selects "GraticulePress" ({ cls := "GraticulePress", name := "print", desc := "()I" } : Jvm.MethodName) ({ cls := "GraticulePress", name := "print", desc := "()I" } : Jvm.MethodName) ∈ gwA := gwA_at 905 (by decide +kernel) rfl
theorem gw_906 : Jvm.Cond.code ({ cls := "GraticulePress", name := "print", desc := "()I" } : Jvm.MethodName) prog_1_method_13_code (4 : Nat) (Option.some Jvm.ClassFile.FieldType.int) ∈ gwA := gwA_at 906 (by decide +kernel) rfl
theorem gw_908 : Jvm.Cond.instantiable "GraticulePress$Edition" (1 : Nat) ∈ gwA := gwA_at 908 (by decide +kernel) rfl
theorem gw_909 : Jvm.Cond.methodLink "GraticulePress" (196 : Nat) ({ cls := "GraticulePress$Edition", name := "<init>", desc := "()V" } : Jvm.MethodName) ∈ gwA := gwA_at 909 (by decide +kernel) rfl
theorem gw_910 : Jvm.Cond.instanceMethod ({ cls := "GraticulePress$Edition", name := "<init>", desc := "()V" } : Jvm.MethodName) ∈ gwA := gwA_at 910 (by decide +kernel) rfl
theorem gw_911 : Jvm.Cond.code ({ cls := "GraticulePress$Edition", name := "<init>", desc := "()V" } : Jvm.MethodName) prog_2_method_1_code (1 : Nat) (Option.none : Option Jvm.ClassFile.FieldType) ∈ gwA := gwA_at 911 (by decide +kernel) rfl
theorem gw_912 : Jvm.Cond.methodLink "GraticulePress$Edition" (3 : Nat) ({ cls := "java/lang/Object", name := "<init>", desc := "()V" } : Jvm.MethodName) ∈ gwA := gwA_at 912 (by decide +kernel) rfl
theorem gw_913 : Jvm.Cond.classLink "GraticulePress$Edition" (9 : Nat) "GraticulePress$Grid" ∈ gwA := gwA_at 913 (by decide +kernel) rfl
theorem gw_915 : Jvm.Cond.fieldLink "GraticulePress$Edition" (11 : Nat) "GraticulePress$Edition" "pictures" "[LGraticulePress$Grid;" ∈ gwA := gwA_at 915 (by decide +kernel) rfl
theorem gw_919 : Jvm.Cond.methodLink "GraticulePress" (197 : Nat) ({ cls := "GraticulePress$Edition", name := "keep", desc := "(ILGraticulePress$Grid;)V" } : Jvm.MethodName) ∈ gwA := gwA_at 919 (by decide +kernel) rfl
theorem gw_920 : Jvm.Cond.instanceMethod ({ cls := "GraticulePress$Edition", name := "keep", desc := "(ILGraticulePress$Grid;)V" } : Jvm.MethodName) ∈ gwA := gwA_at 920 (by decide +kernel) rfl
theorem gw_921 : Jvm.Cond.selects "GraticulePress$Edition" ({ cls := "GraticulePress$Edition", name := "keep", desc := "(ILGraticulePress$Grid;)V" } : Jvm.MethodName) ({ cls := "GraticulePress$Edition", name := "keep", desc := "(ILGraticulePress$Grid;)V" } : Jvm.MethodName) ∈ gwA := gwA_at 921 (by decide +kernel) rfl
theorem gw_922 : Jvm.Cond.code ({ cls := "GraticulePress$Edition", name := "keep", desc := "(ILGraticulePress$Grid;)V" } : Jvm.MethodName) prog_2_method_2_code (4 : Nat) (Option.none : Option Jvm.ClassFile.FieldType) ∈ gwA := gwA_at 922 (by decide +kernel) rfl
theorem gw_923 : Jvm.Cond.methodLink "GraticulePress$Edition" (17 : Nat) ({ cls := "GraticulePress$Grid", name := "<init>", desc := "()V" } : Jvm.MethodName) ∈ gwA := gwA_at 923 (by decide +kernel) rfl
theorem gw_924 : Jvm.Cond.methodLink "GraticulePress$Edition" (18 : Nat) ({ cls := "GraticulePress$Grid", name := "copyFrom", desc := "(LGraticulePress$Grid;)V" } : Jvm.MethodName) ∈ gwA := gwA_at 924 (by decide +kernel) rfl
theorem gw_925 : Jvm.Cond.instanceMethod ({ cls := "GraticulePress$Grid", name := "copyFrom", desc := "(LGraticulePress$Grid;)V" } : Jvm.MethodName) ∈ gwA := gwA_at 925 (by decide +kernel) rfl
theorem gw_926 : Jvm.Cond.selects "GraticulePress$Grid" ({ cls := "GraticulePress$Grid", name := "copyFrom", desc := "(LGraticulePress$Grid;)V" } : Jvm.MethodName) ({ cls := "GraticulePress$Grid", name := "copyFrom", desc := "(LGraticulePress$Grid;)V" } : Jvm.MethodName) ∈ gwA := gwA_at 926 (by decide +kernel) rfl
theorem gw_927 : Jvm.Cond.code ({ cls := "GraticulePress$Grid", name := "copyFrom", desc := "(LGraticulePress$Grid;)V" } : Jvm.MethodName) prog_3_method_3_code (3 : Nat) (Option.none : Option Jvm.ClassFile.FieldType) ∈ gwA := gwA_at 927 (by decide +kernel) rfl
theorem gw_931 : Jvm.Cond.methodLink "GraticulePressLaw" (58 : Nat) ({ cls := "GraticulePress", name := "printed", desc := "(IIII)C" } : Jvm.MethodName) ∈ gwA := gwA_at 931 (by decide +kernel) rfl
theorem gw_932 : Jvm.Cond.instanceMethod ({ cls := "GraticulePress", name := "printed", desc := "(IIII)C" } : Jvm.MethodName) ∈ gwA := gwA_at 932 (by decide +kernel) rfl
theorem gw_933 : Jvm.Cond.selects "GraticulePress" ({ cls := "GraticulePress", name := "printed", desc := "(IIII)C" } : Jvm.MethodName) ({ cls := "GraticulePress", name := "printed", desc := "(IIII)C" } : Jvm.MethodName) ∈ gwA := gwA_at 933 (by decide +kernel) rfl
theorem gw_934 : Jvm.Cond.code ({ cls := "GraticulePress", name := "printed", desc := "(IIII)C" } : Jvm.MethodName) prog_1_method_14_code (6 : Nat) (Option.some Jvm.ClassFile.FieldType.char) ∈ gwA := gwA_at 934 (by decide +kernel) rfl
theorem gw_935 : Jvm.Cond.methodLink "GraticulePress" (201 : Nat) ({ cls := "GraticulePress", name := "editionNumbered", desc := "(I)LGraticulePress$Edition;" } : Jvm.MethodName) ∈ gwA := gwA_at 935 (by decide +kernel) rfl
theorem gw_937 : Jvm.Cond.instanceMethod ({ cls := "GraticulePress", name := "editionNumbered", desc := "(I)LGraticulePress$Edition;" } : Jvm.MethodName) ∈ gwA := gwA_at 937 (by decide +kernel) rfl
theorem gw_938 : Jvm.Cond.code ({ cls := "GraticulePress", name := "editionNumbered", desc := "(I)LGraticulePress$Edition;" } : Jvm.MethodName) prog_1_method_19_code (2 : Nat) (Option.some (Jvm.ClassFile.FieldType.object "GraticulePress$Edition")) ∈ gwA := gwA_at 938 (by decide +kernel) rfl
theorem gw_941 : Jvm.Cond.methodLink "GraticulePress" (207 : Nat) ({ cls := "GraticulePress$Edition", name := "signAt", desc := "(III)C" } : Jvm.MethodName) ∈ gwA := gwA_at 941 (by decide +kernel) rfl
theorem gw_942 : Jvm.Cond.instanceMethod ({ cls := "GraticulePress$Edition", name := "signAt", desc := "(III)C" } : Jvm.MethodName) ∈ gwA := gwA_at 942 (by decide +kernel) rfl
theorem gw_943 : Jvm.Cond.selects "GraticulePress$Edition" ({ cls := "GraticulePress$Edition", name := "signAt", desc := "(III)C" } : Jvm.MethodName) ({ cls := "GraticulePress$Edition", name := "signAt", desc := "(III)C" } : Jvm.MethodName) ∈ gwA := gwA_at 943 (by decide +kernel) rfl
theorem gw_944 : Jvm.Cond.code ({ cls := "GraticulePress$Edition", name := "signAt", desc := "(III)C" } : Jvm.MethodName) prog_2_method_3_code (4 : Nat) (Option.some Jvm.ClassFile.FieldType.char) ∈ gwA := gwA_at 944 (by decide +kernel) rfl
theorem gw_945 : Jvm.Cond.methodLink "GraticulePress$Edition" (22 : Nat) ({ cls := "GraticulePress$Grid", name := "signAt", desc := "(II)C" } : Jvm.MethodName) ∈ gwA := gwA_at 945 (by decide +kernel) rfl
theorem gw_946 : Jvm.Cond.classLink "GraticulePressLaw" (63 : Nat) "GraticulePressModel" ∈ gwA := gwA_at 946 (by decide +kernel) rfl
theorem gw_947 : Jvm.Cond.instantiable "GraticulePressModel" (28 : Nat) ∈ gwA := gwA_at 947 (by decide +kernel) rfl
theorem gw_948 : Jvm.Cond.methodLink "GraticulePressLaw" (65 : Nat) ({ cls := "GraticulePressModel", name := "<init>", desc := "()V" } : Jvm.MethodName) ∈ gwA := gwA_at 948 (by decide +kernel) rfl
theorem gw_949 : Jvm.Cond.instanceMethod ({ cls := "GraticulePressModel", name := "<init>", desc := "()V" } : Jvm.MethodName) ∈ gwA := gwA_at 949 (by decide +kernel) rfl
theorem gw_950 : Jvm.Cond.code ({ cls := "GraticulePressModel", name := "<init>", desc := "()V" } : Jvm.MethodName) prog_9_method_1_code (1 : Nat) (Option.none : Option Jvm.ClassFile.FieldType) ∈ gwA := gwA_at 950 (by decide +kernel) rfl
theorem gw_951 : Jvm.Cond.methodLink "GraticulePressModel" (1 : Nat) ({ cls := "java/lang/Object", name := "<init>", desc := "()V" } : Jvm.MethodName) ∈ gwA := gwA_at 951 (by decide +kernel) rfl
theorem gw_952 : Jvm.Cond.fieldLink "GraticulePressModel" (103 : Nat) "GraticulePressModel" "day" "I" ∈ gwA := gwA_at 952 (by decide +kernel) rfl
theorem gw_953 : Jvm.Cond.fieldLink "GraticulePressModel" (88 : Nat) "GraticulePressModel" "typed" "I" ∈ gwA := gwA_at 953 (by decide +kernel) rfl
theorem gw_954 : Jvm.Cond.fieldLink "GraticulePressModel" (7 : Nat) "GraticulePressModel" "word" "[C" ∈ gwA := gwA_at 954 (by decide +kernel) rfl
theorem gw_955 : Jvm.Cond.fieldLink "GraticulePressModel" (78 : Nat) "GraticulePressModel" "places" "I" ∈ gwA := gwA_at 955 (by decide +kernel) rfl
theorem gw_956 : Jvm.Cond.fieldLink "GraticulePressModel" (13 : Nat) "GraticulePressModel" "length" "[I" ∈ gwA := gwA_at 956 (by decide +kernel) rfl
theorem gw_957 : Jvm.Cond.fieldLink "GraticulePressModel" (17 : Nat) "GraticulePressModel" "breadth" "[I" ∈ gwA := gwA_at 957 (by decide +kernel) rfl
theorem gw_958 : Jvm.Cond.fieldLink "GraticulePressModel" (20 : Nat) "GraticulePressModel" "rank" "[I" ∈ gwA := gwA_at 958 (by decide +kernel) rfl
theorem gw_959 : Jvm.Cond.fieldLink "GraticulePressModel" (23 : Nat) "GraticulePressModel" "names" "[I" ∈ gwA := gwA_at 959 (by decide +kernel) rfl
theorem gw_960 : Jvm.Cond.fieldLink "GraticulePressModel" (26 : Nat) "GraticulePressModel" "since" "[I" ∈ gwA := gwA_at 960 (by decide +kernel) rfl
theorem gw_961 : Jvm.Cond.fieldLink "GraticulePressModel" (29 : Nat) "GraticulePressModel" "many" "[I" ∈ gwA := gwA_at 961 (by decide +kernel) rfl
theorem gw_962 : Jvm.Cond.fieldLink "GraticulePressModel" (32 : Nat) "GraticulePressModel" "letters" "[C" ∈ gwA := gwA_at 962 (by decide +kernel) rfl
theorem gw_963 : Jvm.Cond.fieldLink "GraticulePressModel" (85 : Nat) "GraticulePressModel" "sheets" "I" ∈ gwA := gwA_at 963 (by decide +kernel) rfl
theorem gw_964 : Jvm.Cond.fieldLink "GraticulePressModel" (35 : Nat) "GraticulePressModel" "fromLength" "[I" ∈ gwA := gwA_at 964 (by decide +kernel) rfl
theorem gw_965 : Jvm.Cond.fieldLink "GraticulePressModel" (38 : Nat) "GraticulePressModel" "fromBreadth" "[I" ∈ gwA := gwA_at 965 (by decide +kernel) rfl
theorem gw_966 : Jvm.Cond.fieldLink "GraticulePressModel" (41 : Nat) "GraticulePressModel" "kind" "[I" ∈ gwA := gwA_at 966 (by decide +kernel) rfl
theorem gw_967 : Jvm.Cond.fieldLink "GraticulePressModel" (44 : Nat) "GraticulePressModel" "column" "[I" ∈ gwA := gwA_at 967 (by decide +kernel) rfl
theorem gw_968 : Jvm.Cond.fieldLink "GraticulePressModel" (47 : Nat) "GraticulePressModel" "row" "[I" ∈ gwA := gwA_at 968 (by decide +kernel) rfl
theorem gw_969 : Jvm.Cond.fieldLink "GraticulePressModel" (50 : Nat) "GraticulePressModel" "side" "[I" ∈ gwA := gwA_at 969 (by decide +kernel) rfl
theorem gw_970 : Jvm.Cond.fieldLink "GraticulePressModel" (53 : Nat) "GraticulePressModel" "signs" "[C" ∈ gwA := gwA_at 970 (by decide +kernel) rfl
theorem gw_971 : Jvm.Cond.fieldLink "GraticulePressModel" (56 : Nat) "GraticulePressModel" "ahead" "[I" ∈ gwA := gwA_at 971 (by decide +kernel) rfl
theorem gw_972 : Jvm.Cond.fieldLink "GraticulePressModel" (151 : Nat) "GraticulePressModel" "toTry" "I" ∈ gwA := gwA_at 972 (by decide +kernel) rfl
theorem gw_973 : Jvm.Cond.fieldLink "GraticulePressModel" (59 : Nat) "GraticulePressModel" "tried" "[I" ∈ gwA := gwA_at 973 (by decide +kernel) rfl
theorem gw_974 : Jvm.Cond.fieldLink "GraticulePressModel" (164 : Nat) "GraticulePressModel" "editions" "I" ∈ gwA := gwA_at 974 (by decide +kernel) rfl
theorem gw_975 : Jvm.Cond.fieldLink "GraticulePressModel" (62 : Nat) "GraticulePressModel" "placesThen" "[I" ∈ gwA := gwA_at 975 (by decide +kernel) rfl
theorem gw_976 : Jvm.Cond.fieldLink "GraticulePressModel" (65 : Nat) "GraticulePressModel" "sheetsThen" "[I" ∈ gwA := gwA_at 976 (by decide +kernel) rfl
theorem gw_977 : Jvm.Cond.fieldLink "GraticulePressModel" (68 : Nat) "GraticulePressModel" "nameThen" "[I" ∈ gwA := gwA_at 977 (by decide +kernel) rfl
theorem gw_978 : Jvm.Cond.fieldLink "GraticulePressModel" (71 : Nat) "GraticulePressModel" "sideThen" "[I" ∈ gwA := gwA_at 978 (by decide +kernel) rfl
theorem gw_979 : Jvm.Cond.fieldLink "GraticulePressModel" (74 : Nat) "GraticulePressModel" "thrown" "I" ∈ gwA := gwA_at 979 (by decide +kernel) rfl
theorem gw_1037 : Jvm.Cond.arrayClass Jvm.ClassFile.FieldType.int ∈ gwA := gwA_at 1037 (by decide +kernel) rfl
theorem gw_1038 : Jvm.Cond.methodLink "GraticulePressLaw" (72 : Nat) ({ cls := "GraticulePressModel", name := "thrown", desc := "()I" } : Jvm.MethodName) ∈ gwA := gwA_at 1038 (by decide +kernel) rfl
theorem gw_1039 : Jvm.Cond.instanceMethod ({ cls := "GraticulePressModel", name := "thrown", desc := "()I" } : Jvm.MethodName) ∈ gwA := gwA_at 1039 (by decide +kernel) rfl
theorem gw_1040 : Jvm.Cond.selects "GraticulePressModel" ({ cls := "GraticulePressModel", name := "thrown", desc := "()I" } : Jvm.MethodName) ({ cls := "GraticulePressModel", name := "thrown", desc := "()I" } : Jvm.MethodName) ∈ gwA := gwA_at 1040 (by decide +kernel) rfl
theorem gw_1041 : Jvm.Cond.code ({ cls := "GraticulePressModel", name := "thrown", desc := "()I" } : Jvm.MethodName) prog_9_method_2_code (1 : Nat) (Option.some Jvm.ClassFile.FieldType.int) ∈ gwA := gwA_at 1041 (by decide +kernel) rfl
theorem gw_1042 : Jvm.Cond.methodLink "GraticulePressLaw" (71 : Nat) ({ cls := "GraticulePressModel", name := "letter", desc := "(C)I" } : Jvm.MethodName) ∈ gwA := gwA_at 1042 (by decide +kernel) rfl
theorem gw_1043 : Jvm.Cond.instanceMethod ({ cls := "GraticulePressModel", name := "letter", desc := "(C)I" } : Jvm.MethodName) ∈ gwA := gwA_at 1043 (by decide +kernel) rfl
theorem gw_1044 : Jvm.Cond.selects "GraticulePressModel" ({ cls := "GraticulePressModel", name := "letter", desc := "(C)I" } : Jvm.MethodName) ({ cls := "GraticulePressModel", name := "letter", desc := "(C)I" } : Jvm.MethodName) ∈ gwA := gwA_at 1044 (by decide +kernel) rfl
theorem gw_1045 : Jvm.Cond.code ({ cls := "GraticulePressModel", name := "letter", desc := "(C)I" } : Jvm.MethodName) prog_9_method_7_code (2 : Nat) (Option.some Jvm.ClassFile.FieldType.int) ∈ gwA := gwA_at 1045 (by decide +kernel) rfl
theorem gw_1046 : Jvm.Cond.methodLink "GraticulePressModel" (81 : Nat) ({ cls := "GraticulePressModel", name := "in", desc := "(III)Z" } : Jvm.MethodName) ∈ gwA := gwA_at 1046 (by decide +kernel) rfl
theorem gw_1047 : Jvm.Cond.static ({ cls := "GraticulePressModel", name := "in", desc := "(III)Z" } : Jvm.MethodName) ∈ gwA := gwA_at 1047 (by decide +kernel) rfl
theorem gw_1048 : Jvm.Cond.code ({ cls := "GraticulePressModel", name := "in", desc := "(III)Z" } : Jvm.MethodName) prog_9_method_3_code (3 : Nat) (Option.some Jvm.ClassFile.FieldType.boolean) ∈ gwA := gwA_at 1048 (by decide +kernel) rfl
theorem gw_1049 : Jvm.Cond.methodLink "GraticulePressModel" (91 : Nat) ({ cls := "GraticulePressModel", name := "goes", desc := "(ZZZ)Z" } : Jvm.MethodName) ∈ gwA := gwA_at 1049 (by decide +kernel) rfl
theorem gw_1051 : Jvm.Cond.instanceMethod ({ cls := "GraticulePressModel", name := "goes", desc := "(ZZZ)Z" } : Jvm.MethodName) ∈ gwA := gwA_at 1051 (by decide +kernel) rfl
theorem gw_1052 : Jvm.Cond.code ({ cls := "GraticulePressModel", name := "goes", desc := "(ZZZ)Z" } : Jvm.MethodName) prog_9_method_4_code (4 : Nat) (Option.some Jvm.ClassFile.FieldType.boolean) ∈ gwA := gwA_at 1052 (by decide +kernel) rfl
theorem gw_1053 : Jvm.Cond.methodLink "GraticulePressLaw" (78 : Nat) ({ cls := "GraticulePressModel", name := "place", desc := "(III)I" } : Jvm.MethodName) ∈ gwA := gwA_at 1053 (by decide +kernel) rfl
theorem gw_1054 : Jvm.Cond.instanceMethod ({ cls := "GraticulePressModel", name := "place", desc := "(III)I" } : Jvm.MethodName) ∈ gwA := gwA_at 1054 (by decide +kernel) rfl
theorem gw_1055 : Jvm.Cond.selects "GraticulePressModel" ({ cls := "GraticulePressModel", name := "place", desc := "(III)I" } : Jvm.MethodName) ({ cls := "GraticulePressModel", name := "place", desc := "(III)I" } : Jvm.MethodName) ∈ gwA := gwA_at 1055 (by decide +kernel) rfl
theorem gw_1056 : Jvm.Cond.code ({ cls := "GraticulePressModel", name := "place", desc := "(III)I" } : Jvm.MethodName) prog_9_method_8_code (4 : Nat) (Option.some Jvm.ClassFile.FieldType.int) ∈ gwA := gwA_at 1056 (by decide +kernel) rfl
theorem gw_1057 : Jvm.Cond.methodLink "GraticulePressLaw" (82 : Nat) ({ cls := "GraticulePressModel", name := "name", desc := "(I)I" } : Jvm.MethodName) ∈ gwA := gwA_at 1057 (by decide +kernel) rfl
theorem gw_1058 : Jvm.Cond.instanceMethod ({ cls := "GraticulePressModel", name := "name", desc := "(I)I" } : Jvm.MethodName) ∈ gwA := gwA_at 1058 (by decide +kernel) rfl
theorem gw_1059 : Jvm.Cond.selects "GraticulePressModel" ({ cls := "GraticulePressModel", name := "name", desc := "(I)I" } : Jvm.MethodName) ({ cls := "GraticulePressModel", name := "name", desc := "(I)I" } : Jvm.MethodName) ∈ gwA := gwA_at 1059 (by decide +kernel) rfl
theorem gw_1060 : Jvm.Cond.code ({ cls := "GraticulePressModel", name := "name", desc := "(I)I" } : Jvm.MethodName) prog_9_method_10_code (7 : Nat) (Option.some Jvm.ClassFile.FieldType.int) ∈ gwA := gwA_at 1060 (by decide +kernel) rfl
theorem gw_1061 : Jvm.Cond.methodLink "GraticulePressModel" (95 : Nat) ({ cls := "GraticulePressModel", name := "isPlace", desc := "(I)Z" } : Jvm.MethodName) ∈ gwA := gwA_at 1061 (by decide +kernel) rfl
theorem gw_1063 : Jvm.Cond.instanceMethod ({ cls := "GraticulePressModel", name := "isPlace", desc := "(I)Z" } : Jvm.MethodName) ∈ gwA := gwA_at 1063 (by decide +kernel) rfl
theorem gw_1064 : Jvm.Cond.code ({ cls := "GraticulePressModel", name := "isPlace", desc := "(I)Z" } : Jvm.MethodName) prog_9_method_5_code (2 : Nat) (Option.some Jvm.ClassFile.FieldType.boolean) ∈ gwA := gwA_at 1064 (by decide +kernel) rfl
theorem gw_1065 : Jvm.Cond.methodLink "GraticulePressModel" (99 : Nat) ({ cls := "GraticulePressModel", name := "lays", desc := "(I)V" } : Jvm.MethodName) ∈ gwA := gwA_at 1065 (by decide +kernel) rfl
theorem gw_1067 : Jvm.Cond.instanceMethod ({ cls := "GraticulePressModel", name := "lays", desc := "(I)V" } : Jvm.MethodName) ∈ gwA := gwA_at 1067 (by decide +kernel) rfl
theorem gw_1068 : Jvm.Cond.code ({ cls := "GraticulePressModel", name := "lays", desc := "(I)V" } : Jvm.MethodName) prog_9_method_24_code (6 : Nat) (Option.none : Option Jvm.ClassFile.FieldType) ∈ gwA := gwA_at 1068 (by decide +kernel) rfl
theorem gw_1069 : Jvm.Cond.methodLink "GraticulePressModel" (131 : Nat) ({ cls := "GraticulePressModel", name := "dots", desc := "(II)V" } : Jvm.MethodName) ∈ gwA := gwA_at 1069 (by decide +kernel) rfl
theorem gw_1071 : Jvm.Cond.instanceMethod ({ cls := "GraticulePressModel", name := "dots", desc := "(II)V" } : Jvm.MethodName) ∈ gwA := gwA_at 1071 (by decide +kernel) rfl
theorem gw_1072 : Jvm.Cond.code ({ cls := "GraticulePressModel", name := "dots", desc := "(II)V" } : Jvm.MethodName) prog_9_method_17_code (4 : Nat) (Option.none : Option Jvm.ClassFile.FieldType) ∈ gwA := gwA_at 1072 (by decide +kernel) rfl
theorem gw_1073 : Jvm.Cond.methodLink "GraticulePressModel" (114 : Nat) ({ cls := "GraticulePressModel", name := "isOn", desc := "(II)Z" } : Jvm.MethodName) ∈ gwA := gwA_at 1073 (by decide +kernel) rfl
theorem gw_1075 : Jvm.Cond.instanceMethod ({ cls := "GraticulePressModel", name := "isOn", desc := "(II)Z" } : Jvm.MethodName) ∈ gwA := gwA_at 1075 (by decide +kernel) rfl
theorem gw_1076 : Jvm.Cond.code ({ cls := "GraticulePressModel", name := "isOn", desc := "(II)Z" } : Jvm.MethodName) prog_9_method_14_code (3 : Nat) (Option.some Jvm.ClassFile.FieldType.boolean) ∈ gwA := gwA_at 1076 (by decide +kernel) rfl
theorem gw_1077 : Jvm.Cond.methodLink "GraticulePressModel" (118 : Nat) ({ cls := "GraticulePressModel", name := "columnOf", desc := "(II)I" } : Jvm.MethodName) ∈ gwA := gwA_at 1077 (by decide +kernel) rfl
theorem gw_1079 : Jvm.Cond.instanceMethod ({ cls := "GraticulePressModel", name := "columnOf", desc := "(II)I" } : Jvm.MethodName) ∈ gwA := gwA_at 1079 (by decide +kernel) rfl
theorem gw_1080 : Jvm.Cond.code ({ cls := "GraticulePressModel", name := "columnOf", desc := "(II)I" } : Jvm.MethodName) prog_9_method_15_code (6 : Nat) (Option.some Jvm.ClassFile.FieldType.int) ∈ gwA := gwA_at 1080 (by decide +kernel) rfl
theorem gw_1081 : Jvm.Cond.constantFloat "GraticulePressModel" (110 : Nat) (1017370378 : UInt32) ∈ gwA := gwA_at 1081 (by decide +kernel) rfl
theorem gw_1082 : Jvm.Cond.constantFloat "GraticulePressModel" (111 : Nat) (1082130432 : UInt32) ∈ gwA := gwA_at 1082 (by decide +kernel) rfl
theorem gw_1083 : Jvm.Cond.constantFloat "GraticulePressModel" (112 : Nat) (1077936128 : UInt32) ∈ gwA := gwA_at 1083 (by decide +kernel) rfl
theorem gw_1084 : Jvm.Cond.constantFloat "GraticulePressModel" (113 : Nat) (1101004800 : UInt32) ∈ gwA := gwA_at 1084 (by decide +kernel) rfl
theorem gw_1085 : Jvm.Cond.methodLink "GraticulePressModel" (121 : Nat) ({ cls := "GraticulePressModel", name := "rowOf", desc := "(II)I" } : Jvm.MethodName) ∈ gwA := gwA_at 1085 (by decide +kernel) rfl
theorem gw_1087 : Jvm.Cond.instanceMethod ({ cls := "GraticulePressModel", name := "rowOf", desc := "(II)I" } : Jvm.MethodName) ∈ gwA := gwA_at 1087 (by decide +kernel) rfl
theorem gw_1088 : Jvm.Cond.code ({ cls := "GraticulePressModel", name := "rowOf", desc := "(II)I" } : Jvm.MethodName) prog_9_method_16_code (3 : Nat) (Option.some Jvm.ClassFile.FieldType.int) ∈ gwA := gwA_at 1088 (by decide +kernel) rfl
theorem gw_1089 : Jvm.Cond.methodLink "GraticulePressModel" (135 : Nat) ({ cls := "GraticulePressModel", name := "hasName", desc := "(I)Z" } : Jvm.MethodName) ∈ gwA := gwA_at 1089 (by decide +kernel) rfl
theorem gw_1091 : Jvm.Cond.instanceMethod ({ cls := "GraticulePressModel", name := "hasName", desc := "(I)Z" } : Jvm.MethodName) ∈ gwA := gwA_at 1091 (by decide +kernel) rfl
theorem gw_1092 : Jvm.Cond.code ({ cls := "GraticulePressModel", name := "hasName", desc := "(I)Z" } : Jvm.MethodName) prog_9_method_23_code (2 : Nat) (Option.some Jvm.ClassFile.FieldType.boolean) ∈ gwA := gwA_at 1092 (by decide +kernel) rfl
theorem gw_1093 : Jvm.Cond.methodLink "GraticulePressModel" (106 : Nat) ({ cls := "GraticulePressModel", name := "nameOn", desc := "(II)I" } : Jvm.MethodName) ∈ gwA := gwA_at 1093 (by decide +kernel) rfl
theorem gw_1095 : Jvm.Cond.instanceMethod ({ cls := "GraticulePressModel", name := "nameOn", desc := "(II)I" } : Jvm.MethodName) ∈ gwA := gwA_at 1095 (by decide +kernel) rfl
theorem gw_1096 : Jvm.Cond.code ({ cls := "GraticulePressModel", name := "nameOn", desc := "(II)I" } : Jvm.MethodName) prog_9_method_9_code (5 : Nat) (Option.some Jvm.ClassFile.FieldType.int) ∈ gwA := gwA_at 1096 (by decide +kernel) rfl
theorem gw_1097 : Jvm.Cond.methodLink "GraticulePressModel" (138 : Nat) ({ cls := "GraticulePressModel", name := "mayStand", desc := "(III)Z" } : Jvm.MethodName) ∈ gwA := gwA_at 1097 (by decide +kernel) rfl
theorem gw_1099 : Jvm.Cond.instanceMethod ({ cls := "GraticulePressModel", name := "mayStand", desc := "(III)Z" } : Jvm.MethodName) ∈ gwA := gwA_at 1099 (by decide +kernel) rfl
theorem gw_1100 : Jvm.Cond.code ({ cls := "GraticulePressModel", name := "mayStand", desc := "(III)Z" } : Jvm.MethodName) prog_9_method_20_code (8 : Nat) (Option.some Jvm.ClassFile.FieldType.boolean) ∈ gwA := gwA_at 1100 (by decide +kernel) rfl
theorem gw_1101 : Jvm.Cond.methodLink "GraticulePressModel" (124 : Nat) ({ cls := "GraticulePressModel", name := "rowAt", desc := "(II)I" } : Jvm.MethodName) ∈ gwA := gwA_at 1101 (by decide +kernel) rfl
theorem gw_1102 : Jvm.Cond.static ({ cls := "GraticulePressModel", name := "rowAt", desc := "(II)I" } : Jvm.MethodName) ∈ gwA := gwA_at 1102 (by decide +kernel) rfl
theorem gw_1103 : Jvm.Cond.code ({ cls := "GraticulePressModel", name := "rowAt", desc := "(II)I" } : Jvm.MethodName) prog_9_method_18_code (2 : Nat) (Option.some Jvm.ClassFile.FieldType.int) ∈ gwA := gwA_at 1103 (by decide +kernel) rfl
theorem gw_1104 : Jvm.Cond.methodLink "GraticulePressModel" (127 : Nat) ({ cls := "GraticulePressModel", name := "columnAt", desc := "(III)I" } : Jvm.MethodName) ∈ gwA := gwA_at 1104 (by decide +kernel) rfl
theorem gw_1105 : Jvm.Cond.static ({ cls := "GraticulePressModel", name := "columnAt", desc := "(III)I" } : Jvm.MethodName) ∈ gwA := gwA_at 1105 (by decide +kernel) rfl
theorem gw_1106 : Jvm.Cond.code ({ cls := "GraticulePressModel", name := "columnAt", desc := "(III)I" } : Jvm.MethodName) prog_9_method_19_code (3 : Nat) (Option.some Jvm.ClassFile.FieldType.int) ∈ gwA := gwA_at 1106 (by decide +kernel) rfl
theorem gw_1107 : Jvm.Cond.methodLink "GraticulePressModel" (141 : Nat) ({ cls := "GraticulePressModel", name := "puts", desc := "(III)V" } : Jvm.MethodName) ∈ gwA := gwA_at 1107 (by decide +kernel) rfl
theorem gw_1109 : Jvm.Cond.instanceMethod ({ cls := "GraticulePressModel", name := "puts", desc := "(III)V" } : Jvm.MethodName) ∈ gwA := gwA_at 1109 (by decide +kernel) rfl
theorem gw_1110 : Jvm.Cond.code ({ cls := "GraticulePressModel", name := "puts", desc := "(III)V" } : Jvm.MethodName) prog_9_method_21_code (7 : Nat) (Option.none : Option Jvm.ClassFile.FieldType) ∈ gwA := gwA_at 1110 (by decide +kernel) rfl
theorem gw_1111 : Jvm.Cond.methodLink "GraticulePressLaw" (85 : Nat) ({ cls := "GraticulePressModel", name := "spelled", desc := "(III)C" } : Jvm.MethodName) ∈ gwA := gwA_at 1111 (by decide +kernel) rfl
theorem gw_1112 : Jvm.Cond.instanceMethod ({ cls := "GraticulePressModel", name := "spelled", desc := "(III)C" } : Jvm.MethodName) ∈ gwA := gwA_at 1112 (by decide +kernel) rfl
theorem gw_1113 : Jvm.Cond.selects "GraticulePressModel" ({ cls := "GraticulePressModel", name := "spelled", desc := "(III)C" } : Jvm.MethodName) ({ cls := "GraticulePressModel", name := "spelled", desc := "(III)C" } : Jvm.MethodName) ∈ gwA := gwA_at 1113 (by decide +kernel) rfl
theorem gw_1114 : Jvm.Cond.code ({ cls := "GraticulePressModel", name := "spelled", desc := "(III)C" } : Jvm.MethodName) prog_9_method_11_code (5 : Nat) (Option.some Jvm.ClassFile.FieldType.char) ∈ gwA := gwA_at 1114 (by decide +kernel) rfl
theorem gw_1115 : Jvm.Cond.methodLink "GraticulePressLaw" (88 : Nat) ({ cls := "GraticulePressModel", name := "pass", desc := "(I)I" } : Jvm.MethodName) ∈ gwA := gwA_at 1115 (by decide +kernel) rfl
theorem gw_1116 : Jvm.Cond.instanceMethod ({ cls := "GraticulePressModel", name := "pass", desc := "(I)I" } : Jvm.MethodName) ∈ gwA := gwA_at 1116 (by decide +kernel) rfl
theorem gw_1117 : Jvm.Cond.selects "GraticulePressModel" ({ cls := "GraticulePressModel", name := "pass", desc := "(I)I" } : Jvm.MethodName) ({ cls := "GraticulePressModel", name := "pass", desc := "(I)I" } : Jvm.MethodName) ∈ gwA := gwA_at 1117 (by decide +kernel) rfl
theorem gw_1118 : Jvm.Cond.code ({ cls := "GraticulePressModel", name := "pass", desc := "(I)I" } : Jvm.MethodName) prog_9_method_12_code (2 : Nat) (Option.some Jvm.ClassFile.FieldType.int) ∈ gwA := gwA_at 1118 (by decide +kernel) rfl
theorem gw_1119 : Jvm.Cond.methodLink "GraticulePressLaw" (91 : Nat) ({ cls := "GraticulePressModel", name := "sheet", desc := "(III)I" } : Jvm.MethodName) ∈ gwA := gwA_at 1119 (by decide +kernel) rfl
theorem gw_1120 : Jvm.Cond.instanceMethod ({ cls := "GraticulePressModel", name := "sheet", desc := "(III)I" } : Jvm.MethodName) ∈ gwA := gwA_at 1120 (by decide +kernel) rfl
theorem gw_1121 : Jvm.Cond.selects "GraticulePressModel" ({ cls := "GraticulePressModel", name := "sheet", desc := "(III)I" } : Jvm.MethodName) ({ cls := "GraticulePressModel", name := "sheet", desc := "(III)I" } : Jvm.MethodName) ∈ gwA := gwA_at 1121 (by decide +kernel) rfl
theorem gw_1122 : Jvm.Cond.code ({ cls := "GraticulePressModel", name := "sheet", desc := "(III)I" } : Jvm.MethodName) prog_9_method_13_code (4 : Nat) (Option.some Jvm.ClassFile.FieldType.int) ∈ gwA := gwA_at 1122 (by decide +kernel) rfl
theorem gw_1123 : Jvm.Cond.methodLink "GraticulePressLaw" (95 : Nat) ({ cls := "GraticulePressModel", name := "dot", desc := "(IIZ)I" } : Jvm.MethodName) ∈ gwA := gwA_at 1123 (by decide +kernel) rfl
theorem gw_1124 : Jvm.Cond.instanceMethod ({ cls := "GraticulePressModel", name := "dot", desc := "(IIZ)I" } : Jvm.MethodName) ∈ gwA := gwA_at 1124 (by decide +kernel) rfl
theorem gw_1125 : Jvm.Cond.selects "GraticulePressModel" ({ cls := "GraticulePressModel", name := "dot", desc := "(IIZ)I" } : Jvm.MethodName) ({ cls := "GraticulePressModel", name := "dot", desc := "(IIZ)I" } : Jvm.MethodName) ∈ gwA := gwA_at 1125 (by decide +kernel) rfl
theorem gw_1126 : Jvm.Cond.code ({ cls := "GraticulePressModel", name := "dot", desc := "(IIZ)I" } : Jvm.MethodName) prog_9_method_25_code (4 : Nat) (Option.some Jvm.ClassFile.FieldType.int) ∈ gwA := gwA_at 1126 (by decide +kernel) rfl
theorem gw_1127 : Jvm.Cond.methodLink "GraticulePressModel" (145 : Nat) ({ cls := "GraticulePressModel", name := "isSheet", desc := "(I)Z" } : Jvm.MethodName) ∈ gwA := gwA_at 1127 (by decide +kernel) rfl
theorem gw_1129 : Jvm.Cond.instanceMethod ({ cls := "GraticulePressModel", name := "isSheet", desc := "(I)Z" } : Jvm.MethodName) ∈ gwA := gwA_at 1129 (by decide +kernel) rfl
theorem gw_1130 : Jvm.Cond.code ({ cls := "GraticulePressModel", name := "isSheet", desc := "(I)Z" } : Jvm.MethodName) prog_9_method_6_code (2 : Nat) (Option.some Jvm.ClassFile.FieldType.boolean) ∈ gwA := gwA_at 1130 (by decide +kernel) rfl
theorem gw_1131 : Jvm.Cond.methodLink "GraticulePressLaw" (99 : Nat) ({ cls := "GraticulePressModel", name := "side", desc := "(II)I" } : Jvm.MethodName) ∈ gwA := gwA_at 1131 (by decide +kernel) rfl
theorem gw_1132 : Jvm.Cond.instanceMethod ({ cls := "GraticulePressModel", name := "side", desc := "(II)I" } : Jvm.MethodName) ∈ gwA := gwA_at 1132 (by decide +kernel) rfl
theorem gw_1133 : Jvm.Cond.selects "GraticulePressModel" ({ cls := "GraticulePressModel", name := "side", desc := "(II)I" } : Jvm.MethodName) ({ cls := "GraticulePressModel", name := "side", desc := "(II)I" } : Jvm.MethodName) ∈ gwA := gwA_at 1133 (by decide +kernel) rfl
theorem gw_1134 : Jvm.Cond.code ({ cls := "GraticulePressModel", name := "side", desc := "(II)I" } : Jvm.MethodName) prog_9_method_26_code (3 : Nat) (Option.some Jvm.ClassFile.FieldType.int) ∈ gwA := gwA_at 1134 (by decide +kernel) rfl
theorem gw_1135 : Jvm.Cond.methodLink "GraticulePressLaw" (102 : Nat) ({ cls := "GraticulePressModel", name := "drawn", desc := "(III)C" } : Jvm.MethodName) ∈ gwA := gwA_at 1135 (by decide +kernel) rfl
theorem gw_1136 : Jvm.Cond.instanceMethod ({ cls := "GraticulePressModel", name := "drawn", desc := "(III)C" } : Jvm.MethodName) ∈ gwA := gwA_at 1136 (by decide +kernel) rfl
theorem gw_1137 : Jvm.Cond.selects "GraticulePressModel" ({ cls := "GraticulePressModel", name := "drawn", desc := "(III)C" } : Jvm.MethodName) ({ cls := "GraticulePressModel", name := "drawn", desc := "(III)C" } : Jvm.MethodName) ∈ gwA := gwA_at 1137 (by decide +kernel) rfl
theorem gw_1138 : Jvm.Cond.code ({ cls := "GraticulePressModel", name := "drawn", desc := "(III)C" } : Jvm.MethodName) prog_9_method_28_code (4 : Nat) (Option.some Jvm.ClassFile.FieldType.char) ∈ gwA := gwA_at 1138 (by decide +kernel) rfl
theorem gw_1139 : Jvm.Cond.methodLink "GraticulePressModel" (148 : Nat) ({ cls := "GraticulePressModel", name := "isCell", desc := "(II)Z" } : Jvm.MethodName) ∈ gwA := gwA_at 1139 (by decide +kernel) rfl
theorem gw_1140 : Jvm.Cond.static ({ cls := "GraticulePressModel", name := "isCell", desc := "(II)Z" } : Jvm.MethodName) ∈ gwA := gwA_at 1140 (by decide +kernel) rfl
theorem gw_1141 : Jvm.Cond.code ({ cls := "GraticulePressModel", name := "isCell", desc := "(II)Z" } : Jvm.MethodName) prog_9_method_27_code (2 : Nat) (Option.some Jvm.ClassFile.FieldType.boolean) ∈ gwA := gwA_at 1141 (by decide +kernel) rfl
theorem gw_1142 : Jvm.Cond.methodLink "GraticulePressLaw" (105 : Nat) ({ cls := "GraticulePressModel", name := "worth", desc := "(I)I" } : Jvm.MethodName) ∈ gwA := gwA_at 1142 (by decide +kernel) rfl
theorem gw_1143 : Jvm.Cond.instanceMethod ({ cls := "GraticulePressModel", name := "worth", desc := "(I)I" } : Jvm.MethodName) ∈ gwA := gwA_at 1143 (by decide +kernel) rfl
theorem gw_1144 : Jvm.Cond.selects "GraticulePressModel" ({ cls := "GraticulePressModel", name := "worth", desc := "(I)I" } : Jvm.MethodName) ({ cls := "GraticulePressModel", name := "worth", desc := "(I)I" } : Jvm.MethodName) ∈ gwA := gwA_at 1144 (by decide +kernel) rfl
theorem gw_1145 : Jvm.Cond.code ({ cls := "GraticulePressModel", name := "worth", desc := "(I)I" } : Jvm.MethodName) prog_9_method_29_code (4 : Nat) (Option.some Jvm.ClassFile.FieldType.int) ∈ gwA := gwA_at 1145 (by decide +kernel) rfl
theorem gw_1146 : Jvm.Cond.methodLink "GraticulePressLaw" (108 : Nat) ({ cls := "GraticulePressModel", name := "best", desc := "(I)I" } : Jvm.MethodName) ∈ gwA := gwA_at 1146 (by decide +kernel) rfl
theorem gw_1147 : Jvm.Cond.instanceMethod ({ cls := "GraticulePressModel", name := "best", desc := "(I)I" } : Jvm.MethodName) ∈ gwA := gwA_at 1147 (by decide +kernel) rfl
theorem gw_1148 : Jvm.Cond.selects "GraticulePressModel" ({ cls := "GraticulePressModel", name := "best", desc := "(I)I" } : Jvm.MethodName) ({ cls := "GraticulePressModel", name := "best", desc := "(I)I" } : Jvm.MethodName) ∈ gwA := gwA_at 1148 (by decide +kernel) rfl
theorem gw_1149 : Jvm.Cond.code ({ cls := "GraticulePressModel", name := "best", desc := "(I)I" } : Jvm.MethodName) prog_9_method_32_code (6 : Nat) (Option.some Jvm.ClassFile.FieldType.int) ∈ gwA := gwA_at 1149 (by decide +kernel) rfl
theorem gw_1150 : Jvm.Cond.methodLink "GraticulePressModel" (157 : Nat) ({ cls := "GraticulePressModel", name := "canTry", desc := "(I)Z" } : Jvm.MethodName) ∈ gwA := gwA_at 1150 (by decide +kernel) rfl
theorem gw_1152 : Jvm.Cond.instanceMethod ({ cls := "GraticulePressModel", name := "canTry", desc := "(I)Z" } : Jvm.MethodName) ∈ gwA := gwA_at 1152 (by decide +kernel) rfl
theorem gw_1153 : Jvm.Cond.code ({ cls := "GraticulePressModel", name := "canTry", desc := "(I)Z" } : Jvm.MethodName) prog_9_method_30_code (4 : Nat) (Option.some Jvm.ClassFile.FieldType.boolean) ∈ gwA := gwA_at 1153 (by decide +kernel) rfl
theorem gw_1154 : Jvm.Cond.methodLink "GraticulePressModel" (160 : Nat) ({ cls := "GraticulePressModel", name := "worthOf", desc := "(I)I" } : Jvm.MethodName) ∈ gwA := gwA_at 1154 (by decide +kernel) rfl
theorem gw_1156 : Jvm.Cond.instanceMethod ({ cls := "GraticulePressModel", name := "worthOf", desc := "(I)I" } : Jvm.MethodName) ∈ gwA := gwA_at 1156 (by decide +kernel) rfl
theorem gw_1157 : Jvm.Cond.code ({ cls := "GraticulePressModel", name := "worthOf", desc := "(I)I" } : Jvm.MethodName) prog_9_method_31_code (8 : Nat) (Option.some Jvm.ClassFile.FieldType.int) ∈ gwA := gwA_at 1157 (by decide +kernel) rfl
theorem gw_1158 : Jvm.Cond.methodLink "GraticulePressModel" (154 : Nat) ({ cls := "GraticulePressModel", name := "takes", desc := "(III)V" } : Jvm.MethodName) ∈ gwA := gwA_at 1158 (by decide +kernel) rfl
theorem gw_1160 : Jvm.Cond.instanceMethod ({ cls := "GraticulePressModel", name := "takes", desc := "(III)V" } : Jvm.MethodName) ∈ gwA := gwA_at 1160 (by decide +kernel) rfl
theorem gw_1161 : Jvm.Cond.code ({ cls := "GraticulePressModel", name := "takes", desc := "(III)V" } : Jvm.MethodName) prog_9_method_22_code (7 : Nat) (Option.none : Option Jvm.ClassFile.FieldType) ∈ gwA := gwA_at 1161 (by decide +kernel) rfl
theorem gw_1162 : Jvm.Cond.methodLink "GraticulePressLaw" (112 : Nat) ({ cls := "GraticulePressModel", name := "print", desc := "()I" } : Jvm.MethodName) ∈ gwA := gwA_at 1162 (by decide +kernel) rfl
theorem gw_1163 : Jvm.Cond.instanceMethod ({ cls := "GraticulePressModel", name := "print", desc := "()I" } : Jvm.MethodName) ∈ gwA := gwA_at 1163 (by decide +kernel) rfl
theorem gw_1164 : Jvm.Cond.selects "GraticulePressModel" ({ cls := "GraticulePressModel", name := "print", desc := "()I" } : Jvm.MethodName) ({ cls := "GraticulePressModel", name := "print", desc := "()I" } : Jvm.MethodName) ∈ gwA := gwA_at 1164 (by decide +kernel) rfl
theorem gw_1165 : Jvm.Cond.code ({ cls := "GraticulePressModel", name := "print", desc := "()I" } : Jvm.MethodName) prog_9_method_33_code (3 : Nat) (Option.some Jvm.ClassFile.FieldType.int) ∈ gwA := gwA_at 1165 (by decide +kernel) rfl
theorem gw_1166 : Jvm.Cond.methodLink "GraticulePressLaw" (116 : Nat) ({ cls := "GraticulePressModel", name := "printed", desc := "(IIII)C" } : Jvm.MethodName) ∈ gwA := gwA_at 1166 (by decide +kernel) rfl
theorem gw_1167 : Jvm.Cond.instanceMethod ({ cls := "GraticulePressModel", name := "printed", desc := "(IIII)C" } : Jvm.MethodName) ∈ gwA := gwA_at 1167 (by decide +kernel) rfl
theorem gw_1168 : Jvm.Cond.selects "GraticulePressModel" ({ cls := "GraticulePressModel", name := "printed", desc := "(IIII)C" } : Jvm.MethodName) ({ cls := "GraticulePressModel", name := "printed", desc := "(IIII)C" } : Jvm.MethodName) ∈ gwA := gwA_at 1168 (by decide +kernel) rfl
theorem gw_1169 : Jvm.Cond.code ({ cls := "GraticulePressModel", name := "printed", desc := "(IIII)C" } : Jvm.MethodName) prog_9_method_34_code (7 : Nat) (Option.some Jvm.ClassFile.FieldType.char) ∈ gwA := gwA_at 1169 (by decide +kernel) rfl
theorem gw_1170 : Jvm.Cond.arrayClass Jvm.ClassFile.FieldType.long ∈ gwA := gwA_at 1170 (by decide +kernel) rfl
theorem gwu_0 : ∀ w ∈ u_ws RJ0 TJ0 4, w ∈ gwA := gwA_all (by decide +kernel)
theorem gwu_1 : ∀ w ∈ u_ws RJ4 TJ4 4, w ∈ gwA := gwA_all (by decide +kernel)
theorem gwu_2 : ∀ w ∈ u_ws RJx00060 TJx00060 6, w ∈ gwA := gwA_all (by decide +kernel)
theorem gwu_3 : ∀ w ∈ u_ws RJx7c733 TJx7c733 6, w ∈ gwA := gwA_all (by decide +kernel)
theorem gwu_4 : ∀ w ∈ u_ws RX0 TX0 1, w ∈ gwA := gwA_all (by decide +kernel)
theorem gwu_5 : ∀ w ∈ u_ws RX1 TX1 1, w ∈ gwA := gwA_all (by decide +kernel)
theorem gwu_6 : ∀ w ∈ u_ws RX2 TX2 5, w ∈ gwA := gwA_all (by decide +kernel)
theorem gwu_7 : ∀ w ∈ u_ws RX3 TX3 9, w ∈ gwA := gwA_all (by decide +kernel)
theorem gwu_8 : ∀ w ∈ u_ws RX4 TX4 2, w ∈ gwA := gwA_all (by decide +kernel)
theorem gwu_9 : ∀ w ∈ u_ws RX5 TX5 7, w ∈ gwA := gwA_all (by decide +kernel)
theorem gwu_10 : ∀ w ∈ u_ws RX6 TX6 8, w ∈ gwA := gwA_all (by decide +kernel)
theorem gwu_11 : ∀ w ∈ u_ws RX7 TX7 28, w ∈ gwA := gwA_all (by decide +kernel)
theorem gf_RJ5_15 : gFd RJ5 15 1 0 := ⟨RJ4, TJ4, 4, rfl, gwu_1, by decide, gw_54⟩
theorem gp_RJ5_15 : gFw RJ5 15 1 0 false (tyJ4 0) := ⟨RJ4, TJ4, 4, rfl, gwu_1, by decide, gw_54, ⟨tyJ4, tyJ4_ok, rfl⟩, nmJ4, rfl, fun h => by cases h⟩
theorem gf_RJ5_22 : gFd RJ5 22 1 1 := ⟨RJ4, TJ4, 4, rfl, gwu_1, by decide, gw_55⟩
theorem gp_RJ5_22 : gFw RJ5 22 1 1 false (tyJ4 1) := ⟨RJ4, TJ4, 4, rfl, gwu_1, by decide, gw_55, ⟨tyJ4, tyJ4_ok, rfl⟩, nmJ4, rfl, fun h => by cases h⟩
theorem gf_RJ5_73 : gFd RJ5 73 1 2 := ⟨RJ4, TJ4, 4, rfl, gwu_1, by decide, gw_56⟩
theorem gp_RJ5_73 : gFw RJ5 73 1 2 false (tyJ4 2) := ⟨RJ4, TJ4, 4, rfl, gwu_1, by decide, gw_56, ⟨tyJ4, tyJ4_ok, rfl⟩, nmJ4, rfl, fun h => by cases h⟩
theorem gf_RJ0_1048 : gFd RJ0 1048 1 2 := ⟨RJ4, TJ4, 4, rfl, gwu_1, by decide, gw_57⟩
theorem gp_RJ0_1048 : gFw RJ0 1048 1 2 false (tyJ4 2) := ⟨RJ4, TJ4, 4, rfl, gwu_1, by decide, gw_57, ⟨tyJ4, tyJ4_ok, rfl⟩, nmJ4, rfl, fun h => by cases h⟩
theorem gf_RJ5_79 : gFd RJ5 79 1 3 := ⟨RJ4, TJ4, 4, rfl, gwu_1, by decide, gw_58⟩
theorem gp_RJ5_79 : gFw RJ5 79 1 3 false (tyJ4 3) := ⟨RJ4, TJ4, 4, rfl, gwu_1, by decide, gw_58, ⟨tyJ4, tyJ4_ok, rfl⟩, nmJ4, rfl, fun h => by cases h⟩
theorem gf_RX6_10 : gFd RX6 10 10 0 := ⟨RX6, TX6, 8, rfl, gwu_10, by decide, gw_75⟩
theorem gp_RX6_10 : gFw RX6 10 10 0 true (tyX6 0) := ⟨RX6, TX6, 8, rfl, gwu_10, by decide, gw_75, ⟨tyX6, tyX6_ok, rfl⟩, nmX6, rfl, fun _ => rfl⟩
theorem gf_RX6_18 : gFd RX6 18 10 1 := ⟨RX6, TX6, 8, rfl, gwu_10, by decide, gw_76⟩
theorem gp_RX6_18 : gFw RX6 18 10 1 true (tyX6 1) := ⟨RX6, TX6, 8, rfl, gwu_10, by decide, gw_76, ⟨tyX6, tyX6_ok, rfl⟩, nmX6, rfl, fun _ => rfl⟩
theorem gf_RX6_24 : gFd RX6 24 10 2 := ⟨RX6, TX6, 8, rfl, gwu_10, by decide, gw_77⟩
theorem gp_RX6_24 : gFw RX6 24 10 2 true (tyX6 2) := ⟨RX6, TX6, 8, rfl, gwu_10, by decide, gw_77, ⟨tyX6, tyX6_ok, rfl⟩, nmX6, rfl, fun _ => rfl⟩
theorem gf_RX6_30 : gFd RX6 30 10 3 := ⟨RX6, TX6, 8, rfl, gwu_10, by decide, gw_78⟩
theorem gp_RX6_30 : gFw RX6 30 10 3 true (tyX6 3) := ⟨RX6, TX6, 8, rfl, gwu_10, by decide, gw_78, ⟨tyX6, tyX6_ok, rfl⟩, nmX6, rfl, fun _ => rfl⟩
theorem gf_RX6_34 : gFd RX6 34 10 4 := ⟨RX6, TX6, 8, rfl, gwu_10, by decide, gw_79⟩
theorem gp_RX6_34 : gFw RX6 34 10 4 false (tyX6 4) := ⟨RX6, TX6, 8, rfl, gwu_10, by decide, gw_79, ⟨tyX6, tyX6_ok, rfl⟩, nmX6, rfl, fun h => by cases h⟩
theorem gf_RX6_38 : gFd RX6 38 10 5 := ⟨RX6, TX6, 8, rfl, gwu_10, by decide, gw_80⟩
theorem gp_RX6_38 : gFw RX6 38 10 5 false (tyX6 5) := ⟨RX6, TX6, 8, rfl, gwu_10, by decide, gw_80, ⟨tyX6, tyX6_ok, rfl⟩, nmX6, rfl, fun h => by cases h⟩
theorem gf_RX6_41 : gFd RX6 41 10 6 := ⟨RX6, TX6, 8, rfl, gwu_10, by decide, gw_81⟩
theorem gp_RX6_41 : gFw RX6 41 10 6 false (tyX6 6) := ⟨RX6, TX6, 8, rfl, gwu_10, by decide, gw_81, ⟨tyX6, tyX6_ok, rfl⟩, nmX6, rfl, fun h => by cases h⟩
theorem gf_RX6_44 : gFd RX6 44 10 7 := ⟨RX6, TX6, 8, rfl, gwu_10, by decide, gw_82⟩
theorem gp_RX6_44 : gFw RX6 44 10 7 false (tyX6 7) := ⟨RX6, TX6, 8, rfl, gwu_10, by decide, gw_82, ⟨tyX6, tyX6_ok, rfl⟩, nmX6, rfl, fun h => by cases h⟩
theorem gf_RX2_9 : gFd RX2 9 6 0 := ⟨RX2, TX2, 5, rfl, gwu_6, by decide, gw_315⟩
theorem gp_RX2_9 : gFw RX2 9 6 0 true (tyX2 0) := ⟨RX2, TX2, 5, rfl, gwu_6, by decide, gw_315, ⟨tyX2, tyX2_ok, rfl⟩, nmX2, rfl, fun _ => rfl⟩
theorem gf_RX3_60 : gFd RX3 60 6 0 := ⟨RX2, TX2, 5, rfl, gwu_6, by decide, gw_316⟩
theorem gf_RX2_15 : gFd RX2 15 6 1 := ⟨RX2, TX2, 5, rfl, gwu_6, by decide, gw_317⟩
theorem gp_RX2_15 : gFw RX2 15 6 1 true (tyX2 1) := ⟨RX2, TX2, 5, rfl, gwu_6, by decide, gw_317, ⟨tyX2, tyX2_ok, rfl⟩, nmX2, rfl, fun _ => rfl⟩
theorem gf_RX3_67 : gFd RX3 67 6 1 := ⟨RX2, TX2, 5, rfl, gwu_6, by decide, gw_318⟩
theorem gf_RX5_15 : gFd RX5 15 6 2 := ⟨RX2, TX2, 5, rfl, gwu_6, by decide, gw_319⟩
theorem gf_RX2_18 : gFd RX2 18 6 2 := ⟨RX2, TX2, 5, rfl, gwu_6, by decide, gw_320⟩
theorem gp_RX2_18 : gFw RX2 18 6 2 true (tyX2 2) := ⟨RX2, TX2, 5, rfl, gwu_6, by decide, gw_320, ⟨tyX2, tyX2_ok, rfl⟩, nmX2, rfl, fun _ => rfl⟩
theorem gf_RX2_23 : gFd RX2 23 6 3 := ⟨RX2, TX2, 5, rfl, gwu_6, by decide, gw_321⟩
theorem gp_RX2_23 : gFw RX2 23 6 3 true (tyX2 3) := ⟨RX2, TX2, 5, rfl, gwu_6, by decide, gw_321, ⟨tyX2, tyX2_ok, rfl⟩, nmX2, rfl, fun _ => rfl⟩
theorem gf_RX2_27 : gFd RX2 27 6 4 := ⟨RX2, TX2, 5, rfl, gwu_6, by decide, gw_322⟩
theorem gp_RX2_27 : gFw RX2 27 6 4 false (tyX2 4) := ⟨RX2, TX2, 5, rfl, gwu_6, by decide, gw_322, ⟨tyX2, tyX2_ok, rfl⟩, nmX2, rfl, fun h => by cases h⟩
theorem gf_RX5_21 : gFd RX5 21 9 0 := ⟨RX5, TX5, 7, rfl, gwu_9, by decide, gw_367⟩
theorem gp_RX5_21 : gFw RX5 21 9 0 true (tyX5 0) := ⟨RX5, TX5, 7, rfl, gwu_9, by decide, gw_367, ⟨tyX5, tyX5_ok, rfl⟩, nmX5, rfl, fun _ => rfl⟩
theorem gf_RX3_87 : gFd RX3 87 9 0 := ⟨RX5, TX5, 7, rfl, gwu_9, by decide, gw_368⟩
theorem gf_RX5_22 : gFd RX5 22 9 1 := ⟨RX5, TX5, 7, rfl, gwu_9, by decide, gw_369⟩
theorem gp_RX5_22 : gFw RX5 22 9 1 true (tyX5 1) := ⟨RX5, TX5, 7, rfl, gwu_9, by decide, gw_369, ⟨tyX5, tyX5_ok, rfl⟩, nmX5, rfl, fun _ => rfl⟩
theorem gf_RX6_157 : gFd RX6 157 9 1 := ⟨RX5, TX5, 7, rfl, gwu_9, by decide, gw_370⟩
theorem gf_RX3_103 : gFd RX3 103 9 1 := ⟨RX5, TX5, 7, rfl, gwu_9, by decide, gw_371⟩
theorem gf_RX5_25 : gFd RX5 25 9 2 := ⟨RX5, TX5, 7, rfl, gwu_9, by decide, gw_372⟩
theorem gp_RX5_25 : gFw RX5 25 9 2 true (tyX5 2) := ⟨RX5, TX5, 7, rfl, gwu_9, by decide, gw_372, ⟨tyX5, tyX5_ok, rfl⟩, nmX5, rfl, fun _ => rfl⟩
theorem gf_RX6_152 : gFd RX6 152 9 2 := ⟨RX5, TX5, 7, rfl, gwu_9, by decide, gw_373⟩
theorem gf_RX3_100 : gFd RX3 100 9 2 := ⟨RX5, TX5, 7, rfl, gwu_9, by decide, gw_374⟩
theorem gf_RX5_9 : gFd RX5 9 9 3 := ⟨RX5, TX5, 7, rfl, gwu_9, by decide, gw_375⟩
theorem gp_RX5_9 : gFw RX5 9 9 3 true (tyX5 3) := ⟨RX5, TX5, 7, rfl, gwu_9, by decide, gw_375, ⟨tyX5, tyX5_ok, rfl⟩, nmX5, rfl, fun _ => rfl⟩
theorem gf_RX5_28 : gFd RX5 28 9 4 := ⟨RX5, TX5, 7, rfl, gwu_9, by decide, gw_376⟩
theorem gp_RX5_28 : gFw RX5 28 9 4 false (tyX5 4) := ⟨RX5, TX5, 7, rfl, gwu_9, by decide, gw_376, ⟨tyX5, tyX5_ok, rfl⟩, nmX5, rfl, fun h => by cases h⟩
theorem gf_RX5_32 : gFd RX5 32 9 5 := ⟨RX5, TX5, 7, rfl, gwu_9, by decide, gw_377⟩
theorem gp_RX5_32 : gFw RX5 32 9 5 false (tyX5 5) := ⟨RX5, TX5, 7, rfl, gwu_9, by decide, gw_377, ⟨tyX5, tyX5_ok, rfl⟩, nmX5, rfl, fun h => by cases h⟩
theorem gf_RX5_35 : gFd RX5 35 9 6 := ⟨RX5, TX5, 7, rfl, gwu_9, by decide, gw_380⟩
theorem gp_RX5_35 : gFw RX5 35 9 6 false (tyX5 6) := ⟨RX5, TX5, 7, rfl, gwu_9, by decide, gw_380, ⟨tyX5, tyX5_ok, rfl⟩, nmX5, rfl, fun h => by cases h⟩
theorem gf_RJ0_9 : gFd RJ0 9 0 0 := ⟨RJ0, TJ0, 4, rfl, gwu_0, by decide, gw_642⟩
theorem gp_RJ0_9 : gFw RJ0 9 0 0 true (tyJ0 0) := ⟨RJ0, TJ0, 4, rfl, gwu_0, by decide, gw_642, ⟨tyJ0, tyJ0_ok, rfl⟩, nmJ0, rfl, fun _ => rfl⟩
theorem gf_RJ0_15 : gFd RJ0 15 0 1 := ⟨RJ0, TJ0, 4, rfl, gwu_0, by decide, gw_643⟩
theorem gp_RJ0_15 : gFw RJ0 15 0 1 true (tyJ0 1) := ⟨RJ0, TJ0, 4, rfl, gwu_0, by decide, gw_643, ⟨tyJ0, tyJ0_ok, rfl⟩, nmJ0, rfl, fun _ => rfl⟩
theorem gf_RX4_7 : gFd RX4 7 8 0 := ⟨RX4, TX4, 2, rfl, gwu_8, by decide, gw_657⟩
theorem gp_RX4_7 : gFw RX4 7 8 0 true (tyX4 0) := ⟨RX4, TX4, 2, rfl, gwu_8, by decide, gw_657, ⟨tyX4, tyX4_ok, rfl⟩, nmX4, rfl, fun _ => rfl⟩
theorem gf_RX2_30 : gFd RX2 30 8 0 := ⟨RX4, TX4, 2, rfl, gwu_8, by decide, gw_658⟩
theorem gf_RX4_13 : gFd RX4 13 8 1 := ⟨RX4, TX4, 2, rfl, gwu_8, by decide, gw_659⟩
theorem gp_RX4_13 : gFw RX4 13 8 1 true (tyX4 1) := ⟨RX4, TX4, 2, rfl, gwu_8, by decide, gw_659, ⟨tyX4, tyX4_ok, rfl⟩, nmX4, rfl, fun _ => rfl⟩
theorem gf_RX2_33 : gFd RX2 33 8 1 := ⟨RX4, TX4, 2, rfl, gwu_8, by decide, gw_660⟩
theorem gf_RX1_9 : gFd RX1 9 5 0 := ⟨RX1, TX1, 1, rfl, gwu_5, by decide, gw_787⟩
theorem gp_RX1_9 : gFw RX1 9 5 0 true (tyX1 0) := ⟨RX1, TX1, 1, rfl, gwu_5, by decide, gw_787, ⟨tyX1, tyX1_ok, rfl⟩, nmX1, rfl, fun _ => rfl⟩
theorem gf_RX3_24 : gFd RX3 24 7 0 := ⟨RX3, TX3, 9, rfl, gwu_7, by decide, gw_793⟩
theorem gp_RX3_24 : gFw RX3 24 7 0 true (tyX3 0) := ⟨RX3, TX3, 9, rfl, gwu_7, by decide, gw_793, ⟨tyX3, tyX3_ok, rfl⟩, nmX3, rfl, fun _ => rfl⟩
theorem gf_RX6_173 : gFd RX6 173 7 0 := ⟨RX3, TX3, 9, rfl, gwu_7, by decide, gw_794⟩
theorem gf_RX3_28 : gFd RX3 28 7 1 := ⟨RX3, TX3, 9, rfl, gwu_7, by decide, gw_795⟩
theorem gp_RX3_28 : gFw RX3 28 7 1 true (tyX3 1) := ⟨RX3, TX3, 9, rfl, gwu_7, by decide, gw_795, ⟨tyX3, tyX3_ok, rfl⟩, nmX3, rfl, fun _ => rfl⟩
theorem gf_RX3_9 : gFd RX3 9 7 2 := ⟨RX3, TX3, 9, rfl, gwu_7, by decide, gw_796⟩
theorem gp_RX3_9 : gFw RX3 9 7 2 true (tyX3 2) := ⟨RX3, TX3, 9, rfl, gwu_7, by decide, gw_796, ⟨tyX3, tyX3_ok, rfl⟩, nmX3, rfl, fun _ => rfl⟩
theorem gf_RX3_15 : gFd RX3 15 7 3 := ⟨RX3, TX3, 9, rfl, gwu_7, by decide, gw_797⟩
theorem gp_RX3_15 : gFw RX3 15 7 3 true (tyX3 3) := ⟨RX3, TX3, 9, rfl, gwu_7, by decide, gw_797, ⟨tyX3, tyX3_ok, rfl⟩, nmX3, rfl, fun _ => rfl⟩
theorem gf_RX3_18 : gFd RX3 18 7 4 := ⟨RX3, TX3, 9, rfl, gwu_7, by decide, gw_798⟩
theorem gp_RX3_18 : gFw RX3 18 7 4 true (tyX3 4) := ⟨RX3, TX3, 9, rfl, gwu_7, by decide, gw_798, ⟨tyX3, tyX3_ok, rfl⟩, nmX3, rfl, fun _ => rfl⟩
theorem gf_RX3_33 : gFd RX3 33 7 5 := ⟨RX3, TX3, 9, rfl, gwu_7, by decide, gw_799⟩
theorem gp_RX3_33 : gFw RX3 33 7 5 true (tyX3 5) := ⟨RX3, TX3, 9, rfl, gwu_7, by decide, gw_799, ⟨tyX3, tyX3_ok, rfl⟩, nmX3, rfl, fun _ => rfl⟩
theorem gf_RX3_40 : gFd RX3 40 7 6 := ⟨RX3, TX3, 9, rfl, gwu_7, by decide, gw_800⟩
theorem gp_RX3_40 : gFw RX3 40 7 6 false (tyX3 6) := ⟨RX3, TX3, 9, rfl, gwu_7, by decide, gw_800, ⟨tyX3, tyX3_ok, rfl⟩, nmX3, rfl, fun h => by cases h⟩
theorem gf_RX3_37 : gFd RX3 37 7 7 := ⟨RX3, TX3, 9, rfl, gwu_7, by decide, gw_801⟩
theorem gp_RX3_37 : gFw RX3 37 7 7 true (tyX3 7) := ⟨RX3, TX3, 9, rfl, gwu_7, by decide, gw_801, ⟨tyX3, tyX3_ok, rfl⟩, nmX3, rfl, fun _ => rfl⟩
theorem gf_RX3_43 : gFd RX3 43 7 8 := ⟨RX3, TX3, 9, rfl, gwu_7, by decide, gw_802⟩
theorem gp_RX3_43 : gFw RX3 43 7 8 false (tyX3 8) := ⟨RX3, TX3, 9, rfl, gwu_7, by decide, gw_802, ⟨tyX3, tyX3_ok, rfl⟩, nmX3, rfl, fun h => by cases h⟩
theorem gf_RX0_11 : gFd RX0 11 4 0 := ⟨RX0, TX0, 1, rfl, gwu_4, by decide, gw_915⟩
theorem gp_RX0_11 : gFw RX0 11 4 0 true (tyX0 0) := ⟨RX0, TX0, 1, rfl, gwu_4, by decide, gw_915, ⟨tyX0, tyX0_ok, rfl⟩, nmX0, rfl, fun _ => rfl⟩
theorem gf_RX7_103 : gFd RX7 103 11 0 := ⟨RX7, TX7, 28, rfl, gwu_11, by decide, gw_952⟩
theorem gp_RX7_103 : gFw RX7 103 11 0 false (tyX7 0) := ⟨RX7, TX7, 28, rfl, gwu_11, by decide, gw_952, ⟨tyX7, tyX7_ok, rfl⟩, nmX7, rfl, fun h => by cases h⟩
theorem gf_RX7_88 : gFd RX7 88 11 1 := ⟨RX7, TX7, 28, rfl, gwu_11, by decide, gw_953⟩
theorem gp_RX7_88 : gFw RX7 88 11 1 false (tyX7 1) := ⟨RX7, TX7, 28, rfl, gwu_11, by decide, gw_953, ⟨tyX7, tyX7_ok, rfl⟩, nmX7, rfl, fun h => by cases h⟩
theorem gf_RX7_7 : gFd RX7 7 11 2 := ⟨RX7, TX7, 28, rfl, gwu_11, by decide, gw_954⟩
theorem gp_RX7_7 : gFw RX7 7 11 2 true (tyX7 2) := ⟨RX7, TX7, 28, rfl, gwu_11, by decide, gw_954, ⟨tyX7, tyX7_ok, rfl⟩, nmX7, rfl, fun _ => rfl⟩
theorem gf_RX7_78 : gFd RX7 78 11 3 := ⟨RX7, TX7, 28, rfl, gwu_11, by decide, gw_955⟩
theorem gp_RX7_78 : gFw RX7 78 11 3 false (tyX7 3) := ⟨RX7, TX7, 28, rfl, gwu_11, by decide, gw_955, ⟨tyX7, tyX7_ok, rfl⟩, nmX7, rfl, fun h => by cases h⟩
theorem gf_RX7_13 : gFd RX7 13 11 4 := ⟨RX7, TX7, 28, rfl, gwu_11, by decide, gw_956⟩
theorem gp_RX7_13 : gFw RX7 13 11 4 true (tyX7 4) := ⟨RX7, TX7, 28, rfl, gwu_11, by decide, gw_956, ⟨tyX7, tyX7_ok, rfl⟩, nmX7, rfl, fun _ => rfl⟩
theorem gf_RX7_17 : gFd RX7 17 11 5 := ⟨RX7, TX7, 28, rfl, gwu_11, by decide, gw_957⟩
theorem gp_RX7_17 : gFw RX7 17 11 5 true (tyX7 5) := ⟨RX7, TX7, 28, rfl, gwu_11, by decide, gw_957, ⟨tyX7, tyX7_ok, rfl⟩, nmX7, rfl, fun _ => rfl⟩
theorem gf_RX7_20 : gFd RX7 20 11 6 := ⟨RX7, TX7, 28, rfl, gwu_11, by decide, gw_958⟩
theorem gp_RX7_20 : gFw RX7 20 11 6 true (tyX7 6) := ⟨RX7, TX7, 28, rfl, gwu_11, by decide, gw_958, ⟨tyX7, tyX7_ok, rfl⟩, nmX7, rfl, fun _ => rfl⟩
theorem gf_RX7_23 : gFd RX7 23 11 7 := ⟨RX7, TX7, 28, rfl, gwu_11, by decide, gw_959⟩
theorem gp_RX7_23 : gFw RX7 23 11 7 true (tyX7 7) := ⟨RX7, TX7, 28, rfl, gwu_11, by decide, gw_959, ⟨tyX7, tyX7_ok, rfl⟩, nmX7, rfl, fun _ => rfl⟩
theorem gf_RX7_26 : gFd RX7 26 11 8 := ⟨RX7, TX7, 28, rfl, gwu_11, by decide, gw_960⟩
theorem gp_RX7_26 : gFw RX7 26 11 8 true (tyX7 8) := ⟨RX7, TX7, 28, rfl, gwu_11, by decide, gw_960, ⟨tyX7, tyX7_ok, rfl⟩, nmX7, rfl, fun _ => rfl⟩
theorem gf_RX7_29 : gFd RX7 29 11 9 := ⟨RX7, TX7, 28, rfl, gwu_11, by decide, gw_961⟩
theorem gp_RX7_29 : gFw RX7 29 11 9 true (tyX7 9) := ⟨RX7, TX7, 28, rfl, gwu_11, by decide, gw_961, ⟨tyX7, tyX7_ok, rfl⟩, nmX7, rfl, fun _ => rfl⟩
theorem gf_RX7_32 : gFd RX7 32 11 10 := ⟨RX7, TX7, 28, rfl, gwu_11, by decide, gw_962⟩
theorem gp_RX7_32 : gFw RX7 32 11 10 true (tyX7 10) := ⟨RX7, TX7, 28, rfl, gwu_11, by decide, gw_962, ⟨tyX7, tyX7_ok, rfl⟩, nmX7, rfl, fun _ => rfl⟩
theorem gf_RX7_85 : gFd RX7 85 11 11 := ⟨RX7, TX7, 28, rfl, gwu_11, by decide, gw_963⟩
theorem gp_RX7_85 : gFw RX7 85 11 11 false (tyX7 11) := ⟨RX7, TX7, 28, rfl, gwu_11, by decide, gw_963, ⟨tyX7, tyX7_ok, rfl⟩, nmX7, rfl, fun h => by cases h⟩
theorem gf_RX7_35 : gFd RX7 35 11 12 := ⟨RX7, TX7, 28, rfl, gwu_11, by decide, gw_964⟩
theorem gp_RX7_35 : gFw RX7 35 11 12 true (tyX7 12) := ⟨RX7, TX7, 28, rfl, gwu_11, by decide, gw_964, ⟨tyX7, tyX7_ok, rfl⟩, nmX7, rfl, fun _ => rfl⟩
theorem gf_RX7_38 : gFd RX7 38 11 13 := ⟨RX7, TX7, 28, rfl, gwu_11, by decide, gw_965⟩
theorem gp_RX7_38 : gFw RX7 38 11 13 true (tyX7 13) := ⟨RX7, TX7, 28, rfl, gwu_11, by decide, gw_965, ⟨tyX7, tyX7_ok, rfl⟩, nmX7, rfl, fun _ => rfl⟩
theorem gf_RX7_41 : gFd RX7 41 11 14 := ⟨RX7, TX7, 28, rfl, gwu_11, by decide, gw_966⟩
theorem gp_RX7_41 : gFw RX7 41 11 14 true (tyX7 14) := ⟨RX7, TX7, 28, rfl, gwu_11, by decide, gw_966, ⟨tyX7, tyX7_ok, rfl⟩, nmX7, rfl, fun _ => rfl⟩
theorem gf_RX7_44 : gFd RX7 44 11 15 := ⟨RX7, TX7, 28, rfl, gwu_11, by decide, gw_967⟩
theorem gp_RX7_44 : gFw RX7 44 11 15 true (tyX7 15) := ⟨RX7, TX7, 28, rfl, gwu_11, by decide, gw_967, ⟨tyX7, tyX7_ok, rfl⟩, nmX7, rfl, fun _ => rfl⟩
theorem gf_RX7_47 : gFd RX7 47 11 16 := ⟨RX7, TX7, 28, rfl, gwu_11, by decide, gw_968⟩
theorem gp_RX7_47 : gFw RX7 47 11 16 true (tyX7 16) := ⟨RX7, TX7, 28, rfl, gwu_11, by decide, gw_968, ⟨tyX7, tyX7_ok, rfl⟩, nmX7, rfl, fun _ => rfl⟩
theorem gf_RX7_50 : gFd RX7 50 11 17 := ⟨RX7, TX7, 28, rfl, gwu_11, by decide, gw_969⟩
theorem gp_RX7_50 : gFw RX7 50 11 17 true (tyX7 17) := ⟨RX7, TX7, 28, rfl, gwu_11, by decide, gw_969, ⟨tyX7, tyX7_ok, rfl⟩, nmX7, rfl, fun _ => rfl⟩
theorem gf_RX7_53 : gFd RX7 53 11 18 := ⟨RX7, TX7, 28, rfl, gwu_11, by decide, gw_970⟩
theorem gp_RX7_53 : gFw RX7 53 11 18 true (tyX7 18) := ⟨RX7, TX7, 28, rfl, gwu_11, by decide, gw_970, ⟨tyX7, tyX7_ok, rfl⟩, nmX7, rfl, fun _ => rfl⟩
theorem gf_RX7_56 : gFd RX7 56 11 19 := ⟨RX7, TX7, 28, rfl, gwu_11, by decide, gw_971⟩
theorem gp_RX7_56 : gFw RX7 56 11 19 true (tyX7 19) := ⟨RX7, TX7, 28, rfl, gwu_11, by decide, gw_971, ⟨tyX7, tyX7_ok, rfl⟩, nmX7, rfl, fun _ => rfl⟩
theorem gf_RX7_151 : gFd RX7 151 11 20 := ⟨RX7, TX7, 28, rfl, gwu_11, by decide, gw_972⟩
theorem gp_RX7_151 : gFw RX7 151 11 20 false (tyX7 20) := ⟨RX7, TX7, 28, rfl, gwu_11, by decide, gw_972, ⟨tyX7, tyX7_ok, rfl⟩, nmX7, rfl, fun h => by cases h⟩
theorem gf_RX7_59 : gFd RX7 59 11 21 := ⟨RX7, TX7, 28, rfl, gwu_11, by decide, gw_973⟩
theorem gp_RX7_59 : gFw RX7 59 11 21 true (tyX7 21) := ⟨RX7, TX7, 28, rfl, gwu_11, by decide, gw_973, ⟨tyX7, tyX7_ok, rfl⟩, nmX7, rfl, fun _ => rfl⟩
theorem gf_RX7_164 : gFd RX7 164 11 22 := ⟨RX7, TX7, 28, rfl, gwu_11, by decide, gw_974⟩
theorem gp_RX7_164 : gFw RX7 164 11 22 false (tyX7 22) := ⟨RX7, TX7, 28, rfl, gwu_11, by decide, gw_974, ⟨tyX7, tyX7_ok, rfl⟩, nmX7, rfl, fun h => by cases h⟩
theorem gf_RX7_62 : gFd RX7 62 11 23 := ⟨RX7, TX7, 28, rfl, gwu_11, by decide, gw_975⟩
theorem gp_RX7_62 : gFw RX7 62 11 23 true (tyX7 23) := ⟨RX7, TX7, 28, rfl, gwu_11, by decide, gw_975, ⟨tyX7, tyX7_ok, rfl⟩, nmX7, rfl, fun _ => rfl⟩
theorem gf_RX7_65 : gFd RX7 65 11 24 := ⟨RX7, TX7, 28, rfl, gwu_11, by decide, gw_976⟩
theorem gp_RX7_65 : gFw RX7 65 11 24 true (tyX7 24) := ⟨RX7, TX7, 28, rfl, gwu_11, by decide, gw_976, ⟨tyX7, tyX7_ok, rfl⟩, nmX7, rfl, fun _ => rfl⟩
theorem gf_RX7_68 : gFd RX7 68 11 25 := ⟨RX7, TX7, 28, rfl, gwu_11, by decide, gw_977⟩
theorem gp_RX7_68 : gFw RX7 68 11 25 true (tyX7 25) := ⟨RX7, TX7, 28, rfl, gwu_11, by decide, gw_977, ⟨tyX7, tyX7_ok, rfl⟩, nmX7, rfl, fun _ => rfl⟩
theorem gf_RX7_71 : gFd RX7 71 11 26 := ⟨RX7, TX7, 28, rfl, gwu_11, by decide, gw_978⟩
theorem gp_RX7_71 : gFw RX7 71 11 26 true (tyX7 26) := ⟨RX7, TX7, 28, rfl, gwu_11, by decide, gw_978, ⟨tyX7, tyX7_ok, rfl⟩, nmX7, rfl, fun _ => rfl⟩
theorem gf_RX7_74 : gFd RX7 74 11 27 := ⟨RX7, TX7, 28, rfl, gwu_11, by decide, gw_979⟩
theorem gp_RX7_74 : gFw RX7 74 11 27 false (tyX7 27) := ⟨RX7, TX7, 28, rfl, gwu_11, by decide, gw_979, ⟨tyX7, tyX7_ok, rfl⟩, nmX7, rfl, fun h => by cases h⟩
theorem gc_RL_62 : gCi RL 62 yX6_init cX6_init 1 0 := ⟨⟨gw_32, gw_30, gw_1, ⟨by decide +kernel, by decide +kernel, by decide +kernel⟩⟩, gw_31, rfl⟩
theorem gc_RX6_9 : gCi RX6 9 yJ4_init_da8c8 cJ4_init_da8c8 1 0 := ⟨⟨gw_40, gw_38, gw_3, ⟨by decide +kernel, by decide +kernel, by decide +kernel⟩⟩, gw_39, rfl⟩
theorem gc_RJ4_1 : gCi RJ4 1 yJ5_init_d00df cJ5_init_d00df 2 1 := ⟨⟨gw_43, gw_41, gw_2, ⟨by decide +kernel, by decide +kernel, by decide +kernel⟩⟩, gw_42, rfl⟩
theorem gc_RJ5_26 : gCs RJ5 26 yJ2_newBytesFor_77867 cJ2_newBytesFor_77867 1 (some (Jvm.ClassFile.FieldType.array Jvm.ClassFile.FieldType.byte)) 1 := ⟨⟨gw_49, gw_47, gw_5, ⟨by decide +kernel, by decide +kernel, by decide +kernel⟩⟩, gw_48⟩
theorem gc_RJ2_11 : gCs RJ2 11 yJ2_newBytesLength_0f7a4 cJ2_newBytesLength_0f7a4 1 (some Jvm.ClassFile.FieldType.int) 1 := ⟨⟨gw_52, gw_50, gw_5, ⟨by decide +kernel, by decide +kernel, by decide +kernel⟩⟩, gw_51⟩
theorem gc_RL_7 : gCv RL 7 yX6_letter cX6_letter 2 (some Jvm.ClassFile.FieldType.int) 1 := ⟨⟨gw_108, gw_105, gw_1, ⟨by decide +kernel, by decide +kernel, by decide +kernel⟩⟩, gw_106, gw_107⟩
theorem gc_RX6_54 : gCv RX6 54 yJ4_length_8abf5 cJ4_length_8abf5 1 (some Jvm.ClassFile.FieldType.int) 0 := ⟨⟨gw_181, gw_178, gw_3, ⟨by decide +kernel, by decide +kernel, by decide +kernel⟩⟩, gw_179, gw_180⟩
theorem gc_RX6_63 : gCv RX6 63 yJ4_append_cf468 cJ4_append_cf468 2 (some (Jvm.ClassFile.FieldType.object "java/lang/StringBuilder")) 1 := ⟨⟨gw_204, gw_201, gw_3, ⟨by decide +kernel, by decide +kernel, by decide +kernel⟩⟩, gw_202, gw_203⟩
theorem gc_RJ5_114 : gCs RJ5 114 yJ8_newLength_cabcc cJ8_newLength_cabcc 4 (some Jvm.ClassFile.FieldType.int) 3 := ⟨⟨gw_218, gw_216, gw_12, ⟨by decide +kernel, by decide +kernel, by decide +kernel⟩⟩, gw_217⟩
theorem gc_RJ8_194 : gCs RJ8 194 yJ9_max_7cf53 cJ9_max_7cf53 2 (some Jvm.ClassFile.FieldType.int) 2 := ⟨⟨gw_221, gw_219, gw_13, ⟨by decide +kernel, by decide +kernel, by decide +kernel⟩⟩, gw_220⟩
theorem gc_RJ8_201 : gCs RJ8 201 yJ8_hugeLength_7cf53 cJ8_hugeLength_7cf53 3 (some Jvm.ClassFile.FieldType.int) 2 := ⟨⟨gw_225, gw_223, gw_12, ⟨by decide +kernel, by decide +kernel, by decide +kernel⟩⟩, gw_224⟩
theorem gc_RJ5_108 : gCs RJ5 108 yJ7_copyOf_9075b cJ7_copyOf_9075b 3 (some (Jvm.ClassFile.FieldType.array Jvm.ClassFile.FieldType.byte)) 2 := ⟨⟨gw_229, gw_227, gw_14, ⟨by decide +kernel, by decide +kernel, by decide +kernel⟩⟩, gw_228⟩
theorem gc_RJ7_304 : gCs RJ7 304 yJ9_min_7cf53 cJ9_min_7cf53 2 (some Jvm.ClassFile.FieldType.int) 2 := ⟨⟨gw_239, gw_237, gw_13, ⟨by decide +kernel, by decide +kernel, by decide +kernel⟩⟩, gw_238⟩
theorem gc_RJ5_191 : gCs RJ5 191 yJ1_canEncode_fc78d cJ1_canEncode_fc78d 1 (some Jvm.ClassFile.FieldType.boolean) 1 := ⟨⟨gw_250, gw_248, gw_16, ⟨by decide +kernel, by decide +kernel, by decide +kernel⟩⟩, gw_249⟩
theorem gc_RJ5_125 : gCs RJ5 125 yJ1_inflate_0e8fd cJ1_inflate_0e8fd 5 none 5 := ⟨⟨gw_257, gw_255, gw_16, ⟨by decide +kernel, by decide +kernel, by decide +kernel⟩⟩, gw_256⟩
theorem gc_RJ1_240 : gCs RJ1 240 yJ2_inflate_0e8fd cJ2_inflate_0e8fd 6 none 5 := ⟨⟨gw_260, gw_258, gw_5, ⟨by decide +kernel, by decide +kernel, by decide +kernel⟩⟩, gw_259⟩
theorem gc_RJ2_173 : gCs RJ2 173 yJ2_checkBoundsOffCount_d044e cJ2_checkBoundsOffCount_d044e 3 none 3 := ⟨⟨gw_263, gw_261, gw_5, ⟨by decide +kernel, by decide +kernel, by decide +kernel⟩⟩, gw_262⟩
theorem gc_RJ2_48 : gCs RJ2 48 yJ2_length_9d52b cJ2_length_9d52b 1 (some Jvm.ClassFile.FieldType.int) 1 := ⟨⟨gw_266, gw_264, gw_5, ⟨by decide +kernel, by decide +kernel, by decide +kernel⟩⟩, gw_265⟩
theorem gc_RJ2_419 : gCs RJ2 419 yJ0_checkBoundsOffCount_cabcc cJ0_checkBoundsOffCount_cabcc 3 (some Jvm.ClassFile.FieldType.int) 3 := ⟨⟨gw_269, gw_267, gw_4, ⟨by decide +kernel, by decide +kernel, by decide +kernel⟩⟩, gw_268⟩
theorem gc_RJ0_1065 : gCs RJ0 1065 yJ3_checkFromIndexSize_8c36e cJ3_checkFromIndexSize_8c36e 4 (some Jvm.ClassFile.FieldType.int) 4 := ⟨⟨gw_274, gw_272, gw_17, ⟨by decide +kernel, by decide +kernel, by decide +kernel⟩⟩, gw_273⟩
theorem gc_RJ2_111 : gCs RJ2 111 yJ2_putChar_b72d1 cJ2_putChar_b72d1 3 none 3 := ⟨⟨gw_277, gw_275, gw_5, ⟨by decide +kernel, by decide +kernel, by decide +kernel⟩⟩, gw_276⟩
theorem gc_RJ5_197 : gCs RJ5 197 yJ2_putCharSB_b72d1 cJ2_putCharSB_b72d1 3 none 3 := ⟨⟨gw_286, gw_284, gw_5, ⟨by decide +kernel, by decide +kernel, by decide +kernel⟩⟩, gw_285⟩
theorem gc_RJ2_67 : gCs RJ2 67 yJ2_checkIndex_2214a cJ2_checkIndex_2214a 2 none 2 := ⟨⟨gw_289, gw_287, gw_5, ⟨by decide +kernel, by decide +kernel, by decide +kernel⟩⟩, gw_288⟩
theorem gc_RJ2_414 : gCs RJ2 414 yJ0_checkIndex_df160 cJ0_checkIndex_df160 2 none 2 := ⟨⟨gw_292, gw_290, gw_4, ⟨by decide +kernel, by decide +kernel, by decide +kernel⟩⟩, gw_291⟩
theorem gc_RJ0_1059 : gCs RJ0 1059 yJ3_checkIndex_8e157 cJ3_checkIndex_8e157 3 (some Jvm.ClassFile.FieldType.int) 3 := ⟨⟨gw_295, gw_293, gw_17, ⟨by decide +kernel, by decide +kernel, by decide +kernel⟩⟩, gw_294⟩
theorem gc_RL_17 : gCv RL 17 yX6_place cX6_place 5 (some Jvm.ClassFile.FieldType.int) 3 := ⟨⟨gw_302, gw_299, gw_1, ⟨by decide +kernel, by decide +kernel, by decide +kernel⟩⟩, gw_300, gw_301⟩
theorem gc_RX6_67 : gCs RX6 67 yX6_isWithin cX6_isWithin 3 (some Jvm.ClassFile.FieldType.boolean) 3 := ⟨⟨gw_305, gw_303, gw_1, ⟨by decide +kernel, by decide +kernel, by decide +kernel⟩⟩, gw_304⟩
theorem gc_RX6_75 : gCi RX6 75 yX2_init cX2_init 4 3 := ⟨⟨gw_311, gw_309, gw_18, ⟨by decide +kernel, by decide +kernel, by decide +kernel⟩⟩, gw_310, rfl⟩
theorem gc_RX6_78 : gCv RX6 78 yX6_showOnAllSheets cX6_showOnAllSheets 4 none 1 := ⟨⟨gw_337, gw_334, gw_1, ⟨by decide +kernel, by decide +kernel, by decide +kernel⟩⟩, gw_336, (gwA_mem (by unfold lw_tbl; exact List.mem_append_left _ (List.mem_of_getElem? (i := 1) (by decide +kernel))) rfl)⟩
theorem gc_RX6_142 : gCv RX6 142 yX3_show cX3_show 2 none 1 := ⟨⟨gw_341, gw_338, gw_25, ⟨by decide +kernel, by decide +kernel, by decide +kernel⟩⟩, gw_339, gw_340⟩
theorem gc_RX3_46 : gCv RX3 46 yX3_has cX3_has 2 (some Jvm.ClassFile.FieldType.boolean) 1 := ⟨⟨gw_346, gw_342, gw_25, ⟨by decide +kernel, by decide +kernel, by decide +kernel⟩⟩, gw_344, (gwA_mem (by unfold lw_tbl; exact List.mem_append_left _ (List.mem_of_getElem? (i := 2) (by decide +kernel))) rfl)⟩
theorem gc_RX3_63 : gCn RX3 RX6 63 yX6_isWithin cX6_isWithin 3 (some Jvm.ClassFile.FieldType.boolean) 3 := ⟨gw_305, List.mem_append_right _ (List.mem_of_getElem? (i := 347) (by decide +kernel)), gw_1, ⟨by decide +kernel, by decide +kernel, by decide +kernel⟩, gw_304⟩
theorem gc_RX3_50 : gCv RX3 50 yX3_columnOf cX3_columnOf 5 (some Jvm.ClassFile.FieldType.int) 1 := ⟨⟨gw_353, gw_350, gw_25, ⟨by decide +kernel, by decide +kernel, by decide +kernel⟩⟩, gw_352, (gwA_mem (by unfold lw_tbl; exact List.mem_append_left _ (List.mem_of_getElem? (i := 3) (by decide +kernel))) rfl)⟩
theorem gc_RX3_54 : gCv RX3 54 yX3_rowOf cX3_rowOf 2 (some Jvm.ClassFile.FieldType.int) 1 := ⟨⟨gw_362, gw_359, gw_25, ⟨by decide +kernel, by decide +kernel, by decide +kernel⟩⟩, gw_361, (gwA_mem (by unfold lw_tbl; exact List.mem_append_left _ (List.mem_of_getElem? (i := 4) (by decide +kernel))) rfl)⟩
theorem gc_RX3_57 : gCi RX3 57 yX5_init cX5_init 4 3 := ⟨⟨gw_365, gw_363, gw_19, ⟨by decide +kernel, by decide +kernel, by decide +kernel⟩⟩, gw_364, rfl⟩
theorem gc_RX6_145 : gCv RX6 145 yX3_placeAnew cX3_placeAnew 4 none 1 := ⟨⟨gw_399, gw_396, gw_25, ⟨by decide +kernel, by decide +kernel, by decide +kernel⟩⟩, gw_397, gw_398⟩
theorem gc_RX3_73 : gCv RX3 73 yX5_takeUp cX5_takeUp 2 none 1 := ⟨⟨gw_403, gw_400, gw_19, ⟨by decide +kernel, by decide +kernel, by decide +kernel⟩⟩, gw_401, gw_402⟩
theorem gc_RX5_38 : gCv RX5 38 yX2_wordOn cX2_wordOn 5 (some (Jvm.ClassFile.FieldType.object "java/lang/String")) 1 := ⟨⟨gw_407, gw_404, gw_18, ⟨by decide +kernel, by decide +kernel, by decide +kernel⟩⟩, gw_405, gw_406⟩
theorem gc_RX3_77 : gCv RX3 77 yX3_listNamed cX3_listNamed 4 none 0 := ⟨⟨gw_411, gw_408, gw_25, ⟨by decide +kernel, by decide +kernel, by decide +kernel⟩⟩, gw_410, (gwA_mem (by unfold lw_tbl; exact List.mem_append_left _ (List.mem_of_getElem? (i := 5) (by decide +kernel))) rfl)⟩
theorem gc_RX3_90 : gCv RX3 90 yX5_isNamed cX5_isNamed 1 (some Jvm.ClassFile.FieldType.boolean) 0 := ⟨⟨gw_415, gw_412, gw_19, ⟨by decide +kernel, by decide +kernel, by decide +kernel⟩⟩, gw_413, gw_414⟩
theorem gc_RX5_42 : gCv RX5 42 yX5_isOnSheet cX5_isOnSheet 1 (some Jvm.ClassFile.FieldType.boolean) 0 := ⟨⟨gw_419, gw_416, gw_19, ⟨by decide +kernel, by decide +kernel, by decide +kernel⟩⟩, gw_417, gw_418⟩
theorem gc_RX3_80 : gCv RX3 80 yX3_drawDots cX3_drawDots 4 none 1 := ⟨⟨gw_423, gw_420, gw_25, ⟨by decide +kernel, by decide +kernel, by decide +kernel⟩⟩, gw_422, (gwA_mem (by unfold lw_tbl; exact List.mem_append_left _ (List.mem_of_getElem? (i := 6) (by decide +kernel))) rfl)⟩
theorem gc_RX3_94 : gCv RX3 94 yX1_clear cX1_clear 2 none 0 := ⟨⟨gw_427, gw_424, gw_26, ⟨by decide +kernel, by decide +kernel, by decide +kernel⟩⟩, gw_425, gw_426⟩
theorem gc_RX3_97 : gCv RX3 97 yX5_isOnSheet cX5_isOnSheet 1 (some Jvm.ClassFile.FieldType.boolean) 0 := ⟨⟨gw_419, gw_428, gw_19, ⟨by decide +kernel, by decide +kernel, by decide +kernel⟩⟩, gw_417, gw_418⟩
theorem gc_RX3_106 : gCv RX3 106 yX1_setSign cX1_setSign 4 none 3 := ⟨⟨gw_432, gw_429, gw_26, ⟨by decide +kernel, by decide +kernel, by decide +kernel⟩⟩, gw_430, gw_431⟩
theorem gc_RX1_15 : gCn RX1 RX6 15 yX6_isOnGrid cX6_isOnGrid 2 (some Jvm.ClassFile.FieldType.boolean) 2 := ⟨gw_435, List.mem_append_right _ (List.mem_of_getElem? (i := 433) (by decide +kernel)), gw_1, ⟨by decide +kernel, by decide +kernel, by decide +kernel⟩, gw_434⟩
theorem gc_RX3_84 : gCv RX3 84 yX5_standAtFirstFree cX5_standAtFirstFree 3 none 1 := ⟨⟨gw_439, gw_436, gw_19, ⟨by decide +kernel, by decide +kernel, by decide +kernel⟩⟩, gw_437, gw_438⟩
theorem gc_RX5_74 : gCv RX5 74 yX5_mayStand cX5_mayStand 4 (some Jvm.ClassFile.FieldType.boolean) 2 := ⟨⟨gw_443, gw_440, gw_19, ⟨by decide +kernel, by decide +kernel, by decide +kernel⟩⟩, gw_441, gw_442⟩
theorem gc_RX5_46 : gCv RX5 46 yJ0_length_8abf5 cJ0_length_8abf5 1 (some Jvm.ClassFile.FieldType.int) 0 := ⟨⟨gw_447, gw_444, gw_4, ⟨by decide +kernel, by decide +kernel, by decide +kernel⟩⟩, gw_445, gw_446⟩
theorem gc_RJ0_335 : gCv RJ0 335 yJ0_coder_7d493 cJ0_coder_7d493 1 (some Jvm.ClassFile.FieldType.byte) 0 := ⟨⟨gw_451, gw_448, gw_4, ⟨by decide +kernel, by decide +kernel, by decide +kernel⟩⟩, gw_449, gw_450⟩
theorem gc_RX5_52 : gCv RX5 52 yX5_rowAt cX5_rowAt 2 (some Jvm.ClassFile.FieldType.int) 1 := ⟨⟨gw_456, gw_453, gw_19, ⟨by decide +kernel, by decide +kernel, by decide +kernel⟩⟩, gw_455, (gwA_mem (by unfold lw_tbl; exact List.mem_append_left _ (List.mem_of_getElem? (i := 7) (by decide +kernel))) rfl)⟩
theorem gc_RX5_56 : gCv RX5 56 yX5_firstColumnAt cX5_firstColumnAt 3 (some Jvm.ClassFile.FieldType.int) 2 := ⟨⟨gw_460, gw_457, gw_19, ⟨by decide +kernel, by decide +kernel, by decide +kernel⟩⟩, gw_459, (gwA_mem (by unfold lw_tbl; exact List.mem_append_left _ (List.mem_of_getElem? (i := 8) (by decide +kernel))) rfl)⟩
theorem gc_RX5_60 : gCv RX5 60 yX1_isFree cX1_isFree 5 (some Jvm.ClassFile.FieldType.boolean) 3 := ⟨⟨gw_464, gw_461, gw_26, ⟨by decide +kernel, by decide +kernel, by decide +kernel⟩⟩, gw_462, gw_463⟩
theorem gc_RX1_33 : gCv RX1 33 yX1_signAt cX1_signAt 3 (some Jvm.ClassFile.FieldType.char) 2 := ⟨⟨gw_468, gw_465, gw_26, ⟨by decide +kernel, by decide +kernel, by decide +kernel⟩⟩, gw_466, gw_467⟩
theorem gc_RX5_78 : gCv RX5 78 yX5_write cX5_write 3 none 2 := ⟨⟨gw_472, gw_469, gw_19, ⟨by decide +kernel, by decide +kernel, by decide +kernel⟩⟩, gw_470, gw_471⟩
theorem gc_RX5_66 : gCv RX5 66 yX1_write cX1_write 5 none 3 := ⟨⟨gw_476, gw_473, gw_26, ⟨by decide +kernel, by decide +kernel, by decide +kernel⟩⟩, gw_474, gw_475⟩
theorem gc_RX1_19 : gCv RX1 19 yJ0_length_8abf5 cJ0_length_8abf5 1 (some Jvm.ClassFile.FieldType.int) 0 := ⟨⟨gw_447, gw_477, gw_4, ⟨by decide +kernel, by decide +kernel, by decide +kernel⟩⟩, gw_445, gw_446⟩
theorem gc_RX1_25 : gCv RX1 25 yJ0_charAt_5068e cJ0_charAt_5068e 2 (some Jvm.ClassFile.FieldType.char) 1 := ⟨⟨gw_481, gw_478, gw_4, ⟨by decide +kernel, by decide +kernel, by decide +kernel⟩⟩, gw_479, gw_480⟩
theorem gc_RJ0_492 : gCv RJ0 492 yJ0_isLatin1_aae02 cJ0_isLatin1_aae02 1 (some Jvm.ClassFile.FieldType.boolean) 0 := ⟨⟨gw_485, gw_482, gw_4, ⟨by decide +kernel, by decide +kernel, by decide +kernel⟩⟩, gw_483, gw_484⟩
theorem gc_RJ0_495 : gCs RJ0 495 yJ1_charAt_3b067 cJ1_charAt_3b067 2 (some Jvm.ClassFile.FieldType.char) 2 := ⟨⟨gw_488, gw_486, gw_16, ⟨by decide +kernel, by decide +kernel, by decide +kernel⟩⟩, gw_487⟩
theorem gc_RJ1_9 : gCs RJ1 9 yJ0_checkIndex_df160 cJ0_checkIndex_df160 2 none 2 := ⟨⟨gw_292, gw_489, gw_4, ⟨by decide +kernel, by decide +kernel, by decide +kernel⟩⟩, gw_291⟩
theorem gc_RJ0_498 : gCs RJ0 498 yJ2_charAt_3b067 cJ2_charAt_3b067 2 (some Jvm.ClassFile.FieldType.char) 2 := ⟨⟨gw_492, gw_490, gw_5, ⟨by decide +kernel, by decide +kernel, by decide +kernel⟩⟩, gw_491⟩
theorem gc_RJ2_71 : gCs RJ2 71 yJ2_getChar_3b067 cJ2_getChar_3b067 2 (some Jvm.ClassFile.FieldType.char) 2 := ⟨⟨gw_495, gw_493, gw_5, ⟨by decide +kernel, by decide +kernel, by decide +kernel⟩⟩, gw_494⟩
theorem gc_RX1_29 : gCv RX1 29 yX1_setSign cX1_setSign 4 none 3 := ⟨⟨gw_432, gw_496, gw_26, ⟨by decide +kernel, by decide +kernel, by decide +kernel⟩⟩, gw_430, gw_431⟩
theorem gc_RL_21 : gCv RL 21 yX6_name cX6_name 3 (some Jvm.ClassFile.FieldType.int) 1 := ⟨⟨gw_504, gw_501, gw_1, ⟨by decide +kernel, by decide +kernel, by decide +kernel⟩⟩, gw_502, gw_503⟩
theorem gc_RX6_82 : gCv RX6 82 yX6_placeNumbered cX6_placeNumbered 2 (some (Jvm.ClassFile.FieldType.object "GraticulePress$Place")) 1 := ⟨⟨gw_508, gw_505, gw_1, ⟨by decide +kernel, by decide +kernel, by decide +kernel⟩⟩, gw_507, (gwA_mem (by unfold lw_tbl; exact List.mem_append_left _ (List.mem_of_getElem? (i := 9) (by decide +kernel))) rfl)⟩
theorem gc_RX6_88 : gCv RX6 88 yX2_isToldOut cX2_isToldOut 1 (some Jvm.ClassFile.FieldType.boolean) 0 := ⟨⟨gw_529, gw_526, gw_18, ⟨by decide +kernel, by decide +kernel, by decide +kernel⟩⟩, gw_527, gw_528⟩
theorem gc_RX6_96 : gCv RX6 96 yJ4_toString_0e30d cJ4_toString_0e30d 1 (some (Jvm.ClassFile.FieldType.object "java/lang/String")) 0 := ⟨⟨gw_536, gw_533, gw_3, ⟨by decide +kernel, by decide +kernel, by decide +kernel⟩⟩, gw_534, gw_535⟩
theorem gc_RJ4_137 : gCi RJ4 137 yJ0_init_81219 cJ0_init_81219 2 1 := ⟨⟨gw_541, gw_539, gw_4, ⟨by decide +kernel, by decide +kernel, by decide +kernel⟩⟩, gw_540, rfl⟩
theorem gc_RJ0_489 : gCi RJ0 489 yJ0_init_db425 cJ0_init_db425 5 2 := ⟨⟨gw_544, gw_542, gw_4, ⟨by decide +kernel, by decide +kernel, by decide +kernel⟩⟩, gw_543, rfl⟩
theorem gc_RJ0_54 : gCs RJ0 54 yJ7_copyOfRange_39247 cJ7_copyOfRange_39247 3 (some (Jvm.ClassFile.FieldType.array Jvm.ClassFile.FieldType.byte)) 3 := ⟨⟨gw_555, gw_553, gw_14, ⟨by decide +kernel, by decide +kernel, by decide +kernel⟩⟩, gw_554⟩
theorem gc_RJ7_339 : gCs RJ7 339 yJ7_copyOfRangeByte_39247 cJ7_copyOfRangeByte_39247 5 (some (Jvm.ClassFile.FieldType.array Jvm.ClassFile.FieldType.byte)) 3 := ⟨⟨gw_558, gw_556, gw_14, ⟨by decide +kernel, by decide +kernel, by decide +kernel⟩⟩, gw_557⟩
theorem gc_RJ7_343 : gCs RJ7 343 yJ7_checkLength_df160 cJ7_checkLength_df160 2 none 2 := ⟨⟨gw_561, gw_559, gw_14, ⟨by decide +kernel, by decide +kernel, by decide +kernel⟩⟩, gw_560⟩
theorem gc_RJ7_47 : gCi RJ7 47 yJ4_init_da8c8 cJ4_init_da8c8 1 0 := ⟨⟨gw_40, gw_564, gw_3, ⟨by decide +kernel, by decide +kernel, by decide +kernel⟩⟩, gw_39, rfl⟩
theorem gc_RJ7_54 : gCv RJ7 54 yJ4_append_bf812 cJ4_append_bf812 2 (some (Jvm.ClassFile.FieldType.object "java/lang/StringBuilder")) 1 := ⟨⟨gw_568, gw_565, gw_3, ⟨by decide +kernel, by decide +kernel, by decide +kernel⟩⟩, gw_566, gw_567⟩
theorem gc_RJ5_245 : gCs RJ5 245 yJ6_stringSize_0f7a4 cJ6_stringSize_0f7a4 4 (some Jvm.ClassFile.FieldType.int) 1 := ⟨⟨gw_574, gw_572, gw_22, ⟨by decide +kernel, by decide +kernel, by decide +kernel⟩⟩, gw_573⟩
theorem gc_RJ5_248 : gCs RJ5 248 yJ6_getChars_ba4f3 cJ6_getChars_ba4f3 7 (some Jvm.ClassFile.FieldType.int) 3 := ⟨⟨gw_577, gw_575, gw_22, ⟨by decide +kernel, by decide +kernel, by decide +kernel⟩⟩, gw_576⟩
theorem gc_RJ5_251 : gCs RJ5 251 yJ2_getChars_46870 cJ2_getChars_46870 5 (some Jvm.ClassFile.FieldType.int) 4 := ⟨⟨gw_584, gw_582, gw_5, ⟨by decide +kernel, by decide +kernel, by decide +kernel⟩⟩, gw_583⟩
theorem gc_RJ2_96 : gCs RJ2 96 yJ2_checkBoundsBeginEnd_d044e cJ2_checkBoundsBeginEnd_d044e 3 none 3 := ⟨⟨gw_587, gw_585, gw_5, ⟨by decide +kernel, by decide +kernel, by decide +kernel⟩⟩, gw_586⟩
theorem gc_RJ2_241 : gCs RJ2 241 yJ0_checkBoundsBeginEnd_23922 cJ0_checkBoundsBeginEnd_23922 3 none 3 := ⟨⟨gw_590, gw_588, gw_4, ⟨by decide +kernel, by decide +kernel, by decide +kernel⟩⟩, gw_589⟩
theorem gc_RJ0_1062 : gCs RJ0 1062 yJ3_checkFromToIndex_8c36e cJ3_checkFromToIndex_8c36e 4 (some Jvm.ClassFile.FieldType.int) 4 := ⟨⟨gw_593, gw_591, gw_17, ⟨by decide +kernel, by decide +kernel, by decide +kernel⟩⟩, gw_592⟩
theorem gc_RJ2_393 : gCs RJ2 393 yJ2_getChars_ba4f3 cJ2_getChars_ba4f3 7 (some Jvm.ClassFile.FieldType.int) 3 := ⟨⟨gw_596, gw_594, gw_5, ⟨by decide +kernel, by decide +kernel, by decide +kernel⟩⟩, gw_595⟩
theorem gc_RJ7_50 : gCv RJ7 50 yJ4_append_15ec4 cJ4_append_15ec4 2 (some (Jvm.ClassFile.FieldType.object "java/lang/StringBuilder")) 1 := ⟨⟨gw_603, gw_600, gw_3, ⟨by decide +kernel, by decide +kernel, by decide +kernel⟩⟩, gw_601, gw_602⟩
theorem gc_RJ5_226 : gCs RJ5 226 yJ2_putCharsAt_cd4e5 cJ2_putCharsAt_cd4e5 7 (some Jvm.ClassFile.FieldType.int) 6 := ⟨⟨gw_613, gw_611, gw_5, ⟨by decide +kernel, by decide +kernel, by decide +kernel⟩⟩, gw_612⟩
theorem gc_RJ5_32 : gCv RJ5 32 yJ0_length_8abf5 cJ0_length_8abf5 1 (some Jvm.ClassFile.FieldType.int) 0 := ⟨⟨gw_447, gw_614, gw_4, ⟨by decide +kernel, by decide +kernel, by decide +kernel⟩⟩, gw_445, gw_446⟩
theorem gc_RJ5_40 : gCv RJ5 40 yJ0_coder_7d493 cJ0_coder_7d493 1 (some Jvm.ClassFile.FieldType.byte) 0 := ⟨⟨gw_451, gw_623, gw_4, ⟨by decide +kernel, by decide +kernel, by decide +kernel⟩⟩, gw_449, gw_450⟩
theorem gc_RJ5_399 : gCv RJ5 399 yJ0_getBytes_840e7 cJ0_getBytes_840e7 4 none 3 := ⟨⟨gw_627, gw_624, gw_4, ⟨by decide +kernel, by decide +kernel, by decide +kernel⟩⟩, gw_625, gw_626⟩
theorem gc_RJ0_106 : gCs RJ0 106 yJ1_inflate_0e8fd cJ1_inflate_0e8fd 5 none 5 := ⟨⟨gw_257, gw_629, gw_16, ⟨by decide +kernel, by decide +kernel, by decide +kernel⟩⟩, gw_256⟩
theorem gc_RJ7_61 : gCv RJ7 61 yJ4_toString_0e30d cJ4_toString_0e30d 1 (some (Jvm.ClassFile.FieldType.object "java/lang/String")) 0 := ⟨⟨gw_536, gw_630, gw_3, ⟨by decide +kernel, by decide +kernel, by decide +kernel⟩⟩, gw_534, gw_535⟩
theorem gc_RJ0_1051 : gCs RJ0 1051 yJ2_compress_39247 cJ2_compress_39247 6 (some (Jvm.ClassFile.FieldType.array Jvm.ClassFile.FieldType.byte)) 3 := ⟨⟨gw_634, gw_632, gw_5, ⟨by decide +kernel, by decide +kernel, by decide +kernel⟩⟩, gw_633⟩
theorem gc_RJ2_123 : gCs RJ2 123 yJ2_compress_5af95 cJ2_compress_5af95 7 (some Jvm.ClassFile.FieldType.int) 5 := ⟨⟨gw_637, gw_635, gw_5, ⟨by decide +kernel, by decide +kernel, by decide +kernel⟩⟩, gw_636⟩
theorem gc_RJ2_126 : gCs RJ2 126 yJ7_copyOfRange_39247 cJ7_copyOfRange_39247 3 (some (Jvm.ClassFile.FieldType.array Jvm.ClassFile.FieldType.byte)) 3 := ⟨⟨gw_555, gw_638, gw_14, ⟨by decide +kernel, by decide +kernel, by decide +kernel⟩⟩, gw_554⟩
theorem gc_RJ0_47 : gCs RJ0 47 yJ2_coderFromArrayLen_85cad cJ2_coderFromArrayLen_85cad 2 (some Jvm.ClassFile.FieldType.byte) 2 := ⟨⟨gw_641, gw_639, gw_5, ⟨by decide +kernel, by decide +kernel, by decide +kernel⟩⟩, gw_640⟩
theorem gc_RX6_100 : gCi RX6 100 yX4_init cX4_init 3 2 := ⟨⟨gw_655, gw_653, gw_21, ⟨by decide +kernel, by decide +kernel, by decide +kernel⟩⟩, gw_654, rfl⟩
theorem gc_RX6_103 : gCv RX6 103 yX2_tell cX2_tell 2 none 1 := ⟨⟨gw_669, gw_666, gw_18, ⟨by decide +kernel, by decide +kernel, by decide +kernel⟩⟩, gw_667, gw_668⟩
theorem gc_RX6_107 : gCv RX6 107 yJ4_setLength_d00df cJ4_setLength_d00df 2 none 1 := ⟨⟨gw_673, gw_670, gw_3, ⟨by decide +kernel, by decide +kernel, by decide +kernel⟩⟩, gw_671, gw_672⟩
theorem gc_RJ5_131 : gCi RJ5 131 yJx7c733_init_d00df cJx7c733_init_d00df 2 1 := ⟨⟨gw_681, gw_679, gw_23, ⟨by decide +kernel, by decide +kernel, by decide +kernel⟩⟩, gw_680, rfl⟩
theorem gc_RJx7c733_12 : gCi RJx7c733 12 yJ4_init_da8c8 cJ4_init_da8c8 1 0 := ⟨⟨gw_40, gw_683, gw_3, ⟨by decide +kernel, by decide +kernel, by decide +kernel⟩⟩, gw_39, rfl⟩
theorem gc_RJx7c733_15 : gCv RJx7c733 15 yJ4_append_15ec4 cJ4_append_15ec4 2 (some (Jvm.ClassFile.FieldType.object "java/lang/StringBuilder")) 1 := ⟨⟨gw_603, gw_685, gw_3, ⟨by decide +kernel, by decide +kernel, by decide +kernel⟩⟩, gw_601, gw_602⟩
theorem gc_RJx7c733_19 : gCv RJx7c733 19 yJ4_append_bf812 cJ4_append_bf812 2 (some (Jvm.ClassFile.FieldType.object "java/lang/StringBuilder")) 1 := ⟨⟨gw_568, gw_686, gw_3, ⟨by decide +kernel, by decide +kernel, by decide +kernel⟩⟩, gw_566, gw_567⟩
theorem gc_RJx7c733_22 : gCv RJx7c733 22 yJ4_toString_0e30d cJ4_toString_0e30d 1 (some (Jvm.ClassFile.FieldType.object "java/lang/String")) 0 := ⟨⟨gw_536, gw_687, gw_3, ⟨by decide +kernel, by decide +kernel, by decide +kernel⟩⟩, gw_534, gw_535⟩
theorem gc_RJ5_133 : gCs RJ5 133 yJ1_fillNull_b72d1 cJ1_fillNull_b72d1 3 none 3 := ⟨⟨gw_698, gw_696, gw_16, ⟨by decide +kernel, by decide +kernel, by decide +kernel⟩⟩, gw_697⟩
theorem gc_RJ1_236 : gCs RJ1 236 yJ7_fill_eb02e cJ7_fill_eb02e 5 none 4 := ⟨⟨gw_701, gw_699, gw_14, ⟨by decide +kernel, by decide +kernel, by decide +kernel⟩⟩, gw_700⟩
theorem gc_RJ7_13 : gCs RJ7 13 yJ7_rangeCheck_23922 cJ7_rangeCheck_23922 3 none 3 := ⟨⟨gw_704, gw_702, gw_14, ⟨by decide +kernel, by decide +kernel, by decide +kernel⟩⟩, gw_703⟩
theorem gc_RJ7_70 : gCi RJ7 70 yJx00060_init_d00df cJx00060_init_d00df 2 1 := ⟨⟨gw_721, gw_719, gw_24, ⟨by decide +kernel, by decide +kernel, by decide +kernel⟩⟩, gw_720, rfl⟩
theorem gc_RJx00060_12 : gCi RJx00060 12 yJ4_init_da8c8 cJ4_init_da8c8 1 0 := ⟨⟨gw_40, gw_723, gw_3, ⟨by decide +kernel, by decide +kernel, by decide +kernel⟩⟩, gw_39, rfl⟩
theorem gc_RJx00060_15 : gCv RJx00060 15 yJ4_append_15ec4 cJ4_append_15ec4 2 (some (Jvm.ClassFile.FieldType.object "java/lang/StringBuilder")) 1 := ⟨⟨gw_603, gw_725, gw_3, ⟨by decide +kernel, by decide +kernel, by decide +kernel⟩⟩, gw_601, gw_602⟩
theorem gc_RJx00060_19 : gCv RJx00060 19 yJ4_append_bf812 cJ4_append_bf812 2 (some (Jvm.ClassFile.FieldType.object "java/lang/StringBuilder")) 1 := ⟨⟨gw_568, gw_726, gw_3, ⟨by decide +kernel, by decide +kernel, by decide +kernel⟩⟩, gw_566, gw_567⟩
theorem gc_RJx00060_22 : gCv RJx00060 22 yJ4_toString_0e30d cJ4_toString_0e30d 1 (some (Jvm.ClassFile.FieldType.object "java/lang/String")) 0 := ⟨⟨gw_536, gw_727, gw_3, ⟨by decide +kernel, by decide +kernel, by decide +kernel⟩⟩, gw_534, gw_535⟩
theorem gc_RJ5_137 : gCs RJ5 137 yJ2_fillNull_b72d1 cJ2_fillNull_b72d1 3 none 3 := ⟨⟨gw_733, gw_731, gw_5, ⟨by decide +kernel, by decide +kernel, by decide +kernel⟩⟩, gw_732⟩
theorem gc_RJ2_380 : gCs RJ2 380 yJ7_fill_eb02e cJ7_fill_eb02e 5 none 4 := ⟨⟨gw_701, gw_734, gw_14, ⟨by decide +kernel, by decide +kernel, by decide +kernel⟩⟩, gw_700⟩
theorem gc_RX6_111 : gCv RX6 111 yX6_placeAllSheetsAnew cX6_placeAllSheetsAnew 5 (some Jvm.ClassFile.FieldType.int) 1 := ⟨⟨gw_738, gw_735, gw_1, ⟨by decide +kernel, by decide +kernel, by decide +kernel⟩⟩, gw_737, (gwA_mem (by unfold lw_tbl; exact List.mem_append_left _ (List.mem_of_getElem? (i := 10) (by decide +kernel))) rfl)⟩
theorem gc_RX6_220 : gCv RX6 220 yX3_pushedBeside cX3_pushedBeside 5 (some Jvm.ClassFile.FieldType.int) 1 := ⟨⟨gw_742, gw_739, gw_25, ⟨by decide +kernel, by decide +kernel, by decide +kernel⟩⟩, gw_740, gw_741⟩
theorem gc_RX3_110 : gCv RX3 110 yX5_isPushed cX5_isPushed 1 (some Jvm.ClassFile.FieldType.boolean) 0 := ⟨⟨gw_746, gw_743, gw_19, ⟨by decide +kernel, by decide +kernel, by decide +kernel⟩⟩, gw_744, gw_745⟩
theorem gc_RL_27 : gCv RL 27 yX6_spelled cX6_spelled 6 (some Jvm.ClassFile.FieldType.char) 3 := ⟨⟨gw_753, gw_750, gw_1, ⟨by decide +kernel, by decide +kernel, by decide +kernel⟩⟩, gw_751, gw_752⟩
theorem gc_RX6_122 : gCv RX6 122 yX2_wordOn cX2_wordOn 5 (some (Jvm.ClassFile.FieldType.object "java/lang/String")) 1 := ⟨⟨gw_407, gw_756, gw_18, ⟨by decide +kernel, by decide +kernel, by decide +kernel⟩⟩, gw_405, gw_406⟩
theorem gc_RX6_126 : gCv RX6 126 yJ0_length_8abf5 cJ0_length_8abf5 1 (some Jvm.ClassFile.FieldType.int) 0 := ⟨⟨gw_447, gw_757, gw_4, ⟨by decide +kernel, by decide +kernel, by decide +kernel⟩⟩, gw_445, gw_446⟩
theorem gc_RX6_129 : gCv RX6 129 yJ0_charAt_5068e cJ0_charAt_5068e 2 (some Jvm.ClassFile.FieldType.char) 1 := ⟨⟨gw_481, gw_758, gw_4, ⟨by decide +kernel, by decide +kernel, by decide +kernel⟩⟩, gw_479, gw_480⟩
theorem gc_RL_31 : gCv RL 31 yX6_pass cX6_pass 2 (some Jvm.ClassFile.FieldType.int) 1 := ⟨⟨gw_765, gw_762, gw_1, ⟨by decide +kernel, by decide +kernel, by decide +kernel⟩⟩, gw_763, gw_764⟩
theorem gc_RL_34 : gCv RL 34 yX6_sheet cX6_sheet 6 (some Jvm.ClassFile.FieldType.int) 3 := ⟨⟨gw_774, gw_771, gw_1, ⟨by decide +kernel, by decide +kernel, by decide +kernel⟩⟩, gw_772, gw_773⟩
theorem gc_RX6_141 : gCi RX6 141 yX3_init cX3_init 4 3 := ⟨⟨gw_779, gw_777, gw_25, ⟨by decide +kernel, by decide +kernel, by decide +kernel⟩⟩, gw_778, rfl⟩
theorem gc_RX3_23 : gCi RX3 23 yX1_init cX1_init 1 0 := ⟨⟨gw_785, gw_783, gw_26, ⟨by decide +kernel, by decide +kernel, by decide +kernel⟩⟩, gw_784, rfl⟩
theorem gc_RL_37 : gCv RL 37 yX6_dot cX6_dot 5 (some Jvm.ClassFile.FieldType.int) 3 := ⟨⟨gw_829, gw_826, gw_1, ⟨by decide +kernel, by decide +kernel, by decide +kernel⟩⟩, gw_827, gw_828⟩
theorem gc_RX6_148 : gCv RX6 148 yX6_spotOn cX6_spotOn 4 (some (Jvm.ClassFile.FieldType.object "GraticulePress$Spot")) 2 := ⟨⟨gw_833, gw_830, gw_1, ⟨by decide +kernel, by decide +kernel, by decide +kernel⟩⟩, gw_832, (gwA_mem (by unfold lw_tbl; exact List.mem_append_left _ (List.mem_of_getElem? (i := 11) (by decide +kernel))) rfl)⟩
theorem gc_RX6_163 : gCv RX6 163 yX6_sheetNumbered cX6_sheetNumbered 2 (some (Jvm.ClassFile.FieldType.object "GraticulePress$Sheet")) 1 := ⟨⟨gw_837, gw_834, gw_1, ⟨by decide +kernel, by decide +kernel, by decide +kernel⟩⟩, gw_836, (gwA_mem (by unfold lw_tbl; exact List.mem_append_left _ (List.mem_of_getElem? (i := 12) (by decide +kernel))) rfl)⟩
theorem gc_RX6_216 : gCv RX6 216 yX3_spotOf cX3_spotOf 2 (some (Jvm.ClassFile.FieldType.object "GraticulePress$Spot")) 1 := ⟨⟨gw_842, gw_839, gw_25, ⟨by decide +kernel, by decide +kernel, by decide +kernel⟩⟩, gw_840, gw_841⟩
theorem gc_RL_41 : gCv RL 41 yX6_side cX6_side 3 (some Jvm.ClassFile.FieldType.int) 2 := ⟨⟨gw_849, gw_846, gw_1, ⟨by decide +kernel, by decide +kernel, by decide +kernel⟩⟩, gw_847, gw_848⟩
theorem gc_RL_45 : gCv RL 45 yX6_drawn cX6_drawn 5 (some Jvm.ClassFile.FieldType.char) 3 := ⟨⟨gw_856, gw_853, gw_1, ⟨by decide +kernel, by decide +kernel, by decide +kernel⟩⟩, gw_854, gw_855⟩
theorem gc_RX6_167 : gCs RX6 167 yX6_isOnGrid cX6_isOnGrid 2 (some Jvm.ClassFile.FieldType.boolean) 2 := ⟨⟨gw_435, gw_857, gw_1, ⟨by decide +kernel, by decide +kernel, by decide +kernel⟩⟩, gw_434⟩
theorem gc_RX6_177 : gCv RX6 177 yX1_signAt cX1_signAt 3 (some Jvm.ClassFile.FieldType.char) 2 := ⟨⟨gw_468, gw_859, gw_26, ⟨by decide +kernel, by decide +kernel, by decide +kernel⟩⟩, gw_466, gw_467⟩
theorem gc_RL_48 : gCv RL 48 yX6_worth cX6_worth 2 (some Jvm.ClassFile.FieldType.int) 1 := ⟨⟨gw_866, gw_863, gw_1, ⟨by decide +kernel, by decide +kernel, by decide +kernel⟩⟩, gw_864, gw_865⟩
theorem gc_RX6_183 : gCv RX6 183 yX3_worthToday cX3_worthToday 4 (some Jvm.ClassFile.FieldType.int) 0 := ⟨⟨gw_870, gw_867, gw_25, ⟨by decide +kernel, by decide +kernel, by decide +kernel⟩⟩, gw_868, gw_869⟩
theorem gc_RL_51 : gCv RL 51 yX6_best cX6_best 3 (some Jvm.ClassFile.FieldType.int) 1 := ⟨⟨gw_877, gw_874, gw_1, ⟨by decide +kernel, by decide +kernel, by decide +kernel⟩⟩, gw_875, gw_876⟩
theorem gc_RX6_191 : gCv RX6 191 yX3_greatestWorth cX3_greatestWorth 1 (some Jvm.ClassFile.FieldType.int) 0 := ⟨⟨gw_882, gw_879, gw_25, ⟨by decide +kernel, by decide +kernel, by decide +kernel⟩⟩, gw_880, gw_881⟩
theorem gc_RX3_116 : gCs RX3 116 yX3_greatestFrom cX3_greatestFrom 9 (some Jvm.ClassFile.FieldType.int) 4 := ⟨⟨gw_885, gw_883, gw_25, ⟨by decide +kernel, by decide +kernel, by decide +kernel⟩⟩, gw_884⟩
theorem gc_RX3_120 : gCs RX3 120 yX3_ranksFrom cX3_ranksFrom 6 (some Jvm.ClassFile.FieldType.int) 3 := ⟨⟨gw_888, gw_886, gw_25, ⟨by decide +kernel, by decide +kernel, by decide +kernel⟩⟩, gw_887⟩
theorem gc_RX3_132 : gCs RX3 132 yJ9_max_7cf53 cJ9_max_7cf53 2 (some Jvm.ClassFile.FieldType.int) 2 := ⟨⟨gw_221, gw_889, gw_13, ⟨by decide +kernel, by decide +kernel, by decide +kernel⟩⟩, gw_220⟩
theorem gc_RX3_124 : gCv RX3 124 yX5_mayStand cX5_mayStand 4 (some Jvm.ClassFile.FieldType.boolean) 2 := ⟨⟨gw_443, gw_890, gw_19, ⟨by decide +kernel, by decide +kernel, by decide +kernel⟩⟩, gw_441, gw_442⟩
theorem gc_RX3_128 : gCv RX3 128 yX5_write cX5_write 3 none 2 := ⟨⟨gw_472, gw_891, gw_19, ⟨by decide +kernel, by decide +kernel, by decide +kernel⟩⟩, gw_470, gw_471⟩
theorem gc_RX3_138 : gCv RX3 138 yX5_erase cX5_erase 4 none 2 := ⟨⟨gw_895, gw_892, gw_19, ⟨by decide +kernel, by decide +kernel, by decide +kernel⟩⟩, gw_893, gw_894⟩
theorem gc_RX5_70 : gCv RX5 70 yX1_erase cX1_erase 5 none 3 := ⟨⟨gw_899, gw_896, gw_26, ⟨by decide +kernel, by decide +kernel, by decide +kernel⟩⟩, gw_897, gw_898⟩
theorem gc_RL_54 : gCv RL 54 yX6_print cX6_print 4 (some Jvm.ClassFile.FieldType.int) 0 := ⟨⟨gw_906, gw_903, gw_1, ⟨by decide +kernel, by decide +kernel, by decide +kernel⟩⟩, gw_904, gw_905⟩
theorem gc_RX6_196 : gCi RX6 196 yX0_init cX0_init 1 0 := ⟨⟨gw_911, gw_909, gw_27, ⟨by decide +kernel, by decide +kernel, by decide +kernel⟩⟩, gw_910, rfl⟩
theorem gc_RX6_197 : gCv RX6 197 yX0_keep cX0_keep 4 none 2 := ⟨⟨gw_922, gw_919, gw_27, ⟨by decide +kernel, by decide +kernel, by decide +kernel⟩⟩, gw_920, gw_921⟩
theorem gc_RX0_17 : gCi RX0 17 yX1_init cX1_init 1 0 := ⟨⟨gw_785, gw_923, gw_26, ⟨by decide +kernel, by decide +kernel, by decide +kernel⟩⟩, gw_784, rfl⟩
theorem gc_RX0_18 : gCv RX0 18 yX1_copyFrom cX1_copyFrom 3 none 1 := ⟨⟨gw_927, gw_924, gw_26, ⟨by decide +kernel, by decide +kernel, by decide +kernel⟩⟩, gw_925, gw_926⟩
theorem gc_RL_58 : gCv RL 58 yX6_printed cX6_printed 6 (some Jvm.ClassFile.FieldType.char) 4 := ⟨⟨gw_934, gw_931, gw_1, ⟨by decide +kernel, by decide +kernel, by decide +kernel⟩⟩, gw_932, gw_933⟩
theorem gc_RX6_201 : gCv RX6 201 yX6_editionNumbered cX6_editionNumbered 2 (some (Jvm.ClassFile.FieldType.object "GraticulePress$Edition")) 1 := ⟨⟨gw_938, gw_935, gw_1, ⟨by decide +kernel, by decide +kernel, by decide +kernel⟩⟩, gw_937, (gwA_mem (by unfold lw_tbl; exact List.mem_append_left _ (List.mem_of_getElem? (i := 13) (by decide +kernel))) rfl)⟩
theorem gc_RX6_207 : gCv RX6 207 yX0_signAt cX0_signAt 4 (some Jvm.ClassFile.FieldType.char) 3 := ⟨⟨gw_944, gw_941, gw_27, ⟨by decide +kernel, by decide +kernel, by decide +kernel⟩⟩, gw_942, gw_943⟩
theorem gc_RX0_22 : gCv RX0 22 yX1_signAt cX1_signAt 3 (some Jvm.ClassFile.FieldType.char) 2 := ⟨⟨gw_468, gw_945, gw_26, ⟨by decide +kernel, by decide +kernel, by decide +kernel⟩⟩, gw_466, gw_467⟩
theorem gc_RL_65 : gCi RL 65 yX7_init cX7_init 1 0 := ⟨⟨gw_950, gw_948, gw_6, ⟨by decide +kernel, by decide +kernel, by decide +kernel⟩⟩, gw_949, rfl⟩
theorem gc_RL_72 : gCv RL 72 yX7_thrown cX7_thrown 1 (some Jvm.ClassFile.FieldType.int) 0 := ⟨⟨gw_1041, gw_1038, gw_6, ⟨by decide +kernel, by decide +kernel, by decide +kernel⟩⟩, gw_1039, gw_1040⟩
theorem gc_RL_71 : gCv RL 71 yX7_letter cX7_letter 2 (some Jvm.ClassFile.FieldType.int) 1 := ⟨⟨gw_1045, gw_1042, gw_6, ⟨by decide +kernel, by decide +kernel, by decide +kernel⟩⟩, gw_1043, gw_1044⟩
theorem gc_RX7_81 : gCs RX7 81 yX7_in cX7_in 3 (some Jvm.ClassFile.FieldType.boolean) 3 := ⟨⟨gw_1048, gw_1046, gw_6, ⟨by decide +kernel, by decide +kernel, by decide +kernel⟩⟩, gw_1047⟩
theorem gc_RX7_91 : gCv RX7 91 yX7_goes cX7_goes 4 (some Jvm.ClassFile.FieldType.boolean) 3 := ⟨⟨gw_1052, gw_1049, gw_6, ⟨by decide +kernel, by decide +kernel, by decide +kernel⟩⟩, gw_1051, (gwA_mem (by unfold lw_tbl; exact List.mem_append_left _ (List.mem_of_getElem? (i := 14) (by decide +kernel))) rfl)⟩
theorem gc_RL_78 : gCv RL 78 yX7_place cX7_place 4 (some Jvm.ClassFile.FieldType.int) 3 := ⟨⟨gw_1056, gw_1053, gw_6, ⟨by decide +kernel, by decide +kernel, by decide +kernel⟩⟩, gw_1054, gw_1055⟩
theorem gc_RL_82 : gCv RL 82 yX7_name cX7_name 7 (some Jvm.ClassFile.FieldType.int) 1 := ⟨⟨gw_1060, gw_1057, gw_6, ⟨by decide +kernel, by decide +kernel, by decide +kernel⟩⟩, gw_1058, gw_1059⟩
theorem gc_RX7_95 : gCv RX7 95 yX7_isPlace cX7_isPlace 2 (some Jvm.ClassFile.FieldType.boolean) 1 := ⟨⟨gw_1064, gw_1061, gw_6, ⟨by decide +kernel, by decide +kernel, by decide +kernel⟩⟩, gw_1063, (gwA_mem (by unfold lw_tbl; exact List.mem_append_left _ (List.mem_of_getElem? (i := 15) (by decide +kernel))) rfl)⟩
theorem gc_RX7_99 : gCv RX7 99 yX7_lays cX7_lays 6 none 1 := ⟨⟨gw_1068, gw_1065, gw_6, ⟨by decide +kernel, by decide +kernel, by decide +kernel⟩⟩, gw_1067, (gwA_mem (by unfold lw_tbl; exact List.mem_append_left _ (List.mem_of_getElem? (i := 16) (by decide +kernel))) rfl)⟩
theorem gc_RX7_131 : gCv RX7 131 yX7_dots cX7_dots 4 none 2 := ⟨⟨gw_1072, gw_1069, gw_6, ⟨by decide +kernel, by decide +kernel, by decide +kernel⟩⟩, gw_1071, (gwA_mem (by unfold lw_tbl; exact List.mem_append_left _ (List.mem_of_getElem? (i := 17) (by decide +kernel))) rfl)⟩
theorem gc_RX7_114 : gCv RX7 114 yX7_isOn cX7_isOn 3 (some Jvm.ClassFile.FieldType.boolean) 2 := ⟨⟨gw_1076, gw_1073, gw_6, ⟨by decide +kernel, by decide +kernel, by decide +kernel⟩⟩, gw_1075, (gwA_mem (by unfold lw_tbl; exact List.mem_append_left _ (List.mem_of_getElem? (i := 18) (by decide +kernel))) rfl)⟩
theorem gc_RX7_118 : gCv RX7 118 yX7_columnOf cX7_columnOf 6 (some Jvm.ClassFile.FieldType.int) 2 := ⟨⟨gw_1080, gw_1077, gw_6, ⟨by decide +kernel, by decide +kernel, by decide +kernel⟩⟩, gw_1079, (gwA_mem (by unfold lw_tbl; exact List.mem_append_left _ (List.mem_of_getElem? (i := 19) (by decide +kernel))) rfl)⟩
theorem gc_RX7_121 : gCv RX7 121 yX7_rowOf cX7_rowOf 3 (some Jvm.ClassFile.FieldType.int) 2 := ⟨⟨gw_1088, gw_1085, gw_6, ⟨by decide +kernel, by decide +kernel, by decide +kernel⟩⟩, gw_1087, (gwA_mem (by unfold lw_tbl; exact List.mem_append_left _ (List.mem_of_getElem? (i := 20) (by decide +kernel))) rfl)⟩
theorem gc_RX7_135 : gCv RX7 135 yX7_hasName cX7_hasName 2 (some Jvm.ClassFile.FieldType.boolean) 1 := ⟨⟨gw_1092, gw_1089, gw_6, ⟨by decide +kernel, by decide +kernel, by decide +kernel⟩⟩, gw_1091, (gwA_mem (by unfold lw_tbl; exact List.mem_append_left _ (List.mem_of_getElem? (i := 21) (by decide +kernel))) rfl)⟩
theorem gc_RX7_106 : gCv RX7 106 yX7_nameOn cX7_nameOn 5 (some Jvm.ClassFile.FieldType.int) 2 := ⟨⟨gw_1096, gw_1093, gw_6, ⟨by decide +kernel, by decide +kernel, by decide +kernel⟩⟩, gw_1095, (gwA_mem (by unfold lw_tbl; exact List.mem_append_left _ (List.mem_of_getElem? (i := 22) (by decide +kernel))) rfl)⟩
theorem gc_RX7_138 : gCv RX7 138 yX7_mayStand cX7_mayStand 8 (some Jvm.ClassFile.FieldType.boolean) 3 := ⟨⟨gw_1100, gw_1097, gw_6, ⟨by decide +kernel, by decide +kernel, by decide +kernel⟩⟩, gw_1099, (gwA_mem (by unfold lw_tbl; exact List.mem_append_left _ (List.mem_of_getElem? (i := 23) (by decide +kernel))) rfl)⟩
theorem gc_RX7_124 : gCs RX7 124 yX7_rowAt cX7_rowAt 2 (some Jvm.ClassFile.FieldType.int) 2 := ⟨⟨gw_1103, gw_1101, gw_6, ⟨by decide +kernel, by decide +kernel, by decide +kernel⟩⟩, gw_1102⟩
theorem gc_RX7_127 : gCs RX7 127 yX7_columnAt cX7_columnAt 3 (some Jvm.ClassFile.FieldType.int) 3 := ⟨⟨gw_1106, gw_1104, gw_6, ⟨by decide +kernel, by decide +kernel, by decide +kernel⟩⟩, gw_1105⟩
theorem gc_RX7_141 : gCv RX7 141 yX7_puts cX7_puts 7 none 3 := ⟨⟨gw_1110, gw_1107, gw_6, ⟨by decide +kernel, by decide +kernel, by decide +kernel⟩⟩, gw_1109, (gwA_mem (by unfold lw_tbl; exact List.mem_append_left _ (List.mem_of_getElem? (i := 24) (by decide +kernel))) rfl)⟩
theorem gc_RL_85 : gCv RL 85 yX7_spelled cX7_spelled 5 (some Jvm.ClassFile.FieldType.char) 3 := ⟨⟨gw_1114, gw_1111, gw_6, ⟨by decide +kernel, by decide +kernel, by decide +kernel⟩⟩, gw_1112, gw_1113⟩
theorem gc_RL_88 : gCv RL 88 yX7_pass cX7_pass 2 (some Jvm.ClassFile.FieldType.int) 1 := ⟨⟨gw_1118, gw_1115, gw_6, ⟨by decide +kernel, by decide +kernel, by decide +kernel⟩⟩, gw_1116, gw_1117⟩
theorem gc_RL_91 : gCv RL 91 yX7_sheet cX7_sheet 4 (some Jvm.ClassFile.FieldType.int) 3 := ⟨⟨gw_1122, gw_1119, gw_6, ⟨by decide +kernel, by decide +kernel, by decide +kernel⟩⟩, gw_1120, gw_1121⟩
theorem gc_RL_95 : gCv RL 95 yX7_dot cX7_dot 4 (some Jvm.ClassFile.FieldType.int) 3 := ⟨⟨gw_1126, gw_1123, gw_6, ⟨by decide +kernel, by decide +kernel, by decide +kernel⟩⟩, gw_1124, gw_1125⟩
theorem gc_RX7_145 : gCv RX7 145 yX7_isSheet cX7_isSheet 2 (some Jvm.ClassFile.FieldType.boolean) 1 := ⟨⟨gw_1130, gw_1127, gw_6, ⟨by decide +kernel, by decide +kernel, by decide +kernel⟩⟩, gw_1129, (gwA_mem (by unfold lw_tbl; exact List.mem_append_left _ (List.mem_of_getElem? (i := 25) (by decide +kernel))) rfl)⟩
theorem gc_RL_99 : gCv RL 99 yX7_side cX7_side 3 (some Jvm.ClassFile.FieldType.int) 2 := ⟨⟨gw_1134, gw_1131, gw_6, ⟨by decide +kernel, by decide +kernel, by decide +kernel⟩⟩, gw_1132, gw_1133⟩
theorem gc_RL_102 : gCv RL 102 yX7_drawn cX7_drawn 4 (some Jvm.ClassFile.FieldType.char) 3 := ⟨⟨gw_1138, gw_1135, gw_6, ⟨by decide +kernel, by decide +kernel, by decide +kernel⟩⟩, gw_1136, gw_1137⟩
theorem gc_RX7_148 : gCs RX7 148 yX7_isCell cX7_isCell 2 (some Jvm.ClassFile.FieldType.boolean) 2 := ⟨⟨gw_1141, gw_1139, gw_6, ⟨by decide +kernel, by decide +kernel, by decide +kernel⟩⟩, gw_1140⟩
theorem gc_RL_105 : gCv RL 105 yX7_worth cX7_worth 4 (some Jvm.ClassFile.FieldType.int) 1 := ⟨⟨gw_1145, gw_1142, gw_6, ⟨by decide +kernel, by decide +kernel, by decide +kernel⟩⟩, gw_1143, gw_1144⟩
theorem gc_RL_108 : gCv RL 108 yX7_best cX7_best 6 (some Jvm.ClassFile.FieldType.int) 1 := ⟨⟨gw_1149, gw_1146, gw_6, ⟨by decide +kernel, by decide +kernel, by decide +kernel⟩⟩, gw_1147, gw_1148⟩
theorem gc_RX7_157 : gCv RX7 157 yX7_canTry cX7_canTry 4 (some Jvm.ClassFile.FieldType.boolean) 1 := ⟨⟨gw_1153, gw_1150, gw_6, ⟨by decide +kernel, by decide +kernel, by decide +kernel⟩⟩, gw_1152, (gwA_mem (by unfold lw_tbl; exact List.mem_append_left _ (List.mem_of_getElem? (i := 26) (by decide +kernel))) rfl)⟩
theorem gc_RX7_160 : gCv RX7 160 yX7_worthOf cX7_worthOf 8 (some Jvm.ClassFile.FieldType.int) 1 := ⟨⟨gw_1157, gw_1154, gw_6, ⟨by decide +kernel, by decide +kernel, by decide +kernel⟩⟩, gw_1156, (gwA_mem (by unfold lw_tbl; exact List.mem_append_left _ (List.mem_of_getElem? (i := 27) (by decide +kernel))) rfl)⟩
theorem gc_RX7_154 : gCv RX7 154 yX7_takes cX7_takes 7 none 3 := ⟨⟨gw_1161, gw_1158, gw_6, ⟨by decide +kernel, by decide +kernel, by decide +kernel⟩⟩, gw_1160, (gwA_mem (by unfold lw_tbl; exact List.mem_append_left _ (List.mem_of_getElem? (i := 28) (by decide +kernel))) rfl)⟩
theorem gc_RL_112 : gCv RL 112 yX7_print cX7_print 3 (some Jvm.ClassFile.FieldType.int) 0 := ⟨⟨gw_1165, gw_1162, gw_6, ⟨by decide +kernel, by decide +kernel, by decide +kernel⟩⟩, gw_1163, gw_1164⟩
theorem gc_RL_116 : gCv RL 116 yX7_printed cX7_printed 7 (some Jvm.ClassFile.FieldType.char) 4 := ⟨⟨gw_1169, gw_1166, gw_6, ⟨by decide +kernel, by decide +kernel, by decide +kernel⟩⟩, gw_1167, gw_1168⟩
theorem gn_RL_8 : gNw RL 8 10 8 [.null, .null, .null, .null, vi 0, vi 0, vi 0, vi 0] := ⟨RX6, TX6, rfl, gwu_10, gw_28, gw_29, gw_1, tyX6, tyX6_ok, fun j hj => by rcases (show j = 0 ∨ j = 1 ∨ j = 2 ∨ j = 3 ∨ j = 4 ∨ j = 5 ∨ j = 6 ∨ j = 7 by omega) with rfl | rfl | rfl | rfl | rfl | rfl | rfl | rfl <;> rfl⟩
theorem gn_RX6_7 : gNw RX6 7 1 4 [.null, vi 0, vi 0, vi 0] := ⟨RJ4, TJ4, rfl, gwu_1, gw_36, gw_37, gw_3, tyJ4, tyJ4_ok, fun j hj => by rcases (show j = 0 ∨ j = 1 ∨ j = 2 ∨ j = 3 by omega) with rfl | rfl | rfl | rfl <;> rfl⟩
theorem gn_RX6_16 : gNw RX6 16 6 5 [vi 0, vi 0, vi 0, .null, vi 0] := ⟨RX2, TX2, rfl, gwu_6, gw_69, gw_308, gw_18, tyX2, tyX2_ok, fun j hj => by rcases (show j = 0 ∨ j = 1 ∨ j = 2 ∨ j = 3 ∨ j = 4 by omega) with rfl | rfl | rfl | rfl | rfl <;> rfl⟩
theorem ga_RX6_16 : Cond.classLink RX6 16 RX2 ∈ gwA ∧ RX2 ∈ gAo := ⟨gw_69, by decide⟩
theorem gn_RX6_22 : gNw RX6 22 7 9 [.null, .null, vi 0, vi 0, vi 0, .null, vi 0, .null, vi 0] := ⟨RX3, TX3, rfl, gwu_7, gw_71, gw_345, gw_25, tyX3, tyX3_ok, fun j hj => by rcases (show j = 0 ∨ j = 1 ∨ j = 2 ∨ j = 3 ∨ j = 4 ∨ j = 5 ∨ j = 6 ∨ j = 7 ∨ j = 8 by omega) with rfl | rfl | rfl | rfl | rfl | rfl | rfl | rfl | rfl <;> rfl⟩
theorem ga_RX6_22 : Cond.classLink RX6 22 RX3 ∈ gwA ∧ RX3 ∈ gAo := ⟨gw_71, by decide⟩
theorem gn_RX6_28 : gNw RX6 28 4 1 [.null] := ⟨RX0, TX0, rfl, gwu_4, gw_73, gw_908, gw_27, tyX0, tyX0_ok, fun j hj => by rcases (show j = 0 by omega) with rfl <;> rfl⟩
theorem ga_RX6_28 : Cond.classLink RX6 28 RX0 ∈ gwA ∧ RX0 ∈ gAo := ⟨gw_73, by decide⟩
theorem gn_RX2_21 : gNw RX2 21 8 2 [vi 0, .null] := ⟨RX4, TX4, rfl, gwu_8, gw_313, gw_532, gw_21, tyX4, tyX4_ok, fun j hj => by rcases (show j = 0 ∨ j = 1 by omega) with rfl | rfl <;> rfl⟩
theorem ga_RX2_21 : Cond.classLink RX2 21 RX4 ∈ gwA ∧ RX4 ∈ gAo := ⟨gw_313, by decide⟩
theorem gn_RX3_31 : gNw RX3 31 9 7 [vi 0, vi 0, vi 0, .null, .null, vi 0, vi 0] := ⟨RX5, TX5, rfl, gwu_9, gw_348, gw_349, gw_19, tyX5, tyX5_ok, fun j hj => by rcases (show j = 0 ∨ j = 1 ∨ j = 2 ∨ j = 3 ∨ j = 4 ∨ j = 5 ∨ j = 6 by omega) with rfl | rfl | rfl | rfl | rfl | rfl | rfl <;> rfl⟩
theorem ga_RX3_31 : Cond.classLink RX3 31 RX5 ∈ gwA ∧ RX5 ∈ gAo := ⟨gw_348, by decide⟩
theorem gn_RX6_94 : gNw RX6 94 8 2 [vi 0, .null] := ⟨RX4, TX4, rfl, gwu_8, gw_531, gw_532, gw_21, tyX4, tyX4_ok, fun j hj => by rcases (show j = 0 ∨ j = 1 by omega) with rfl | rfl <;> rfl⟩
theorem ga_RX6_94 : Cond.classLink RX6 94 RX4 ∈ gwA ∧ RX4 ∈ gAo := ⟨gw_531, by decide⟩
theorem gn_RJ4_18 : gNw RJ4 18 0 4 [.null, vi 0, vi 0, vi 0] := ⟨RJ0, TJ0, rfl, gwu_0, gw_537, gw_538, gw_4, tyJ0, tyJ0_ok, fun j hj => by rcases (show j = 0 ∨ j = 1 ∨ j = 2 ∨ j = 3 by omega) with rfl | rfl | rfl | rfl <;> rfl⟩
theorem gn_RJ7_45 : gNw RJ7 45 1 4 [.null, vi 0, vi 0, vi 0] := ⟨RJ4, TJ4, rfl, gwu_1, gw_563, gw_37, gw_3, tyJ4, tyJ4_ok, fun j hj => by rcases (show j = 0 ∨ j = 1 ∨ j = 2 ∨ j = 3 by omega) with rfl | rfl | rfl | rfl <;> rfl⟩
theorem gn_RJx7c733_10 : gNw RJx7c733 10 1 4 [.null, vi 0, vi 0, vi 0] := ⟨RJ4, TJ4, rfl, gwu_1, gw_682, gw_37, gw_3, tyJ4, tyJ4_ok, fun j hj => by rcases (show j = 0 ∨ j = 1 ∨ j = 2 ∨ j = 3 by omega) with rfl | rfl | rfl | rfl <;> rfl⟩
theorem gn_RJx00060_10 : gNw RJx00060 10 1 4 [.null, vi 0, vi 0, vi 0] := ⟨RJ4, TJ4, rfl, gwu_1, gw_722, gw_37, gw_3, tyJ4, tyJ4_ok, fun j hj => by rcases (show j = 0 ∨ j = 1 ∨ j = 2 ∨ j = 3 by omega) with rfl | rfl | rfl | rfl <;> rfl⟩
theorem gn_RX3_21 : gNw RX3 21 5 1 [.null] := ⟨RX1, TX1, rfl, gwu_5, gw_781, gw_782, gw_26, tyX1, tyX1_ok, fun j hj => by rcases (show j = 0 by omega) with rfl <;> rfl⟩
theorem ga_RX3_21 : Cond.classLink RX3 21 RX1 ∈ gwA ∧ RX1 ∈ gAo := ⟨gw_781, by decide⟩
theorem gn_RX0_9 : gNw RX0 9 5 1 [.null] := ⟨RX1, TX1, rfl, gwu_5, gw_913, gw_782, gw_26, tyX1, tyX1_ok, fun j hj => by rcases (show j = 0 by omega) with rfl <;> rfl⟩
theorem ga_RX0_9 : Cond.classLink RX0 9 RX1 ∈ gwA ∧ RX1 ∈ gAo := ⟨gw_913, by decide⟩
theorem gn_RL_63 : gNw RL 63 11 28 [vi 0, vi 0, .null, vi 0, .null, .null, .null, .null, .null, .null, .null, vi 0, .null, .null, .null, .null, .null, .null, .null, .null, vi 0, .null, vi 0, .null, .null, .null, .null, vi 0] := ⟨RX7, TX7, rfl, gwu_11, gw_946, gw_947, gw_6, tyX7, tyX7_ok, fun j hj => by rcases (show j = 0 ∨ j = 1 ∨ j = 2 ∨ j = 3 ∨ j = 4 ∨ j = 5 ∨ j = 6 ∨ j = 7 ∨ j = 8 ∨ j = 9 ∨ j = 10 ∨ j = 11 ∨ j = 12 ∨ j = 13 ∨ j = 14 ∨ j = 15 ∨ j = 16 ∨ j = 17 ∨ j = 18 ∨ j = 19 ∨ j = 20 ∨ j = 21 ∨ j = 22 ∨ j = 23 ∨ j = 24 ∨ j = 25 ∨ j = 26 ∨ j = 27 by omega) with rfl | rfl | rfl | rfl | rfl | rfl | rfl | rfl | rfl | rfl | rfl | rfl | rfl | rfl | rfl | rfl | rfl | rfl | rfl | rfl | rfl | rfl | rfl | rfl | rfl | rfl | rfl | rfl <;> rfl⟩
theorem ga_char : Cond.arrayClass .char ∈ gwA := gw_791
theorem ga_int : Cond.arrayClass .int ∈ gwA := gw_1037
theorem ga_byte : Cond.arrayClass .byte ∈ gwA := gw_68
theorem ga_long : Cond.arrayClass .long ∈ gwA := gw_1170
theorem go_RX6 : Cond.methodLink RX6 1 objectInit ∈ gwA := gw_33
theorem go_RJ5 : Cond.methodLink RJ5 3 objectInit ∈ gwA := gw_44
theorem go_RX2 : Cond.methodLink RX2 3 objectInit ∈ gwA := gw_312
theorem go_RX5 : Cond.methodLink RX5 3 objectInit ∈ gwA := gw_366
theorem go_RJ0 : Cond.methodLink RJ0 1 objectInit ∈ gwA := gw_545
theorem go_RX4 : Cond.methodLink RX4 1 objectInit ∈ gwA := gw_656
theorem go_RX3 : Cond.methodLink RX3 3 objectInit ∈ gwA := gw_780
theorem go_RX1 : Cond.methodLink RX1 3 objectInit ∈ gwA := gw_786
theorem go_RX0 : Cond.methodLink RX0 3 objectInit ∈ gwA := gw_912
theorem go_RX7 : Cond.methodLink RX7 1 objectInit ∈ gwA := gw_951
theorem go_i : Cond.instanceMethod objectInit ∈ gwA := gw_34
theorem go_c : Cond.code objectInit ⟨#[0xb1]⟩ 1 none ∈ gwA := gw_35
theorem gt5_51 : (vx_atS RX6 51 "java/lang/IllegalArgumentException" ["java/lang/RuntimeException", "java/lang/Exception"]).all (fun w => decide (w ∈ lw_tbl) && (goodWord w || gBk w)) = true := by decide +kernel
theorem gt6_51 : (Cond.classLink RX6 47 "java/lang/IllegalArgumentException" :: Cond.initialized "java/lang/IllegalArgumentException" :: vx_atS RX6 51 "java/lang/IllegalArgumentException" ["java/lang/RuntimeException", "java/lang/Exception"]).all vx_ot = true := by decide +kernel
theorem gt_49_51 : gTh RX6 47 49 51 "java/lang/IllegalArgumentException" "the letter is none of a to z" := gTh.of (by decide) gw_109 gw_10 (by decide) gt5_51 gt6_51
theorem gt5_62 : (vx_atS RX6 62 "java/lang/IllegalStateException" ["java/lang/RuntimeException", "java/lang/Exception"]).all (fun w => decide (w ∈ lw_tbl) && (goodWord w || gBk w)) = true := by decide +kernel
theorem gt6_62 : (Cond.classLink RX6 58 "java/lang/IllegalStateException" :: Cond.initialized "java/lang/IllegalStateException" :: vx_atS RX6 62 "java/lang/IllegalStateException" ["java/lang/RuntimeException", "java/lang/Exception"]).all vx_ot = true := by decide +kernel
theorem gt_60_62 : gTh RX6 58 60 62 "java/lang/IllegalStateException" "the word has 8 letters" := gTh.of (by decide) gw_185 gw_11 (by decide) gt5_62 gt6_62
theorem gt_71_51 : gTh RX6 47 71 51 "java/lang/IllegalArgumentException" "length, breadth or rank is out of range" := gTh.of (by decide) gw_109 gw_10 (by decide) gt5_51 gt6_51
theorem gt_73_62 : gTh RX6 58 73 62 "java/lang/IllegalStateException" "there are 14 places" := gTh.of (by decide) gw_185 gw_11 (by decide) gt5_62 gt6_62
theorem gt_86_62 : gTh RX6 58 86 62 "java/lang/IllegalStateException" "nothing is typed" := gTh.of (by decide) gw_185 gw_11 (by decide) gt5_62 gt6_62
theorem gt_92_62 : gTh RX6 58 92 62 "java/lang/IllegalStateException" "the place was told 6 names" := gTh.of (by decide) gw_185 gw_11 (by decide) gt5_62 gt6_62
theorem gt5_119 : (vx_atS RX6 119 "java/lang/IndexOutOfBoundsException" ["java/lang/RuntimeException", "java/lang/Exception"]).all (fun w => decide (w ∈ lw_tbl) && (goodWord w || gBk w)) = true := by decide +kernel
theorem gt6_119 : (Cond.classLink RX6 115 "java/lang/IndexOutOfBoundsException" :: Cond.initialized "java/lang/IndexOutOfBoundsException" :: vx_atS RX6 119 "java/lang/IndexOutOfBoundsException" ["java/lang/RuntimeException", "java/lang/Exception"]).all vx_ot = true := by decide +kernel
theorem gt_117_119 : gTh RX6 115 117 119 "java/lang/IndexOutOfBoundsException" "there is no such letter" := gTh.of (by decide) gw_509 gw_20 (by decide) gt5_119 gt6_119
theorem gt_120_51 : gTh RX6 47 120 51 "java/lang/IllegalArgumentException" "the day is out of range" := gTh.of (by decide) gw_109 gw_10 (by decide) gt5_51 gt6_51
theorem gt_133_51 : gTh RX6 47 133 51 "java/lang/IllegalArgumentException" "days is out of range" := gTh.of (by decide) gw_109 gw_10 (by decide) gt5_51 gt6_51
theorem gt_135_62 : gTh RX6 58 135 62 "java/lang/IllegalStateException" "the day would be above 10000" := gTh.of (by decide) gw_185 gw_11 (by decide) gt5_62 gt6_62
theorem gt_137_51 : gTh RX6 47 137 51 "java/lang/IllegalArgumentException" "length, breadth or kind is out of range" := gTh.of (by decide) gw_109 gw_10 (by decide) gt5_51 gt6_51
theorem gt_139_62 : gTh RX6 58 139 62 "java/lang/IllegalStateException" "there are 4 sheets" := gTh.of (by decide) gw_185 gw_11 (by decide) gt5_62 gt6_62
theorem gt_171_119 : gTh RX6 115 171 119 "java/lang/IndexOutOfBoundsException" "there is no such row or column" := gTh.of (by decide) gw_509 gw_20 (by decide) gt5_119 gt6_119
theorem gt_189_62 : gTh RX6 58 189 62 "java/lang/IllegalStateException" "more than 4 places with a name are on the sheet" := gTh.of (by decide) gw_185 gw_11 (by decide) gt5_62 gt6_62
theorem gt_194_62 : gTh RX6 58 194 62 "java/lang/IllegalStateException" "there are 5 editions" := gTh.of (by decide) gw_185 gw_11 (by decide) gt5_62 gt6_62
theorem gt_205_119 : gTh RX6 115 205 119 "java/lang/IndexOutOfBoundsException" "there is no such sheet, row or column" := gTh.of (by decide) gw_509 gw_20 (by decide) gt5_119 gt6_119
theorem gt_210_119 : gTh RX6 115 210 119 "java/lang/IndexOutOfBoundsException" "there is no such place" := gTh.of (by decide) gw_509 gw_20 (by decide) gt5_119 gt6_119
theorem gt_212_119 : gTh RX6 115 212 119 "java/lang/IndexOutOfBoundsException" "there is no such sheet" := gTh.of (by decide) gw_509 gw_20 (by decide) gt5_119 gt6_119
theorem gt_214_119 : gTh RX6 115 214 119 "java/lang/IndexOutOfBoundsException" "there is no such edition" := gTh.of (by decide) gw_509 gw_20 (by decide) gt5_119 gt6_119
theorem gmx_RJ8 : Cond.methodLink RJ8 194 Lib.Math.max.name ∈ gwA := gw_219
theorem gmx_RX3 : Cond.methodLink RX3 132 Lib.Math.max.name ∈ gwA := gw_889
theorem gmx_s : Cond.static Lib.Math.max.name ∈ gwA := gw_220
theorem gmx_i : Cond.initialized "java/lang/Math" ∈ gwA := gw_13
theorem gmx_c : Cond.code Lib.Math.max.name Lib.Math.max.code 2 (some .int) ∈ gwA := gw_221
theorem gk_RX3_68 : Cond.constantFloat RX3 68 (1017370378 : UInt32) ∈ gwA := gw_354
theorem gk_RX3_69 : Cond.constantFloat RX3 69 (1097859072 : UInt32) ∈ gwA := gw_355
theorem gk_RX3_70 : Cond.constantFloat RX3 70 (1082130432 : UInt32) ∈ gwA := gw_356
theorem gk_RX3_71 : Cond.constantFloat RX3 71 (1077936128 : UInt32) ∈ gwA := gw_357
theorem gk_RX3_72 : Cond.constantFloat RX3 72 (1101004800 : UInt32) ∈ gwA := gw_358
theorem gk_RX7_110 : Cond.constantFloat RX7 110 (1017370378 : UInt32) ∈ gwA := gw_1081
theorem gk_RX7_111 : Cond.constantFloat RX7 111 (1082130432 : UInt32) ∈ gwA := gw_1082
theorem gk_RX7_112 : Cond.constantFloat RX7 112 (1077936128 : UInt32) ∈ gwA := gw_1083
theorem gk_RX7_113 : Cond.constantFloat RX7 113 (1101004800 : UInt32) ∈ gwA := gw_1084
end
section
theorem dX0_init_0 : decode cX0_init 0 = .ok (.aload_n 0, 1) := by decide +kernel
theorem dX0_init_1 : decode cX0_init 1 = .ok (.invokespecial 3, 3) := by decide +kernel
theorem dX0_init_4 : decode cX0_init 4 = .ok (.aload_n 0, 1) := by decide +kernel
theorem dX0_init_5 : decode cX0_init 5 = .ok (.iconst 4, 1) := by decide +kernel
theorem dX0_init_6 : decode cX0_init 6 = .ok (.anewarray 9, 3) := by decide +kernel
theorem dX0_init_9 : decode cX0_init 9 = .ok (.putfield 11, 3) := by decide +kernel
theorem dX0_init_12 : decode cX0_init 12 = .ok (.return_, 1) := by decide +kernel
theorem dX0_keep_0 : decode cX0_keep 0 = .ok (.iload_n 1, 1) := by decide +kernel
theorem dX0_keep_1 : decode cX0_keep 1 = .ok (.ifCond .lt 32, 3) := by decide +kernel
theorem dX0_keep_4 : decode cX0_keep 4 = .ok (.iload_n 1, 1) := by decide +kernel
theorem dX0_keep_5 : decode cX0_keep 5 = .ok (.aload_n 0, 1) := by decide +kernel
theorem dX0_keep_6 : decode cX0_keep 6 = .ok (.getfield 11, 3) := by decide +kernel
theorem dX0_keep_9 : decode cX0_keep 9 = .ok (.arraylength, 1) := by decide +kernel
theorem dX0_keep_10 : decode cX0_keep 10 = .ok (.if_icmp .ge 23, 3) := by decide +kernel
theorem dX0_keep_13 : decode cX0_keep 13 = .ok (.new 9, 3) := by decide +kernel
theorem dX0_keep_16 : decode cX0_keep 16 = .ok (.dup, 1) := by decide +kernel
theorem dX0_keep_17 : decode cX0_keep 17 = .ok (.invokespecial 17, 3) := by decide +kernel
theorem dX0_keep_20 : decode cX0_keep 20 = .ok (.astore_n 3, 1) := by decide +kernel
theorem dX0_keep_21 : decode cX0_keep 21 = .ok (.aload_n 3, 1) := by decide +kernel
theorem dX0_keep_22 : decode cX0_keep 22 = .ok (.aload_n 2, 1) := by decide +kernel
theorem dX0_keep_23 : decode cX0_keep 23 = .ok (.invokevirtual 18, 3) := by decide +kernel
theorem dX0_keep_26 : decode cX0_keep 26 = .ok (.aload_n 0, 1) := by decide +kernel
theorem dX0_keep_27 : decode cX0_keep 27 = .ok (.getfield 11, 3) := by decide +kernel
theorem dX0_keep_30 : decode cX0_keep 30 = .ok (.iload_n 1, 1) := by decide +kernel
theorem dX0_keep_31 : decode cX0_keep 31 = .ok (.aload_n 3, 1) := by decide +kernel
theorem dX0_keep_32 : decode cX0_keep 32 = .ok (.aastore, 1) := by decide +kernel
theorem dX0_keep_33 : decode cX0_keep 33 = .ok (.return_, 1) := by decide +kernel
theorem dX0_signAt_0 : decode cX0_signAt 0 = .ok (.iload_n 1, 1) := by decide +kernel
theorem dX0_signAt_1 : decode cX0_signAt 1 = .ok (.ifCond .lt 21, 3) := by decide +kernel
theorem dX0_signAt_4 : decode cX0_signAt 4 = .ok (.iload_n 1, 1) := by decide +kernel
theorem dX0_signAt_5 : decode cX0_signAt 5 = .ok (.aload_n 0, 1) := by decide +kernel
theorem dX0_signAt_6 : decode cX0_signAt 6 = .ok (.getfield 11, 3) := by decide +kernel
theorem dX0_signAt_9 : decode cX0_signAt 9 = .ok (.arraylength, 1) := by decide +kernel
theorem dX0_signAt_10 : decode cX0_signAt 10 = .ok (.if_icmp .ge 12, 3) := by decide +kernel
theorem dX0_signAt_13 : decode cX0_signAt 13 = .ok (.aload_n 0, 1) := by decide +kernel
theorem dX0_signAt_14 : decode cX0_signAt 14 = .ok (.getfield 11, 3) := by decide +kernel
theorem dX0_signAt_17 : decode cX0_signAt 17 = .ok (.iload_n 1, 1) := by decide +kernel
theorem dX0_signAt_18 : decode cX0_signAt 18 = .ok (.aaload, 1) := by decide +kernel
theorem dX0_signAt_19 : decode cX0_signAt 19 = .ok (.ifnonnull 6, 3) := by decide +kernel
theorem dX0_signAt_22 : decode cX0_signAt 22 = .ok (.bipush 32, 2) := by decide +kernel
theorem dX0_signAt_24 : decode cX0_signAt 24 = .ok (.ireturn, 1) := by decide +kernel
theorem dX0_signAt_25 : decode cX0_signAt 25 = .ok (.aload_n 0, 1) := by decide +kernel
theorem dX0_signAt_26 : decode cX0_signAt 26 = .ok (.getfield 11, 3) := by decide +kernel
theorem dX0_signAt_29 : decode cX0_signAt 29 = .ok (.iload_n 1, 1) := by decide +kernel
theorem dX0_signAt_30 : decode cX0_signAt 30 = .ok (.aaload, 1) := by decide +kernel
theorem dX0_signAt_31 : decode cX0_signAt 31 = .ok (.iload_n 2, 1) := by decide +kernel
theorem dX0_signAt_32 : decode cX0_signAt 32 = .ok (.iload_n 3, 1) := by decide +kernel
theorem dX0_signAt_33 : decode cX0_signAt 33 = .ok (.invokevirtual 22, 3) := by decide +kernel
theorem dX0_signAt_36 : decode cX0_signAt 36 = .ok (.ireturn, 1) := by decide +kernel
theorem dX1_init_0 : decode cX1_init 0 = .ok (.aload_n 0, 1) := by decide +kernel
theorem dX1_init_1 : decode cX1_init 1 = .ok (.invokespecial 3, 3) := by decide +kernel
theorem dX1_init_4 : decode cX1_init 4 = .ok (.aload_n 0, 1) := by decide +kernel
theorem dX1_init_5 : decode cX1_init 5 = .ok (.sipush 960, 3) := by decide +kernel
theorem dX1_init_8 : decode cX1_init 8 = .ok (.newarray .char, 2) := by decide +kernel
theorem dX1_init_10 : decode cX1_init 10 = .ok (.putfield 9, 3) := by decide +kernel
theorem dX1_init_13 : decode cX1_init 13 = .ok (.return_, 1) := by decide +kernel
theorem dX1_clear_0 : decode cX1_clear 0 = .ok (.iconst 0, 1) := by decide +kernel
theorem dX1_clear_1 : decode cX1_clear 1 = .ok (.istore_n 1, 1) := by decide +kernel
theorem dX1_clear_2 : decode cX1_clear 2 = .ok (.iload_n 1, 1) := by decide +kernel
theorem dX1_clear_3 : decode cX1_clear 3 = .ok (.aload_n 0, 1) := by decide +kernel
theorem dX1_clear_4 : decode cX1_clear 4 = .ok (.getfield 9, 3) := by decide +kernel
theorem dX1_clear_7 : decode cX1_clear 7 = .ok (.arraylength, 1) := by decide +kernel
theorem dX1_clear_8 : decode cX1_clear 8 = .ok (.if_icmp .ge 17, 3) := by decide +kernel
theorem dX1_clear_11 : decode cX1_clear 11 = .ok (.aload_n 0, 1) := by decide +kernel
theorem dX1_clear_12 : decode cX1_clear 12 = .ok (.getfield 9, 3) := by decide +kernel
theorem dX1_clear_15 : decode cX1_clear 15 = .ok (.iload_n 1, 1) := by decide +kernel
theorem dX1_clear_16 : decode cX1_clear 16 = .ok (.bipush 46, 2) := by decide +kernel
theorem dX1_clear_18 : decode cX1_clear 18 = .ok (.castore, 1) := by decide +kernel
theorem dX1_clear_19 : decode cX1_clear 19 = .ok (.iinc 1 1, 3) := by decide +kernel
theorem dX1_clear_22 : decode cX1_clear 22 = .ok (.goto (-20), 3) := by decide +kernel
theorem dX1_clear_25 : decode cX1_clear 25 = .ok (.return_, 1) := by decide +kernel
theorem dX1_copyFrom_0 : decode cX1_copyFrom 0 = .ok (.iconst 0, 1) := by decide +kernel
theorem dX1_copyFrom_1 : decode cX1_copyFrom 1 = .ok (.istore_n 2, 1) := by decide +kernel
theorem dX1_copyFrom_2 : decode cX1_copyFrom 2 = .ok (.iload_n 2, 1) := by decide +kernel
theorem dX1_copyFrom_3 : decode cX1_copyFrom 3 = .ok (.aload_n 0, 1) := by decide +kernel
theorem dX1_copyFrom_4 : decode cX1_copyFrom 4 = .ok (.getfield 9, 3) := by decide +kernel
theorem dX1_copyFrom_7 : decode cX1_copyFrom 7 = .ok (.arraylength, 1) := by decide +kernel
theorem dX1_copyFrom_8 : decode cX1_copyFrom 8 = .ok (.if_icmp .ge 30, 3) := by decide +kernel
theorem dX1_copyFrom_11 : decode cX1_copyFrom 11 = .ok (.iload_n 2, 1) := by decide +kernel
theorem dX1_copyFrom_12 : decode cX1_copyFrom 12 = .ok (.aload_n 1, 1) := by decide +kernel
theorem dX1_copyFrom_13 : decode cX1_copyFrom 13 = .ok (.getfield 9, 3) := by decide +kernel
theorem dX1_copyFrom_16 : decode cX1_copyFrom 16 = .ok (.arraylength, 1) := by decide +kernel
theorem dX1_copyFrom_17 : decode cX1_copyFrom 17 = .ok (.if_icmp .ge 21, 3) := by decide +kernel
theorem dX1_copyFrom_20 : decode cX1_copyFrom 20 = .ok (.aload_n 0, 1) := by decide +kernel
theorem dX1_copyFrom_21 : decode cX1_copyFrom 21 = .ok (.getfield 9, 3) := by decide +kernel
theorem dX1_copyFrom_24 : decode cX1_copyFrom 24 = .ok (.iload_n 2, 1) := by decide +kernel
theorem dX1_copyFrom_25 : decode cX1_copyFrom 25 = .ok (.aload_n 1, 1) := by decide +kernel
theorem dX1_copyFrom_26 : decode cX1_copyFrom 26 = .ok (.getfield 9, 3) := by decide +kernel
theorem dX1_copyFrom_29 : decode cX1_copyFrom 29 = .ok (.iload_n 2, 1) := by decide +kernel
theorem dX1_copyFrom_30 : decode cX1_copyFrom 30 = .ok (.caload, 1) := by decide +kernel
theorem dX1_copyFrom_31 : decode cX1_copyFrom 31 = .ok (.castore, 1) := by decide +kernel
theorem dX1_copyFrom_32 : decode cX1_copyFrom 32 = .ok (.iinc 2 1, 3) := by decide +kernel
theorem dX1_copyFrom_35 : decode cX1_copyFrom 35 = .ok (.goto (-33), 3) := by decide +kernel
theorem dX1_copyFrom_38 : decode cX1_copyFrom 38 = .ok (.return_, 1) := by decide +kernel
theorem dX1_signAt_0 : decode cX1_signAt 0 = .ok (.iload_n 1, 1) := by decide +kernel
theorem dX1_signAt_1 : decode cX1_signAt 1 = .ok (.iload_n 2, 1) := by decide +kernel
theorem dX1_signAt_2 : decode cX1_signAt 2 = .ok (.invokestatic 15, 3) := by decide +kernel
theorem dX1_signAt_5 : decode cX1_signAt 5 = .ok (.ifCond .eq 17, 3) := by decide +kernel
theorem dX1_signAt_8 : decode cX1_signAt 8 = .ok (.aload_n 0, 1) := by decide +kernel
theorem dX1_signAt_9 : decode cX1_signAt 9 = .ok (.getfield 9, 3) := by decide +kernel
theorem dX1_signAt_12 : decode cX1_signAt 12 = .ok (.iload_n 1, 1) := by decide +kernel
theorem dX1_signAt_13 : decode cX1_signAt 13 = .ok (.bipush 40, 2) := by decide +kernel
theorem dX1_signAt_15 : decode cX1_signAt 15 = .ok (.imul, 1) := by decide +kernel
theorem dX1_signAt_16 : decode cX1_signAt 16 = .ok (.iload_n 2, 1) := by decide +kernel
theorem dX1_signAt_17 : decode cX1_signAt 17 = .ok (.iadd, 1) := by decide +kernel
theorem dX1_signAt_18 : decode cX1_signAt 18 = .ok (.caload, 1) := by decide +kernel
theorem dX1_signAt_19 : decode cX1_signAt 19 = .ok (.goto 5, 3) := by decide +kernel
theorem dX1_signAt_22 : decode cX1_signAt 22 = .ok (.bipush 32, 2) := by decide +kernel
theorem dX1_signAt_24 : decode cX1_signAt 24 = .ok (.ireturn, 1) := by decide +kernel
theorem dX1_setSign_0 : decode cX1_setSign 0 = .ok (.iload_n 1, 1) := by decide +kernel
theorem dX1_setSign_1 : decode cX1_setSign 1 = .ok (.iload_n 2, 1) := by decide +kernel
theorem dX1_setSign_2 : decode cX1_setSign 2 = .ok (.invokestatic 15, 3) := by decide +kernel
theorem dX1_setSign_5 : decode cX1_setSign 5 = .ok (.ifCond .eq 15, 3) := by decide +kernel
theorem dX1_setSign_8 : decode cX1_setSign 8 = .ok (.aload_n 0, 1) := by decide +kernel
theorem dX1_setSign_9 : decode cX1_setSign 9 = .ok (.getfield 9, 3) := by decide +kernel
theorem dX1_setSign_12 : decode cX1_setSign 12 = .ok (.iload_n 1, 1) := by decide +kernel
theorem dX1_setSign_13 : decode cX1_setSign 13 = .ok (.bipush 40, 2) := by decide +kernel
theorem dX1_setSign_15 : decode cX1_setSign 15 = .ok (.imul, 1) := by decide +kernel
theorem dX1_setSign_16 : decode cX1_setSign 16 = .ok (.iload_n 2, 1) := by decide +kernel
theorem dX1_setSign_17 : decode cX1_setSign 17 = .ok (.iadd, 1) := by decide +kernel
theorem dX1_setSign_18 : decode cX1_setSign 18 = .ok (.iload_n 3, 1) := by decide +kernel
theorem dX1_setSign_19 : decode cX1_setSign 19 = .ok (.castore, 1) := by decide +kernel
theorem dX1_setSign_20 : decode cX1_setSign 20 = .ok (.return_, 1) := by decide +kernel
theorem dX1_write_0 : decode cX1_write 0 = .ok (.iconst 0, 1) := by decide +kernel
theorem dX1_write_1 : decode cX1_write 1 = .ok (.istore 4, 2) := by decide +kernel
theorem dX1_write_3 : decode cX1_write 3 = .ok (.iload 4, 2) := by decide +kernel
theorem dX1_write_5 : decode cX1_write 5 = .ok (.aload_n 3, 1) := by decide +kernel
theorem dX1_write_6 : decode cX1_write 6 = .ok (.invokevirtual 19, 3) := by decide +kernel
theorem dX1_write_9 : decode cX1_write 9 = .ok (.if_icmp .ge 24, 3) := by decide +kernel
theorem dX1_write_12 : decode cX1_write 12 = .ok (.aload_n 0, 1) := by decide +kernel
theorem dX1_write_13 : decode cX1_write 13 = .ok (.iload_n 1, 1) := by decide +kernel
theorem dX1_write_14 : decode cX1_write 14 = .ok (.iload_n 2, 1) := by decide +kernel
theorem dX1_write_15 : decode cX1_write 15 = .ok (.iload 4, 2) := by decide +kernel
theorem dX1_write_17 : decode cX1_write 17 = .ok (.iadd, 1) := by decide +kernel
theorem dX1_write_18 : decode cX1_write 18 = .ok (.aload_n 3, 1) := by decide +kernel
theorem dX1_write_19 : decode cX1_write 19 = .ok (.iload 4, 2) := by decide +kernel
theorem dX1_write_21 : decode cX1_write 21 = .ok (.invokevirtual 25, 3) := by decide +kernel
theorem dX1_write_24 : decode cX1_write 24 = .ok (.invokevirtual 29, 3) := by decide +kernel
theorem dX1_write_27 : decode cX1_write 27 = .ok (.iinc 4 1, 3) := by decide +kernel
theorem dX1_write_30 : decode cX1_write 30 = .ok (.goto (-27), 3) := by decide +kernel
theorem dX1_write_33 : decode cX1_write 33 = .ok (.return_, 1) := by decide +kernel
theorem dX1_erase_0 : decode cX1_erase 0 = .ok (.iconst 0, 1) := by decide +kernel
theorem dX1_erase_1 : decode cX1_erase 1 = .ok (.istore 4, 2) := by decide +kernel
theorem dX1_erase_3 : decode cX1_erase 3 = .ok (.iload 4, 2) := by decide +kernel
theorem dX1_erase_5 : decode cX1_erase 5 = .ok (.iload_n 3, 1) := by decide +kernel
theorem dX1_erase_6 : decode cX1_erase 6 = .ok (.if_icmp .ge 20, 3) := by decide +kernel
theorem dX1_erase_9 : decode cX1_erase 9 = .ok (.aload_n 0, 1) := by decide +kernel
theorem dX1_erase_10 : decode cX1_erase 10 = .ok (.iload_n 1, 1) := by decide +kernel
theorem dX1_erase_11 : decode cX1_erase 11 = .ok (.iload_n 2, 1) := by decide +kernel
theorem dX1_erase_12 : decode cX1_erase 12 = .ok (.iload 4, 2) := by decide +kernel
theorem dX1_erase_14 : decode cX1_erase 14 = .ok (.iadd, 1) := by decide +kernel
theorem dX1_erase_15 : decode cX1_erase 15 = .ok (.bipush 46, 2) := by decide +kernel
theorem dX1_erase_17 : decode cX1_erase 17 = .ok (.invokevirtual 29, 3) := by decide +kernel
theorem dX1_erase_20 : decode cX1_erase 20 = .ok (.iinc 4 1, 3) := by decide +kernel
theorem dX1_erase_23 : decode cX1_erase 23 = .ok (.goto (-20), 3) := by decide +kernel
theorem dX1_erase_26 : decode cX1_erase 26 = .ok (.return_, 1) := by decide +kernel
theorem dX1_isFree_0 : decode cX1_isFree 0 = .ok (.iconst 0, 1) := by decide +kernel
theorem dX1_isFree_1 : decode cX1_isFree 1 = .ok (.istore 4, 2) := by decide +kernel
theorem dX1_isFree_3 : decode cX1_isFree 3 = .ok (.iload 4, 2) := by decide +kernel
theorem dX1_isFree_5 : decode cX1_isFree 5 = .ok (.iload_n 3, 1) := by decide +kernel
theorem dX1_isFree_6 : decode cX1_isFree 6 = .ok (.if_icmp .ge 25, 3) := by decide +kernel
theorem dX1_isFree_9 : decode cX1_isFree 9 = .ok (.aload_n 0, 1) := by decide +kernel
theorem dX1_isFree_10 : decode cX1_isFree 10 = .ok (.iload_n 1, 1) := by decide +kernel
theorem dX1_isFree_11 : decode cX1_isFree 11 = .ok (.iload_n 2, 1) := by decide +kernel
theorem dX1_isFree_12 : decode cX1_isFree 12 = .ok (.iload 4, 2) := by decide +kernel
theorem dX1_isFree_14 : decode cX1_isFree 14 = .ok (.iadd, 1) := by decide +kernel
theorem dX1_isFree_15 : decode cX1_isFree 15 = .ok (.invokevirtual 33, 3) := by decide +kernel
theorem dX1_isFree_18 : decode cX1_isFree 18 = .ok (.bipush 46, 2) := by decide +kernel
theorem dX1_isFree_20 : decode cX1_isFree 20 = .ok (.if_icmp .eq 5, 3) := by decide +kernel
theorem dX1_isFree_23 : decode cX1_isFree 23 = .ok (.iconst 0, 1) := by decide +kernel
theorem dX1_isFree_24 : decode cX1_isFree 24 = .ok (.ireturn, 1) := by decide +kernel
theorem dX1_isFree_25 : decode cX1_isFree 25 = .ok (.iinc 4 1, 3) := by decide +kernel
theorem dX1_isFree_28 : decode cX1_isFree 28 = .ok (.goto (-25), 3) := by decide +kernel
theorem dX1_isFree_31 : decode cX1_isFree 31 = .ok (.iconst 1, 1) := by decide +kernel
theorem dX1_isFree_32 : decode cX1_isFree 32 = .ok (.ireturn, 1) := by decide +kernel
theorem dX2_init_0 : decode cX2_init 0 = .ok (.aload_n 0, 1) := by decide +kernel
theorem dX2_init_1 : decode cX2_init 1 = .ok (.invokespecial 3, 3) := by decide +kernel
theorem dX2_init_4 : decode cX2_init 4 = .ok (.aload_n 0, 1) := by decide +kernel
theorem dX2_init_5 : decode cX2_init 5 = .ok (.iload_n 1, 1) := by decide +kernel
theorem dX2_init_6 : decode cX2_init 6 = .ok (.putfield 9, 3) := by decide +kernel
theorem dX2_init_9 : decode cX2_init 9 = .ok (.aload_n 0, 1) := by decide +kernel
theorem dX2_init_10 : decode cX2_init 10 = .ok (.iload_n 2, 1) := by decide +kernel
theorem dX2_init_11 : decode cX2_init 11 = .ok (.putfield 15, 3) := by decide +kernel
theorem dX2_init_14 : decode cX2_init 14 = .ok (.aload_n 0, 1) := by decide +kernel
theorem dX2_init_15 : decode cX2_init 15 = .ok (.iload_n 3, 1) := by decide +kernel
theorem dX2_init_16 : decode cX2_init 16 = .ok (.putfield 18, 3) := by decide +kernel
theorem dX2_init_19 : decode cX2_init 19 = .ok (.aload_n 0, 1) := by decide +kernel
theorem dX2_init_20 : decode cX2_init 20 = .ok (.bipush 6, 2) := by decide +kernel
theorem dX2_init_22 : decode cX2_init 22 = .ok (.anewarray 21, 3) := by decide +kernel
theorem dX2_init_25 : decode cX2_init 25 = .ok (.putfield 23, 3) := by decide +kernel
theorem dX2_init_28 : decode cX2_init 28 = .ok (.aload_n 0, 1) := by decide +kernel
theorem dX2_init_29 : decode cX2_init 29 = .ok (.iconst 0, 1) := by decide +kernel
theorem dX2_init_30 : decode cX2_init 30 = .ok (.putfield 27, 3) := by decide +kernel
theorem dX2_init_33 : decode cX2_init 33 = .ok (.return_, 1) := by decide +kernel
theorem dX2_isToldOut_0 : decode cX2_isToldOut 0 = .ok (.aload_n 0, 1) := by decide +kernel
theorem dX2_isToldOut_1 : decode cX2_isToldOut 1 = .ok (.getfield 27, 3) := by decide +kernel
theorem dX2_isToldOut_4 : decode cX2_isToldOut 4 = .ok (.aload_n 0, 1) := by decide +kernel
theorem dX2_isToldOut_5 : decode cX2_isToldOut 5 = .ok (.getfield 23, 3) := by decide +kernel
theorem dX2_isToldOut_8 : decode cX2_isToldOut 8 = .ok (.arraylength, 1) := by decide +kernel
theorem dX2_isToldOut_9 : decode cX2_isToldOut 9 = .ok (.if_icmp .lt 7, 3) := by decide +kernel
theorem dX2_isToldOut_12 : decode cX2_isToldOut 12 = .ok (.iconst 1, 1) := by decide +kernel
theorem dX2_isToldOut_13 : decode cX2_isToldOut 13 = .ok (.goto 4, 3) := by decide +kernel
theorem dX2_isToldOut_16 : decode cX2_isToldOut 16 = .ok (.iconst 0, 1) := by decide +kernel
theorem dX2_isToldOut_17 : decode cX2_isToldOut 17 = .ok (.ireturn, 1) := by decide +kernel
theorem dX2_tell_0 : decode cX2_tell 0 = .ok (.aload_n 0, 1) := by decide +kernel
theorem dX2_tell_1 : decode cX2_tell 1 = .ok (.getfield 27, 3) := by decide +kernel
theorem dX2_tell_4 : decode cX2_tell 4 = .ok (.aload_n 0, 1) := by decide +kernel
theorem dX2_tell_5 : decode cX2_tell 5 = .ok (.getfield 23, 3) := by decide +kernel
theorem dX2_tell_8 : decode cX2_tell 8 = .ok (.arraylength, 1) := by decide +kernel
theorem dX2_tell_9 : decode cX2_tell 9 = .ok (.if_icmp .ge 23, 3) := by decide +kernel
theorem dX2_tell_12 : decode cX2_tell 12 = .ok (.aload_n 0, 1) := by decide +kernel
theorem dX2_tell_13 : decode cX2_tell 13 = .ok (.getfield 23, 3) := by decide +kernel
theorem dX2_tell_16 : decode cX2_tell 16 = .ok (.aload_n 0, 1) := by decide +kernel
theorem dX2_tell_17 : decode cX2_tell 17 = .ok (.getfield 27, 3) := by decide +kernel
theorem dX2_tell_20 : decode cX2_tell 20 = .ok (.aload_n 1, 1) := by decide +kernel
theorem dX2_tell_21 : decode cX2_tell 21 = .ok (.aastore, 1) := by decide +kernel
theorem dX2_tell_22 : decode cX2_tell 22 = .ok (.aload_n 0, 1) := by decide +kernel
theorem dX2_tell_23 : decode cX2_tell 23 = .ok (.dup, 1) := by decide +kernel
theorem dX2_tell_24 : decode cX2_tell 24 = .ok (.getfield 27, 3) := by decide +kernel
theorem dX2_tell_27 : decode cX2_tell 27 = .ok (.iconst 1, 1) := by decide +kernel
theorem dX2_tell_28 : decode cX2_tell 28 = .ok (.iadd, 1) := by decide +kernel
theorem dX2_tell_29 : decode cX2_tell 29 = .ok (.putfield 27, 3) := by decide +kernel
theorem dX2_tell_32 : decode cX2_tell 32 = .ok (.return_, 1) := by decide +kernel
theorem dX2_wordOn_0 : decode cX2_wordOn 0 = .ok (.aconst_null, 1) := by decide +kernel
theorem dX2_wordOn_1 : decode cX2_wordOn 1 = .ok (.astore_n 2, 1) := by decide +kernel
theorem dX2_wordOn_2 : decode cX2_wordOn 2 = .ok (.iconst 0, 1) := by decide +kernel
theorem dX2_wordOn_3 : decode cX2_wordOn 3 = .ok (.istore_n 3, 1) := by decide +kernel
theorem dX2_wordOn_4 : decode cX2_wordOn 4 = .ok (.iload_n 3, 1) := by decide +kernel
theorem dX2_wordOn_5 : decode cX2_wordOn 5 = .ok (.aload_n 0, 1) := by decide +kernel
theorem dX2_wordOn_6 : decode cX2_wordOn 6 = .ok (.getfield 27, 3) := by decide +kernel
theorem dX2_wordOn_9 : decode cX2_wordOn 9 = .ok (.if_icmp .ge 46, 3) := by decide +kernel
theorem dX2_wordOn_12 : decode cX2_wordOn 12 = .ok (.iload_n 3, 1) := by decide +kernel
theorem dX2_wordOn_13 : decode cX2_wordOn 13 = .ok (.aload_n 0, 1) := by decide +kernel
theorem dX2_wordOn_14 : decode cX2_wordOn 14 = .ok (.getfield 23, 3) := by decide +kernel
theorem dX2_wordOn_17 : decode cX2_wordOn 17 = .ok (.arraylength, 1) := by decide +kernel
theorem dX2_wordOn_18 : decode cX2_wordOn 18 = .ok (.if_icmp .ge 37, 3) := by decide +kernel
theorem dX2_wordOn_21 : decode cX2_wordOn 21 = .ok (.aload_n 0, 1) := by decide +kernel
theorem dX2_wordOn_22 : decode cX2_wordOn 22 = .ok (.getfield 23, 3) := by decide +kernel
theorem dX2_wordOn_25 : decode cX2_wordOn 25 = .ok (.iload_n 3, 1) := by decide +kernel
theorem dX2_wordOn_26 : decode cX2_wordOn 26 = .ok (.aaload, 1) := by decide +kernel
theorem dX2_wordOn_27 : decode cX2_wordOn 27 = .ok (.astore 4, 2) := by decide +kernel
theorem dX2_wordOn_29 : decode cX2_wordOn 29 = .ok (.aload 4, 2) := by decide +kernel
theorem dX2_wordOn_31 : decode cX2_wordOn 31 = .ok (.ifnull 18, 3) := by decide +kernel
theorem dX2_wordOn_34 : decode cX2_wordOn 34 = .ok (.aload 4, 2) := by decide +kernel
theorem dX2_wordOn_36 : decode cX2_wordOn 36 = .ok (.getfield 30, 3) := by decide +kernel
theorem dX2_wordOn_39 : decode cX2_wordOn 39 = .ok (.iload_n 1, 1) := by decide +kernel
theorem dX2_wordOn_40 : decode cX2_wordOn 40 = .ok (.if_icmp .gt 9, 3) := by decide +kernel
theorem dX2_wordOn_43 : decode cX2_wordOn 43 = .ok (.aload 4, 2) := by decide +kernel
theorem dX2_wordOn_45 : decode cX2_wordOn 45 = .ok (.getfield 33, 3) := by decide +kernel
theorem dX2_wordOn_48 : decode cX2_wordOn 48 = .ok (.astore_n 2, 1) := by decide +kernel
theorem dX2_wordOn_49 : decode cX2_wordOn 49 = .ok (.iinc 3 1, 3) := by decide +kernel
theorem dX2_wordOn_52 : decode cX2_wordOn 52 = .ok (.goto (-48), 3) := by decide +kernel
theorem dX2_wordOn_55 : decode cX2_wordOn 55 = .ok (.aload_n 2, 1) := by decide +kernel
theorem dX2_wordOn_56 : decode cX2_wordOn 56 = .ok (.areturn, 1) := by decide +kernel
theorem dX3_init_0 : decode cX3_init 0 = .ok (.aload_n 0, 1) := by decide +kernel
theorem dX3_init_1 : decode cX3_init 1 = .ok (.invokespecial 3, 3) := by decide +kernel
theorem dX3_init_4 : decode cX3_init 4 = .ok (.aload_n 0, 1) := by decide +kernel
theorem dX3_init_5 : decode cX3_init 5 = .ok (.iload_n 1, 1) := by decide +kernel
theorem dX3_init_6 : decode cX3_init 6 = .ok (.putfield 9, 3) := by decide +kernel
theorem dX3_init_9 : decode cX3_init 9 = .ok (.aload_n 0, 1) := by decide +kernel
theorem dX3_init_10 : decode cX3_init 10 = .ok (.iload_n 2, 1) := by decide +kernel
theorem dX3_init_11 : decode cX3_init 11 = .ok (.putfield 15, 3) := by decide +kernel
theorem dX3_init_14 : decode cX3_init 14 = .ok (.aload_n 0, 1) := by decide +kernel
theorem dX3_init_15 : decode cX3_init 15 = .ok (.iload_n 3, 1) := by decide +kernel
theorem dX3_init_16 : decode cX3_init 16 = .ok (.putfield 18, 3) := by decide +kernel
theorem dX3_init_19 : decode cX3_init 19 = .ok (.aload_n 0, 1) := by decide +kernel
theorem dX3_init_20 : decode cX3_init 20 = .ok (.new 21, 3) := by decide +kernel
theorem dX3_init_23 : decode cX3_init 23 = .ok (.dup, 1) := by decide +kernel
theorem dX3_init_24 : decode cX3_init 24 = .ok (.invokespecial 23, 3) := by decide +kernel
theorem dX3_init_27 : decode cX3_init 27 = .ok (.putfield 24, 3) := by decide +kernel
theorem dX3_init_30 : decode cX3_init 30 = .ok (.aload_n 0, 1) := by decide +kernel
theorem dX3_init_31 : decode cX3_init 31 = .ok (.new 21, 3) := by decide +kernel
theorem dX3_init_34 : decode cX3_init 34 = .ok (.dup, 1) := by decide +kernel
theorem dX3_init_35 : decode cX3_init 35 = .ok (.invokespecial 23, 3) := by decide +kernel
theorem dX3_init_38 : decode cX3_init 38 = .ok (.putfield 28, 3) := by decide +kernel
theorem dX3_init_41 : decode cX3_init 41 = .ok (.aload_n 0, 1) := by decide +kernel
theorem dX3_init_42 : decode cX3_init 42 = .ok (.bipush 14, 2) := by decide +kernel
theorem dX3_init_44 : decode cX3_init 44 = .ok (.anewarray 31, 3) := by decide +kernel
theorem dX3_init_47 : decode cX3_init 47 = .ok (.putfield 33, 3) := by decide +kernel
theorem dX3_init_50 : decode cX3_init 50 = .ok (.aload_n 0, 1) := by decide +kernel
theorem dX3_init_51 : decode cX3_init 51 = .ok (.bipush 14, 2) := by decide +kernel
theorem dX3_init_53 : decode cX3_init 53 = .ok (.anewarray 31, 3) := by decide +kernel
theorem dX3_init_56 : decode cX3_init 56 = .ok (.putfield 37, 3) := by decide +kernel
theorem dX3_init_59 : decode cX3_init 59 = .ok (.aload_n 0, 1) := by decide +kernel
theorem dX3_init_60 : decode cX3_init 60 = .ok (.iconst 0, 1) := by decide +kernel
theorem dX3_init_61 : decode cX3_init 61 = .ok (.putfield 40, 3) := by decide +kernel
theorem dX3_init_64 : decode cX3_init 64 = .ok (.aload_n 0, 1) := by decide +kernel
theorem dX3_init_65 : decode cX3_init 65 = .ok (.iconst 0, 1) := by decide +kernel
theorem dX3_init_66 : decode cX3_init 66 = .ok (.putfield 43, 3) := by decide +kernel
theorem dX3_init_69 : decode cX3_init 69 = .ok (.return_, 1) := by decide +kernel
theorem dX3_show_0 : decode cX3_show 0 = .ok (.aload_n 1, 1) := by decide +kernel
theorem dX3_show_1 : decode cX3_show 1 = .ok (.ifnull 15, 3) := by decide +kernel
theorem dX3_show_4 : decode cX3_show 4 = .ok (.aload_n 0, 1) := by decide +kernel
theorem dX3_show_5 : decode cX3_show 5 = .ok (.getfield 40, 3) := by decide +kernel
theorem dX3_show_8 : decode cX3_show 8 = .ok (.aload_n 0, 1) := by decide +kernel
theorem dX3_show_9 : decode cX3_show 9 = .ok (.getfield 33, 3) := by decide +kernel
theorem dX3_show_12 : decode cX3_show 12 = .ok (.arraylength, 1) := by decide +kernel
theorem dX3_show_13 : decode cX3_show 13 = .ok (.if_icmp .lt 4, 3) := by decide +kernel
theorem dX3_show_16 : decode cX3_show 16 = .ok (.return_, 1) := by decide +kernel
theorem dX3_show_17 : decode cX3_show 17 = .ok (.aload_n 0, 1) := by decide +kernel
theorem dX3_show_18 : decode cX3_show 18 = .ok (.getfield 33, 3) := by decide +kernel
theorem dX3_show_21 : decode cX3_show 21 = .ok (.aload_n 0, 1) := by decide +kernel
theorem dX3_show_22 : decode cX3_show 22 = .ok (.getfield 40, 3) := by decide +kernel
theorem dX3_show_25 : decode cX3_show 25 = .ok (.aload_n 0, 1) := by decide +kernel
theorem dX3_show_26 : decode cX3_show 26 = .ok (.aload_n 1, 1) := by decide +kernel
theorem dX3_show_27 : decode cX3_show 27 = .ok (.invokevirtual 46, 3) := by decide +kernel
theorem dX3_show_30 : decode cX3_show 30 = .ok (.ifCond .eq 24, 3) := by decide +kernel
theorem dX3_show_33 : decode cX3_show 33 = .ok (.new 31, 3) := by decide +kernel
theorem dX3_show_36 : decode cX3_show 36 = .ok (.dup, 1) := by decide +kernel
theorem dX3_show_37 : decode cX3_show 37 = .ok (.aload_n 1, 1) := by decide +kernel
theorem dX3_show_38 : decode cX3_show 38 = .ok (.aload_n 0, 1) := by decide +kernel
theorem dX3_show_39 : decode cX3_show 39 = .ok (.aload_n 1, 1) := by decide +kernel
theorem dX3_show_40 : decode cX3_show 40 = .ok (.invokevirtual 50, 3) := by decide +kernel
theorem dX3_show_43 : decode cX3_show 43 = .ok (.aload_n 0, 1) := by decide +kernel
theorem dX3_show_44 : decode cX3_show 44 = .ok (.aload_n 1, 1) := by decide +kernel
theorem dX3_show_45 : decode cX3_show 45 = .ok (.invokevirtual 54, 3) := by decide +kernel
theorem dX3_show_48 : decode cX3_show 48 = .ok (.invokespecial 57, 3) := by decide +kernel
theorem dX3_show_51 : decode cX3_show 51 = .ok (.goto 13, 3) := by decide +kernel
theorem dX3_show_54 : decode cX3_show 54 = .ok (.new 31, 3) := by decide +kernel
theorem dX3_show_57 : decode cX3_show 57 = .ok (.dup, 1) := by decide +kernel
theorem dX3_show_58 : decode cX3_show 58 = .ok (.aload_n 1, 1) := by decide +kernel
theorem dX3_show_59 : decode cX3_show 59 = .ok (.iconst (-1), 1) := by decide +kernel
theorem dX3_show_60 : decode cX3_show 60 = .ok (.iconst (-1), 1) := by decide +kernel
theorem dX3_show_61 : decode cX3_show 61 = .ok (.invokespecial 57, 3) := by decide +kernel
theorem dX3_show_64 : decode cX3_show 64 = .ok (.aastore, 1) := by decide +kernel
theorem dX3_show_65 : decode cX3_show 65 = .ok (.aload_n 0, 1) := by decide +kernel
theorem dX3_show_66 : decode cX3_show 66 = .ok (.dup, 1) := by decide +kernel
theorem dX3_show_67 : decode cX3_show 67 = .ok (.getfield 40, 3) := by decide +kernel
theorem dX3_show_70 : decode cX3_show 70 = .ok (.iconst 1, 1) := by decide +kernel
theorem dX3_show_71 : decode cX3_show 71 = .ok (.iadd, 1) := by decide +kernel
theorem dX3_show_72 : decode cX3_show 72 = .ok (.putfield 40, 3) := by decide +kernel
theorem dX3_show_75 : decode cX3_show 75 = .ok (.return_, 1) := by decide +kernel
theorem dX3_has_0 : decode cX3_has 0 = .ok (.aload_n 1, 1) := by decide +kernel
theorem dX3_has_1 : decode cX3_has 1 = .ok (.getfield 60, 3) := by decide +kernel
theorem dX3_has_4 : decode cX3_has 4 = .ok (.aload_n 0, 1) := by decide +kernel
theorem dX3_has_5 : decode cX3_has 5 = .ok (.getfield 9, 3) := by decide +kernel
theorem dX3_has_8 : decode cX3_has 8 = .ok (.isub, 1) := by decide +kernel
theorem dX3_has_9 : decode cX3_has 9 = .ok (.iconst 0, 1) := by decide +kernel
theorem dX3_has_10 : decode cX3_has 10 = .ok (.bipush 29, 2) := by decide +kernel
theorem dX3_has_12 : decode cX3_has 12 = .ok (.invokestatic 63, 3) := by decide +kernel
theorem dX3_has_15 : decode cX3_has 15 = .ok (.ifCond .eq 25, 3) := by decide +kernel
theorem dX3_has_18 : decode cX3_has 18 = .ok (.aload_n 1, 1) := by decide +kernel
theorem dX3_has_19 : decode cX3_has 19 = .ok (.getfield 67, 3) := by decide +kernel
theorem dX3_has_22 : decode cX3_has 22 = .ok (.aload_n 0, 1) := by decide +kernel
theorem dX3_has_23 : decode cX3_has 23 = .ok (.getfield 15, 3) := by decide +kernel
theorem dX3_has_26 : decode cX3_has 26 = .ok (.isub, 1) := by decide +kernel
theorem dX3_has_27 : decode cX3_has 27 = .ok (.iconst 0, 1) := by decide +kernel
theorem dX3_has_28 : decode cX3_has 28 = .ok (.bipush 19, 2) := by decide +kernel
theorem dX3_has_30 : decode cX3_has 30 = .ok (.invokestatic 63, 3) := by decide +kernel
theorem dX3_has_33 : decode cX3_has 33 = .ok (.ifCond .eq 7, 3) := by decide +kernel
theorem dX3_has_36 : decode cX3_has 36 = .ok (.iconst 1, 1) := by decide +kernel
theorem dX3_has_37 : decode cX3_has 37 = .ok (.goto 4, 3) := by decide +kernel
theorem dX3_has_40 : decode cX3_has 40 = .ok (.iconst 0, 1) := by decide +kernel
theorem dX3_has_41 : decode cX3_has 41 = .ok (.ireturn, 1) := by decide +kernel
theorem dX3_rowOf_0 : decode cX3_rowOf 0 = .ok (.bipush 24, 2) := by decide +kernel
theorem dX3_rowOf_2 : decode cX3_rowOf 2 = .ok (.aload_n 1, 1) := by decide +kernel
theorem dX3_rowOf_3 : decode cX3_rowOf 3 = .ok (.getfield 67, 3) := by decide +kernel
theorem dX3_rowOf_6 : decode cX3_rowOf 6 = .ok (.aload_n 0, 1) := by decide +kernel
theorem dX3_rowOf_7 : decode cX3_rowOf 7 = .ok (.getfield 15, 3) := by decide +kernel
theorem dX3_rowOf_10 : decode cX3_rowOf 10 = .ok (.isub, 1) := by decide +kernel
theorem dX3_rowOf_11 : decode cX3_rowOf 11 = .ok (.imul, 1) := by decide +kernel
theorem dX3_rowOf_12 : decode cX3_rowOf 12 = .ok (.bipush 20, 2) := by decide +kernel
theorem dX3_rowOf_14 : decode cX3_rowOf 14 = .ok (.idiv, 1) := by decide +kernel
theorem dX3_rowOf_15 : decode cX3_rowOf 15 = .ok (.ireturn, 1) := by decide +kernel
theorem dX3_columnOf_0 : decode cX3_columnOf 0 = .ok (.aload_n 1, 1) := by decide +kernel
theorem dX3_columnOf_1 : decode cX3_columnOf 1 = .ok (.getfield 60, 3) := by decide +kernel
theorem dX3_columnOf_4 : decode cX3_columnOf 4 = .ok (.aload_n 0, 1) := by decide +kernel
theorem dX3_columnOf_5 : decode cX3_columnOf 5 = .ok (.getfield 9, 3) := by decide +kernel
theorem dX3_columnOf_8 : decode cX3_columnOf 8 = .ok (.isub, 1) := by decide +kernel
theorem dX3_columnOf_9 : decode cX3_columnOf 9 = .ok (.istore_n 2, 1) := by decide +kernel
theorem dX3_columnOf_10 : decode cX3_columnOf 10 = .ok (.aload_n 0, 1) := by decide +kernel
theorem dX3_columnOf_11 : decode cX3_columnOf 11 = .ok (.getfield 18, 3) := by decide +kernel
theorem dX3_columnOf_14 : decode cX3_columnOf 14 = .ok (.ifCond .ne 11, 3) := by decide +kernel
theorem dX3_columnOf_17 : decode cX3_columnOf 17 = .ok (.bipush 40, 2) := by decide +kernel
theorem dX3_columnOf_19 : decode cX3_columnOf 19 = .ok (.iload_n 2, 1) := by decide +kernel
theorem dX3_columnOf_20 : decode cX3_columnOf 20 = .ok (.imul, 1) := by decide +kernel
theorem dX3_columnOf_21 : decode cX3_columnOf 21 = .ok (.bipush 30, 2) := by decide +kernel
theorem dX3_columnOf_23 : decode cX3_columnOf 23 = .ok (.idiv, 1) := by decide +kernel
theorem dX3_columnOf_24 : decode cX3_columnOf 24 = .ok (.ireturn, 1) := by decide +kernel
theorem dX3_columnOf_25 : decode cX3_columnOf 25 = .ok (.fconst 1, 1) := by decide +kernel
theorem dX3_columnOf_26 : decode cX3_columnOf 26 = .ok (.ldc 68, 2) := by decide +kernel
theorem dX3_columnOf_28 : decode cX3_columnOf 28 = .ok (.aload_n 1, 1) := by decide +kernel
theorem dX3_columnOf_29 : decode cX3_columnOf 29 = .ok (.getfield 67, 3) := by decide +kernel
theorem dX3_columnOf_32 : decode cX3_columnOf 32 = .ok (.aload_n 0, 1) := by decide +kernel
theorem dX3_columnOf_33 : decode cX3_columnOf 33 = .ok (.getfield 15, 3) := by decide +kernel
theorem dX3_columnOf_36 : decode cX3_columnOf 36 = .ok (.isub, 1) := by decide +kernel
theorem dX3_columnOf_37 : decode cX3_columnOf 37 = .ok (.i2f, 1) := by decide +kernel
theorem dX3_columnOf_38 : decode cX3_columnOf 38 = .ok (.fmul, 1) := by decide +kernel
theorem dX3_columnOf_39 : decode cX3_columnOf 39 = .ok (.fsub, 1) := by decide +kernel
theorem dX3_columnOf_40 : decode cX3_columnOf 40 = .ok (.fstore_n 3, 1) := by decide +kernel
theorem dX3_columnOf_41 : decode cX3_columnOf 41 = .ok (.iload_n 2, 1) := by decide +kernel
theorem dX3_columnOf_42 : decode cX3_columnOf 42 = .ok (.i2f, 1) := by decide +kernel
theorem dX3_columnOf_43 : decode cX3_columnOf 43 = .ok (.ldc 69, 2) := by decide +kernel
theorem dX3_columnOf_45 : decode cX3_columnOf 45 = .ok (.fsub, 1) := by decide +kernel
theorem dX3_columnOf_46 : decode cX3_columnOf 46 = .ok (.ldc 70, 2) := by decide +kernel
theorem dX3_columnOf_48 : decode cX3_columnOf 48 = .ok (.fmul, 1) := by decide +kernel
theorem dX3_columnOf_49 : decode cX3_columnOf 49 = .ok (.ldc 71, 2) := by decide +kernel
theorem dX3_columnOf_51 : decode cX3_columnOf 51 = .ok (.fdiv, 1) := by decide +kernel
theorem dX3_columnOf_52 : decode cX3_columnOf 52 = .ok (.fload_n 3, 1) := by decide +kernel
theorem dX3_columnOf_53 : decode cX3_columnOf 53 = .ok (.fmul, 1) := by decide +kernel
theorem dX3_columnOf_54 : decode cX3_columnOf 54 = .ok (.fstore 4, 2) := by decide +kernel
theorem dX3_columnOf_56 : decode cX3_columnOf 56 = .ok (.ldc 72, 2) := by decide +kernel
theorem dX3_columnOf_58 : decode cX3_columnOf 58 = .ok (.fload 4, 2) := by decide +kernel
theorem dX3_columnOf_60 : decode cX3_columnOf 60 = .ok (.fadd, 1) := by decide +kernel
theorem dX3_columnOf_61 : decode cX3_columnOf 61 = .ok (.f2i, 1) := by decide +kernel
theorem dX3_columnOf_62 : decode cX3_columnOf 62 = .ok (.ireturn, 1) := by decide +kernel
theorem dX3_spotOf_0 : decode cX3_spotOf 0 = .ok (.iload_n 1, 1) := by decide +kernel
theorem dX3_spotOf_1 : decode cX3_spotOf 1 = .ok (.ifCond .lt 20, 3) := by decide +kernel
theorem dX3_spotOf_4 : decode cX3_spotOf 4 = .ok (.iload_n 1, 1) := by decide +kernel
theorem dX3_spotOf_5 : decode cX3_spotOf 5 = .ok (.aload_n 0, 1) := by decide +kernel
theorem dX3_spotOf_6 : decode cX3_spotOf 6 = .ok (.getfield 40, 3) := by decide +kernel
theorem dX3_spotOf_9 : decode cX3_spotOf 9 = .ok (.if_icmp .ge 12, 3) := by decide +kernel
theorem dX3_spotOf_12 : decode cX3_spotOf 12 = .ok (.iload_n 1, 1) := by decide +kernel
theorem dX3_spotOf_13 : decode cX3_spotOf 13 = .ok (.aload_n 0, 1) := by decide +kernel
theorem dX3_spotOf_14 : decode cX3_spotOf 14 = .ok (.getfield 33, 3) := by decide +kernel
theorem dX3_spotOf_17 : decode cX3_spotOf 17 = .ok (.arraylength, 1) := by decide +kernel
theorem dX3_spotOf_18 : decode cX3_spotOf 18 = .ok (.if_icmp .lt 7, 3) := by decide +kernel
theorem dX3_spotOf_21 : decode cX3_spotOf 21 = .ok (.aconst_null, 1) := by decide +kernel
theorem dX3_spotOf_22 : decode cX3_spotOf 22 = .ok (.goto 9, 3) := by decide +kernel
theorem dX3_spotOf_25 : decode cX3_spotOf 25 = .ok (.aload_n 0, 1) := by decide +kernel
theorem dX3_spotOf_26 : decode cX3_spotOf 26 = .ok (.getfield 33, 3) := by decide +kernel
theorem dX3_spotOf_29 : decode cX3_spotOf 29 = .ok (.iload_n 1, 1) := by decide +kernel
theorem dX3_spotOf_30 : decode cX3_spotOf 30 = .ok (.aaload, 1) := by decide +kernel
theorem dX3_spotOf_31 : decode cX3_spotOf 31 = .ok (.areturn, 1) := by decide +kernel
theorem dX3_placeAnew_0 : decode cX3_placeAnew 0 = .ok (.iconst 0, 1) := by decide +kernel
theorem dX3_placeAnew_1 : decode cX3_placeAnew 1 = .ok (.istore_n 2, 1) := by decide +kernel
theorem dX3_placeAnew_2 : decode cX3_placeAnew 2 = .ok (.iload_n 2, 1) := by decide +kernel
theorem dX3_placeAnew_3 : decode cX3_placeAnew 3 = .ok (.aload_n 0, 1) := by decide +kernel
theorem dX3_placeAnew_4 : decode cX3_placeAnew 4 = .ok (.getfield 40, 3) := by decide +kernel
theorem dX3_placeAnew_7 : decode cX3_placeAnew 7 = .ok (.if_icmp .ge 34, 3) := by decide +kernel
theorem dX3_placeAnew_10 : decode cX3_placeAnew 10 = .ok (.iload_n 2, 1) := by decide +kernel
theorem dX3_placeAnew_11 : decode cX3_placeAnew 11 = .ok (.aload_n 0, 1) := by decide +kernel
theorem dX3_placeAnew_12 : decode cX3_placeAnew 12 = .ok (.getfield 33, 3) := by decide +kernel
theorem dX3_placeAnew_15 : decode cX3_placeAnew 15 = .ok (.arraylength, 1) := by decide +kernel
theorem dX3_placeAnew_16 : decode cX3_placeAnew 16 = .ok (.if_icmp .ge 25, 3) := by decide +kernel
theorem dX3_placeAnew_19 : decode cX3_placeAnew 19 = .ok (.aload_n 0, 1) := by decide +kernel
theorem dX3_placeAnew_20 : decode cX3_placeAnew 20 = .ok (.getfield 33, 3) := by decide +kernel
theorem dX3_placeAnew_23 : decode cX3_placeAnew 23 = .ok (.iload_n 2, 1) := by decide +kernel
theorem dX3_placeAnew_24 : decode cX3_placeAnew 24 = .ok (.aaload, 1) := by decide +kernel
theorem dX3_placeAnew_25 : decode cX3_placeAnew 25 = .ok (.astore_n 3, 1) := by decide +kernel
theorem dX3_placeAnew_26 : decode cX3_placeAnew 26 = .ok (.aload_n 3, 1) := by decide +kernel
theorem dX3_placeAnew_27 : decode cX3_placeAnew 27 = .ok (.ifnull 8, 3) := by decide +kernel
theorem dX3_placeAnew_30 : decode cX3_placeAnew 30 = .ok (.aload_n 3, 1) := by decide +kernel
theorem dX3_placeAnew_31 : decode cX3_placeAnew 31 = .ok (.iload_n 1, 1) := by decide +kernel
theorem dX3_placeAnew_32 : decode cX3_placeAnew 32 = .ok (.invokevirtual 73, 3) := by decide +kernel
theorem dX3_placeAnew_35 : decode cX3_placeAnew 35 = .ok (.iinc 2 1, 3) := by decide +kernel
theorem dX3_placeAnew_38 : decode cX3_placeAnew 38 = .ok (.goto (-36), 3) := by decide +kernel
theorem dX3_placeAnew_41 : decode cX3_placeAnew 41 = .ok (.aload_n 0, 1) := by decide +kernel
theorem dX3_placeAnew_42 : decode cX3_placeAnew 42 = .ok (.invokevirtual 77, 3) := by decide +kernel
theorem dX3_placeAnew_45 : decode cX3_placeAnew 45 = .ok (.aload_n 0, 1) := by decide +kernel
theorem dX3_placeAnew_46 : decode cX3_placeAnew 46 = .ok (.aload_n 0, 1) := by decide +kernel
theorem dX3_placeAnew_47 : decode cX3_placeAnew 47 = .ok (.getfield 24, 3) := by decide +kernel
theorem dX3_placeAnew_50 : decode cX3_placeAnew 50 = .ok (.invokevirtual 80, 3) := by decide +kernel
theorem dX3_placeAnew_53 : decode cX3_placeAnew 53 = .ok (.iconst 0, 1) := by decide +kernel
theorem dX3_placeAnew_54 : decode cX3_placeAnew 54 = .ok (.istore_n 2, 1) := by decide +kernel
theorem dX3_placeAnew_55 : decode cX3_placeAnew 55 = .ok (.iload_n 2, 1) := by decide +kernel
theorem dX3_placeAnew_56 : decode cX3_placeAnew 56 = .ok (.aload_n 0, 1) := by decide +kernel
theorem dX3_placeAnew_57 : decode cX3_placeAnew 57 = .ok (.getfield 43, 3) := by decide +kernel
theorem dX3_placeAnew_60 : decode cX3_placeAnew 60 = .ok (.if_icmp .ge 37, 3) := by decide +kernel
theorem dX3_placeAnew_63 : decode cX3_placeAnew 63 = .ok (.iload_n 2, 1) := by decide +kernel
theorem dX3_placeAnew_64 : decode cX3_placeAnew 64 = .ok (.aload_n 0, 1) := by decide +kernel
theorem dX3_placeAnew_65 : decode cX3_placeAnew 65 = .ok (.getfield 37, 3) := by decide +kernel
theorem dX3_placeAnew_68 : decode cX3_placeAnew 68 = .ok (.arraylength, 1) := by decide +kernel
theorem dX3_placeAnew_69 : decode cX3_placeAnew 69 = .ok (.if_icmp .ge 28, 3) := by decide +kernel
theorem dX3_placeAnew_72 : decode cX3_placeAnew 72 = .ok (.aload_n 0, 1) := by decide +kernel
theorem dX3_placeAnew_73 : decode cX3_placeAnew 73 = .ok (.getfield 37, 3) := by decide +kernel
theorem dX3_placeAnew_76 : decode cX3_placeAnew 76 = .ok (.iload_n 2, 1) := by decide +kernel
theorem dX3_placeAnew_77 : decode cX3_placeAnew 77 = .ok (.aaload, 1) := by decide +kernel
theorem dX3_placeAnew_78 : decode cX3_placeAnew 78 = .ok (.astore_n 3, 1) := by decide +kernel
theorem dX3_placeAnew_79 : decode cX3_placeAnew 79 = .ok (.aload_n 3, 1) := by decide +kernel
theorem dX3_placeAnew_80 : decode cX3_placeAnew 80 = .ok (.ifnull 11, 3) := by decide +kernel
theorem dX3_placeAnew_83 : decode cX3_placeAnew 83 = .ok (.aload_n 3, 1) := by decide +kernel
theorem dX3_placeAnew_84 : decode cX3_placeAnew 84 = .ok (.aload_n 0, 1) := by decide +kernel
theorem dX3_placeAnew_85 : decode cX3_placeAnew 85 = .ok (.getfield 24, 3) := by decide +kernel
theorem dX3_placeAnew_88 : decode cX3_placeAnew 88 = .ok (.invokevirtual 84, 3) := by decide +kernel
theorem dX3_placeAnew_91 : decode cX3_placeAnew 91 = .ok (.iinc 2 1, 3) := by decide +kernel
theorem dX3_placeAnew_94 : decode cX3_placeAnew 94 = .ok (.goto (-39), 3) := by decide +kernel
theorem dX3_placeAnew_97 : decode cX3_placeAnew 97 = .ok (.return_, 1) := by decide +kernel
theorem dX3_listNamed_0 : decode cX3_listNamed 0 = .ok (.aload_n 0, 1) := by decide +kernel
theorem dX3_listNamed_1 : decode cX3_listNamed 1 = .ok (.iconst 0, 1) := by decide +kernel
theorem dX3_listNamed_2 : decode cX3_listNamed 2 = .ok (.putfield 43, 3) := by decide +kernel
theorem dX3_listNamed_5 : decode cX3_listNamed 5 = .ok (.iconst 5, 1) := by decide +kernel
theorem dX3_listNamed_6 : decode cX3_listNamed 6 = .ok (.istore_n 1, 1) := by decide +kernel
theorem dX3_listNamed_7 : decode cX3_listNamed 7 = .ok (.iload_n 1, 1) := by decide +kernel
theorem dX3_listNamed_8 : decode cX3_listNamed 8 = .ok (.iconst 1, 1) := by decide +kernel
theorem dX3_listNamed_9 : decode cX3_listNamed 9 = .ok (.if_icmp .lt 92, 3) := by decide +kernel
theorem dX3_listNamed_12 : decode cX3_listNamed 12 = .ok (.iconst 0, 1) := by decide +kernel
theorem dX3_listNamed_13 : decode cX3_listNamed 13 = .ok (.istore_n 2, 1) := by decide +kernel
theorem dX3_listNamed_14 : decode cX3_listNamed 14 = .ok (.iload_n 2, 1) := by decide +kernel
theorem dX3_listNamed_15 : decode cX3_listNamed 15 = .ok (.aload_n 0, 1) := by decide +kernel
theorem dX3_listNamed_16 : decode cX3_listNamed 16 = .ok (.getfield 40, 3) := by decide +kernel
theorem dX3_listNamed_19 : decode cX3_listNamed 19 = .ok (.if_icmp .ge 76, 3) := by decide +kernel
theorem dX3_listNamed_22 : decode cX3_listNamed 22 = .ok (.iload_n 2, 1) := by decide +kernel
theorem dX3_listNamed_23 : decode cX3_listNamed 23 = .ok (.aload_n 0, 1) := by decide +kernel
theorem dX3_listNamed_24 : decode cX3_listNamed 24 = .ok (.getfield 33, 3) := by decide +kernel
theorem dX3_listNamed_27 : decode cX3_listNamed 27 = .ok (.arraylength, 1) := by decide +kernel
theorem dX3_listNamed_28 : decode cX3_listNamed 28 = .ok (.if_icmp .ge 67, 3) := by decide +kernel
theorem dX3_listNamed_31 : decode cX3_listNamed 31 = .ok (.aload_n 0, 1) := by decide +kernel
theorem dX3_listNamed_32 : decode cX3_listNamed 32 = .ok (.getfield 33, 3) := by decide +kernel
theorem dX3_listNamed_35 : decode cX3_listNamed 35 = .ok (.iload_n 2, 1) := by decide +kernel
theorem dX3_listNamed_36 : decode cX3_listNamed 36 = .ok (.aaload, 1) := by decide +kernel
theorem dX3_listNamed_37 : decode cX3_listNamed 37 = .ok (.astore_n 3, 1) := by decide +kernel
theorem dX3_listNamed_38 : decode cX3_listNamed 38 = .ok (.aload_n 3, 1) := by decide +kernel
theorem dX3_listNamed_39 : decode cX3_listNamed 39 = .ok (.ifnull 50, 3) := by decide +kernel
theorem dX3_listNamed_42 : decode cX3_listNamed 42 = .ok (.aload_n 3, 1) := by decide +kernel
theorem dX3_listNamed_43 : decode cX3_listNamed 43 = .ok (.getfield 87, 3) := by decide +kernel
theorem dX3_listNamed_46 : decode cX3_listNamed 46 = .ok (.iload_n 1, 1) := by decide +kernel
theorem dX3_listNamed_47 : decode cX3_listNamed 47 = .ok (.if_icmp .ne 42, 3) := by decide +kernel
theorem dX3_listNamed_50 : decode cX3_listNamed 50 = .ok (.aload_n 3, 1) := by decide +kernel
theorem dX3_listNamed_51 : decode cX3_listNamed 51 = .ok (.invokevirtual 90, 3) := by decide +kernel
theorem dX3_listNamed_54 : decode cX3_listNamed 54 = .ok (.ifCond .eq 35, 3) := by decide +kernel
theorem dX3_listNamed_57 : decode cX3_listNamed 57 = .ok (.aload_n 0, 1) := by decide +kernel
theorem dX3_listNamed_58 : decode cX3_listNamed 58 = .ok (.getfield 43, 3) := by decide +kernel
theorem dX3_listNamed_61 : decode cX3_listNamed 61 = .ok (.aload_n 0, 1) := by decide +kernel
theorem dX3_listNamed_62 : decode cX3_listNamed 62 = .ok (.getfield 37, 3) := by decide +kernel
theorem dX3_listNamed_65 : decode cX3_listNamed 65 = .ok (.arraylength, 1) := by decide +kernel
theorem dX3_listNamed_66 : decode cX3_listNamed 66 = .ok (.if_icmp .ge 23, 3) := by decide +kernel
theorem dX3_listNamed_69 : decode cX3_listNamed 69 = .ok (.aload_n 0, 1) := by decide +kernel
theorem dX3_listNamed_70 : decode cX3_listNamed 70 = .ok (.getfield 37, 3) := by decide +kernel
theorem dX3_listNamed_73 : decode cX3_listNamed 73 = .ok (.aload_n 0, 1) := by decide +kernel
theorem dX3_listNamed_74 : decode cX3_listNamed 74 = .ok (.getfield 43, 3) := by decide +kernel
theorem dX3_listNamed_77 : decode cX3_listNamed 77 = .ok (.aload_n 3, 1) := by decide +kernel
theorem dX3_listNamed_78 : decode cX3_listNamed 78 = .ok (.aastore, 1) := by decide +kernel
theorem dX3_listNamed_79 : decode cX3_listNamed 79 = .ok (.aload_n 0, 1) := by decide +kernel
theorem dX3_listNamed_80 : decode cX3_listNamed 80 = .ok (.dup, 1) := by decide +kernel
theorem dX3_listNamed_81 : decode cX3_listNamed 81 = .ok (.getfield 43, 3) := by decide +kernel
theorem dX3_listNamed_84 : decode cX3_listNamed 84 = .ok (.iconst 1, 1) := by decide +kernel
theorem dX3_listNamed_85 : decode cX3_listNamed 85 = .ok (.iadd, 1) := by decide +kernel
theorem dX3_listNamed_86 : decode cX3_listNamed 86 = .ok (.putfield 43, 3) := by decide +kernel
theorem dX3_listNamed_89 : decode cX3_listNamed 89 = .ok (.iinc 2 1, 3) := by decide +kernel
theorem dX3_listNamed_92 : decode cX3_listNamed 92 = .ok (.goto (-78), 3) := by decide +kernel
theorem dX3_listNamed_95 : decode cX3_listNamed 95 = .ok (.iinc 1 (-1), 3) := by decide +kernel
theorem dX3_listNamed_98 : decode cX3_listNamed 98 = .ok (.goto (-91), 3) := by decide +kernel
theorem dX3_listNamed_101 : decode cX3_listNamed 101 = .ok (.return_, 1) := by decide +kernel
theorem dX3_drawDots_0 : decode cX3_drawDots 0 = .ok (.aload_n 1, 1) := by decide +kernel
theorem dX3_drawDots_1 : decode cX3_drawDots 1 = .ok (.invokevirtual 94, 3) := by decide +kernel
theorem dX3_drawDots_4 : decode cX3_drawDots 4 = .ok (.iconst 0, 1) := by decide +kernel
theorem dX3_drawDots_5 : decode cX3_drawDots 5 = .ok (.istore_n 2, 1) := by decide +kernel
theorem dX3_drawDots_6 : decode cX3_drawDots 6 = .ok (.iload_n 2, 1) := by decide +kernel
theorem dX3_drawDots_7 : decode cX3_drawDots 7 = .ok (.aload_n 0, 1) := by decide +kernel
theorem dX3_drawDots_8 : decode cX3_drawDots 8 = .ok (.getfield 40, 3) := by decide +kernel
theorem dX3_drawDots_11 : decode cX3_drawDots 11 = .ok (.if_icmp .ge 50, 3) := by decide +kernel
theorem dX3_drawDots_14 : decode cX3_drawDots 14 = .ok (.iload_n 2, 1) := by decide +kernel
theorem dX3_drawDots_15 : decode cX3_drawDots 15 = .ok (.aload_n 0, 1) := by decide +kernel
theorem dX3_drawDots_16 : decode cX3_drawDots 16 = .ok (.getfield 33, 3) := by decide +kernel
theorem dX3_drawDots_19 : decode cX3_drawDots 19 = .ok (.arraylength, 1) := by decide +kernel
theorem dX3_drawDots_20 : decode cX3_drawDots 20 = .ok (.if_icmp .ge 41, 3) := by decide +kernel
theorem dX3_drawDots_23 : decode cX3_drawDots 23 = .ok (.aload_n 0, 1) := by decide +kernel
theorem dX3_drawDots_24 : decode cX3_drawDots 24 = .ok (.getfield 33, 3) := by decide +kernel
theorem dX3_drawDots_27 : decode cX3_drawDots 27 = .ok (.iload_n 2, 1) := by decide +kernel
theorem dX3_drawDots_28 : decode cX3_drawDots 28 = .ok (.aaload, 1) := by decide +kernel
theorem dX3_drawDots_29 : decode cX3_drawDots 29 = .ok (.astore_n 3, 1) := by decide +kernel
theorem dX3_drawDots_30 : decode cX3_drawDots 30 = .ok (.aload_n 3, 1) := by decide +kernel
theorem dX3_drawDots_31 : decode cX3_drawDots 31 = .ok (.ifnull 24, 3) := by decide +kernel
theorem dX3_drawDots_34 : decode cX3_drawDots 34 = .ok (.aload_n 3, 1) := by decide +kernel
theorem dX3_drawDots_35 : decode cX3_drawDots 35 = .ok (.invokevirtual 97, 3) := by decide +kernel
theorem dX3_drawDots_38 : decode cX3_drawDots 38 = .ok (.ifCond .eq 17, 3) := by decide +kernel
theorem dX3_drawDots_41 : decode cX3_drawDots 41 = .ok (.aload_n 1, 1) := by decide +kernel
theorem dX3_drawDots_42 : decode cX3_drawDots 42 = .ok (.aload_n 3, 1) := by decide +kernel
theorem dX3_drawDots_43 : decode cX3_drawDots 43 = .ok (.getfield 100, 3) := by decide +kernel
theorem dX3_drawDots_46 : decode cX3_drawDots 46 = .ok (.aload_n 3, 1) := by decide +kernel
theorem dX3_drawDots_47 : decode cX3_drawDots 47 = .ok (.getfield 103, 3) := by decide +kernel
theorem dX3_drawDots_50 : decode cX3_drawDots 50 = .ok (.bipush 42, 2) := by decide +kernel
theorem dX3_drawDots_52 : decode cX3_drawDots 52 = .ok (.invokevirtual 106, 3) := by decide +kernel
theorem dX3_drawDots_55 : decode cX3_drawDots 55 = .ok (.iinc 2 1, 3) := by decide +kernel
theorem dX3_drawDots_58 : decode cX3_drawDots 58 = .ok (.goto (-52), 3) := by decide +kernel
theorem dX3_drawDots_61 : decode cX3_drawDots 61 = .ok (.return_, 1) := by decide +kernel
theorem dX3_pushedBeside_0 : decode cX3_pushedBeside 0 = .ok (.iconst 0, 1) := by decide +kernel
theorem dX3_pushedBeside_1 : decode cX3_pushedBeside 1 = .ok (.istore_n 2, 1) := by decide +kernel
theorem dX3_pushedBeside_2 : decode cX3_pushedBeside 2 = .ok (.iconst 0, 1) := by decide +kernel
theorem dX3_pushedBeside_3 : decode cX3_pushedBeside 3 = .ok (.istore_n 3, 1) := by decide +kernel
theorem dX3_pushedBeside_4 : decode cX3_pushedBeside 4 = .ok (.iload_n 3, 1) := by decide +kernel
theorem dX3_pushedBeside_5 : decode cX3_pushedBeside 5 = .ok (.aload_n 0, 1) := by decide +kernel
theorem dX3_pushedBeside_6 : decode cX3_pushedBeside 6 = .ok (.getfield 40, 3) := by decide +kernel
theorem dX3_pushedBeside_9 : decode cX3_pushedBeside 9 = .ok (.if_icmp .ge 47, 3) := by decide +kernel
theorem dX3_pushedBeside_12 : decode cX3_pushedBeside 12 = .ok (.iload_n 3, 1) := by decide +kernel
theorem dX3_pushedBeside_13 : decode cX3_pushedBeside 13 = .ok (.aload_n 0, 1) := by decide +kernel
theorem dX3_pushedBeside_14 : decode cX3_pushedBeside 14 = .ok (.getfield 33, 3) := by decide +kernel
theorem dX3_pushedBeside_17 : decode cX3_pushedBeside 17 = .ok (.arraylength, 1) := by decide +kernel
theorem dX3_pushedBeside_18 : decode cX3_pushedBeside 18 = .ok (.if_icmp .ge 38, 3) := by decide +kernel
theorem dX3_pushedBeside_21 : decode cX3_pushedBeside 21 = .ok (.aload_n 0, 1) := by decide +kernel
theorem dX3_pushedBeside_22 : decode cX3_pushedBeside 22 = .ok (.getfield 33, 3) := by decide +kernel
theorem dX3_pushedBeside_25 : decode cX3_pushedBeside 25 = .ok (.iload_n 3, 1) := by decide +kernel
theorem dX3_pushedBeside_26 : decode cX3_pushedBeside 26 = .ok (.aaload, 1) := by decide +kernel
theorem dX3_pushedBeside_27 : decode cX3_pushedBeside 27 = .ok (.astore 4, 2) := by decide +kernel
theorem dX3_pushedBeside_29 : decode cX3_pushedBeside 29 = .ok (.iload_n 3, 1) := by decide +kernel
theorem dX3_pushedBeside_30 : decode cX3_pushedBeside 30 = .ok (.iload_n 1, 1) := by decide +kernel
theorem dX3_pushedBeside_31 : decode cX3_pushedBeside 31 = .ok (.if_icmp .eq 19, 3) := by decide +kernel
theorem dX3_pushedBeside_34 : decode cX3_pushedBeside 34 = .ok (.aload 4, 2) := by decide +kernel
theorem dX3_pushedBeside_36 : decode cX3_pushedBeside 36 = .ok (.ifnull 14, 3) := by decide +kernel
theorem dX3_pushedBeside_39 : decode cX3_pushedBeside 39 = .ok (.aload 4, 2) := by decide +kernel
theorem dX3_pushedBeside_41 : decode cX3_pushedBeside 41 = .ok (.invokevirtual 110, 3) := by decide +kernel
theorem dX3_pushedBeside_44 : decode cX3_pushedBeside 44 = .ok (.ifCond .eq 6, 3) := by decide +kernel
theorem dX3_pushedBeside_47 : decode cX3_pushedBeside 47 = .ok (.iinc 2 1, 3) := by decide +kernel
theorem dX3_pushedBeside_50 : decode cX3_pushedBeside 50 = .ok (.iinc 3 1, 3) := by decide +kernel
theorem dX3_pushedBeside_53 : decode cX3_pushedBeside 53 = .ok (.goto (-49), 3) := by decide +kernel
theorem dX3_pushedBeside_56 : decode cX3_pushedBeside 56 = .ok (.iload_n 2, 1) := by decide +kernel
theorem dX3_pushedBeside_57 : decode cX3_pushedBeside 57 = .ok (.ireturn, 1) := by decide +kernel
theorem dX3_worthToday_0 : decode cX3_worthToday 0 = .ok (.iconst 0, 1) := by decide +kernel
theorem dX3_worthToday_1 : decode cX3_worthToday 1 = .ok (.istore_n 1, 1) := by decide +kernel
theorem dX3_worthToday_2 : decode cX3_worthToday 2 = .ok (.iconst 0, 1) := by decide +kernel
theorem dX3_worthToday_3 : decode cX3_worthToday 3 = .ok (.istore_n 2, 1) := by decide +kernel
theorem dX3_worthToday_4 : decode cX3_worthToday 4 = .ok (.iload_n 2, 1) := by decide +kernel
theorem dX3_worthToday_5 : decode cX3_worthToday 5 = .ok (.aload_n 0, 1) := by decide +kernel
theorem dX3_worthToday_6 : decode cX3_worthToday 6 = .ok (.getfield 43, 3) := by decide +kernel
theorem dX3_worthToday_9 : decode cX3_worthToday 9 = .ok (.if_icmp .ge 44, 3) := by decide +kernel
theorem dX3_worthToday_12 : decode cX3_worthToday 12 = .ok (.iload_n 2, 1) := by decide +kernel
theorem dX3_worthToday_13 : decode cX3_worthToday 13 = .ok (.aload_n 0, 1) := by decide +kernel
theorem dX3_worthToday_14 : decode cX3_worthToday 14 = .ok (.getfield 37, 3) := by decide +kernel
theorem dX3_worthToday_17 : decode cX3_worthToday 17 = .ok (.arraylength, 1) := by decide +kernel
theorem dX3_worthToday_18 : decode cX3_worthToday 18 = .ok (.if_icmp .ge 35, 3) := by decide +kernel
theorem dX3_worthToday_21 : decode cX3_worthToday 21 = .ok (.aload_n 0, 1) := by decide +kernel
theorem dX3_worthToday_22 : decode cX3_worthToday 22 = .ok (.getfield 37, 3) := by decide +kernel
theorem dX3_worthToday_25 : decode cX3_worthToday 25 = .ok (.iload_n 2, 1) := by decide +kernel
theorem dX3_worthToday_26 : decode cX3_worthToday 26 = .ok (.aaload, 1) := by decide +kernel
theorem dX3_worthToday_27 : decode cX3_worthToday 27 = .ok (.astore_n 3, 1) := by decide +kernel
theorem dX3_worthToday_28 : decode cX3_worthToday 28 = .ok (.aload_n 3, 1) := by decide +kernel
theorem dX3_worthToday_29 : decode cX3_worthToday 29 = .ok (.ifnull 18, 3) := by decide +kernel
theorem dX3_worthToday_32 : decode cX3_worthToday 32 = .ok (.aload_n 3, 1) := by decide +kernel
theorem dX3_worthToday_33 : decode cX3_worthToday 33 = .ok (.getfield 113, 3) := by decide +kernel
theorem dX3_worthToday_36 : decode cX3_worthToday 36 = .ok (.iconst (-1), 1) := by decide +kernel
theorem dX3_worthToday_37 : decode cX3_worthToday 37 = .ok (.if_icmp .eq 10, 3) := by decide +kernel
theorem dX3_worthToday_40 : decode cX3_worthToday 40 = .ok (.iload_n 1, 1) := by decide +kernel
theorem dX3_worthToday_41 : decode cX3_worthToday 41 = .ok (.aload_n 3, 1) := by decide +kernel
theorem dX3_worthToday_42 : decode cX3_worthToday 42 = .ok (.getfield 87, 3) := by decide +kernel
theorem dX3_worthToday_45 : decode cX3_worthToday 45 = .ok (.iadd, 1) := by decide +kernel
theorem dX3_worthToday_46 : decode cX3_worthToday 46 = .ok (.istore_n 1, 1) := by decide +kernel
theorem dX3_worthToday_47 : decode cX3_worthToday 47 = .ok (.iinc 2 1, 3) := by decide +kernel
theorem dX3_worthToday_50 : decode cX3_worthToday 50 = .ok (.goto (-46), 3) := by decide +kernel
theorem dX3_worthToday_53 : decode cX3_worthToday 53 = .ok (.iload_n 1, 1) := by decide +kernel
theorem dX3_worthToday_54 : decode cX3_worthToday 54 = .ok (.ireturn, 1) := by decide +kernel
theorem dX3_greatestWorth_0 : decode cX3_greatestWorth 0 = .ok (.aload_n 0, 1) := by decide +kernel
theorem dX3_greatestWorth_1 : decode cX3_greatestWorth 1 = .ok (.aload_n 0, 1) := by decide +kernel
theorem dX3_greatestWorth_2 : decode cX3_greatestWorth 2 = .ok (.getfield 28, 3) := by decide +kernel
theorem dX3_greatestWorth_5 : decode cX3_greatestWorth 5 = .ok (.invokevirtual 80, 3) := by decide +kernel
theorem dX3_greatestWorth_8 : decode cX3_greatestWorth 8 = .ok (.aload_n 0, 1) := by decide +kernel
theorem dX3_greatestWorth_9 : decode cX3_greatestWorth 9 = .ok (.getfield 37, 3) := by decide +kernel
theorem dX3_greatestWorth_12 : decode cX3_greatestWorth 12 = .ok (.aload_n 0, 1) := by decide +kernel
theorem dX3_greatestWorth_13 : decode cX3_greatestWorth 13 = .ok (.getfield 43, 3) := by decide +kernel
theorem dX3_greatestWorth_16 : decode cX3_greatestWorth 16 = .ok (.iconst 0, 1) := by decide +kernel
theorem dX3_greatestWorth_17 : decode cX3_greatestWorth 17 = .ok (.aload_n 0, 1) := by decide +kernel
theorem dX3_greatestWorth_18 : decode cX3_greatestWorth 18 = .ok (.getfield 28, 3) := by decide +kernel
theorem dX3_greatestWorth_21 : decode cX3_greatestWorth 21 = .ok (.invokestatic 116, 3) := by decide +kernel
theorem dX3_greatestWorth_24 : decode cX3_greatestWorth 24 = .ok (.ireturn, 1) := by decide +kernel
theorem dX3_greatestFrom_0 : decode cX3_greatestFrom 0 = .ok (.iload_n 2, 1) := by decide +kernel
theorem dX3_greatestFrom_1 : decode cX3_greatestFrom 1 = .ok (.ifCond .lt 25, 3) := by decide +kernel
theorem dX3_greatestFrom_4 : decode cX3_greatestFrom 4 = .ok (.iload_n 2, 1) := by decide +kernel
theorem dX3_greatestFrom_5 : decode cX3_greatestFrom 5 = .ok (.iload_n 1, 1) := by decide +kernel
theorem dX3_greatestFrom_6 : decode cX3_greatestFrom 6 = .ok (.if_icmp .ge 20, 3) := by decide +kernel
theorem dX3_greatestFrom_9 : decode cX3_greatestFrom 9 = .ok (.iload_n 2, 1) := by decide +kernel
theorem dX3_greatestFrom_10 : decode cX3_greatestFrom 10 = .ok (.aload_n 0, 1) := by decide +kernel
theorem dX3_greatestFrom_11 : decode cX3_greatestFrom 11 = .ok (.arraylength, 1) := by decide +kernel
theorem dX3_greatestFrom_12 : decode cX3_greatestFrom 12 = .ok (.if_icmp .ge 14, 3) := by decide +kernel
theorem dX3_greatestFrom_15 : decode cX3_greatestFrom 15 = .ok (.iload_n 2, 1) := by decide +kernel
theorem dX3_greatestFrom_16 : decode cX3_greatestFrom 16 = .ok (.iconst 4, 1) := by decide +kernel
theorem dX3_greatestFrom_17 : decode cX3_greatestFrom 17 = .ok (.if_icmp .ge 9, 3) := by decide +kernel
theorem dX3_greatestFrom_20 : decode cX3_greatestFrom 20 = .ok (.aload_n 0, 1) := by decide +kernel
theorem dX3_greatestFrom_21 : decode cX3_greatestFrom 21 = .ok (.iload_n 2, 1) := by decide +kernel
theorem dX3_greatestFrom_22 : decode cX3_greatestFrom 22 = .ok (.aaload, 1) := by decide +kernel
theorem dX3_greatestFrom_23 : decode cX3_greatestFrom 23 = .ok (.ifnonnull 5, 3) := by decide +kernel
theorem dX3_greatestFrom_26 : decode cX3_greatestFrom 26 = .ok (.iconst 0, 1) := by decide +kernel
theorem dX3_greatestFrom_27 : decode cX3_greatestFrom 27 = .ok (.ireturn, 1) := by decide +kernel
theorem dX3_greatestFrom_28 : decode cX3_greatestFrom 28 = .ok (.aload_n 0, 1) := by decide +kernel
theorem dX3_greatestFrom_29 : decode cX3_greatestFrom 29 = .ok (.iload_n 2, 1) := by decide +kernel
theorem dX3_greatestFrom_30 : decode cX3_greatestFrom 30 = .ok (.aaload, 1) := by decide +kernel
theorem dX3_greatestFrom_31 : decode cX3_greatestFrom 31 = .ok (.astore 4, 2) := by decide +kernel
theorem dX3_greatestFrom_33 : decode cX3_greatestFrom 33 = .ok (.aload_n 0, 1) := by decide +kernel
theorem dX3_greatestFrom_34 : decode cX3_greatestFrom 34 = .ok (.iload_n 1, 1) := by decide +kernel
theorem dX3_greatestFrom_35 : decode cX3_greatestFrom 35 = .ok (.iload_n 2, 1) := by decide +kernel
theorem dX3_greatestFrom_36 : decode cX3_greatestFrom 36 = .ok (.invokestatic 120, 3) := by decide +kernel
theorem dX3_greatestFrom_39 : decode cX3_greatestFrom 39 = .ok (.istore 5, 2) := by decide +kernel
theorem dX3_greatestFrom_41 : decode cX3_greatestFrom 41 = .ok (.iconst 0, 1) := by decide +kernel
theorem dX3_greatestFrom_42 : decode cX3_greatestFrom 42 = .ok (.istore 6, 2) := by decide +kernel
theorem dX3_greatestFrom_44 : decode cX3_greatestFrom 44 = .ok (.iconst 0, 1) := by decide +kernel
theorem dX3_greatestFrom_45 : decode cX3_greatestFrom 45 = .ok (.istore 7, 2) := by decide +kernel
theorem dX3_greatestFrom_47 : decode cX3_greatestFrom 47 = .ok (.iload 7, 2) := by decide +kernel
theorem dX3_greatestFrom_49 : decode cX3_greatestFrom 49 = .ok (.iconst 4, 1) := by decide +kernel
theorem dX3_greatestFrom_50 : decode cX3_greatestFrom 50 = .ok (.if_icmp .ge 69, 3) := by decide +kernel
theorem dX3_greatestFrom_53 : decode cX3_greatestFrom 53 = .ok (.iload 6, 2) := by decide +kernel
theorem dX3_greatestFrom_55 : decode cX3_greatestFrom 55 = .ok (.iload 5, 2) := by decide +kernel
theorem dX3_greatestFrom_57 : decode cX3_greatestFrom 57 = .ok (.if_icmp .ge 62, 3) := by decide +kernel
theorem dX3_greatestFrom_60 : decode cX3_greatestFrom 60 = .ok (.aload 4, 2) := by decide +kernel
theorem dX3_greatestFrom_62 : decode cX3_greatestFrom 62 = .ok (.aload_n 3, 1) := by decide +kernel
theorem dX3_greatestFrom_63 : decode cX3_greatestFrom 63 = .ok (.iload 7, 2) := by decide +kernel
theorem dX3_greatestFrom_65 : decode cX3_greatestFrom 65 = .ok (.invokevirtual 124, 3) := by decide +kernel
theorem dX3_greatestFrom_68 : decode cX3_greatestFrom 68 = .ok (.ifCond .eq 45, 3) := by decide +kernel
theorem dX3_greatestFrom_71 : decode cX3_greatestFrom 71 = .ok (.aload 4, 2) := by decide +kernel
theorem dX3_greatestFrom_73 : decode cX3_greatestFrom 73 = .ok (.aload_n 3, 1) := by decide +kernel
theorem dX3_greatestFrom_74 : decode cX3_greatestFrom 74 = .ok (.iload 7, 2) := by decide +kernel
theorem dX3_greatestFrom_76 : decode cX3_greatestFrom 76 = .ok (.invokevirtual 128, 3) := by decide +kernel
theorem dX3_greatestFrom_79 : decode cX3_greatestFrom 79 = .ok (.aload 4, 2) := by decide +kernel
theorem dX3_greatestFrom_81 : decode cX3_greatestFrom 81 = .ok (.getfield 87, 3) := by decide +kernel
theorem dX3_greatestFrom_84 : decode cX3_greatestFrom 84 = .ok (.aload_n 0, 1) := by decide +kernel
theorem dX3_greatestFrom_85 : decode cX3_greatestFrom 85 = .ok (.iload_n 1, 1) := by decide +kernel
theorem dX3_greatestFrom_86 : decode cX3_greatestFrom 86 = .ok (.iload_n 2, 1) := by decide +kernel
theorem dX3_greatestFrom_87 : decode cX3_greatestFrom 87 = .ok (.iconst 1, 1) := by decide +kernel
theorem dX3_greatestFrom_88 : decode cX3_greatestFrom 88 = .ok (.iadd, 1) := by decide +kernel
theorem dX3_greatestFrom_89 : decode cX3_greatestFrom 89 = .ok (.aload_n 3, 1) := by decide +kernel
theorem dX3_greatestFrom_90 : decode cX3_greatestFrom 90 = .ok (.invokestatic 116, 3) := by decide +kernel
theorem dX3_greatestFrom_93 : decode cX3_greatestFrom 93 = .ok (.iadd, 1) := by decide +kernel
theorem dX3_greatestFrom_94 : decode cX3_greatestFrom 94 = .ok (.istore 8, 2) := by decide +kernel
theorem dX3_greatestFrom_96 : decode cX3_greatestFrom 96 = .ok (.iload 6, 2) := by decide +kernel
theorem dX3_greatestFrom_98 : decode cX3_greatestFrom 98 = .ok (.iload 8, 2) := by decide +kernel
theorem dX3_greatestFrom_100 : decode cX3_greatestFrom 100 = .ok (.invokestatic 132, 3) := by decide +kernel
theorem dX3_greatestFrom_103 : decode cX3_greatestFrom 103 = .ok (.istore 6, 2) := by decide +kernel
theorem dX3_greatestFrom_105 : decode cX3_greatestFrom 105 = .ok (.aload 4, 2) := by decide +kernel
theorem dX3_greatestFrom_107 : decode cX3_greatestFrom 107 = .ok (.aload_n 3, 1) := by decide +kernel
theorem dX3_greatestFrom_108 : decode cX3_greatestFrom 108 = .ok (.iload 7, 2) := by decide +kernel
theorem dX3_greatestFrom_110 : decode cX3_greatestFrom 110 = .ok (.invokevirtual 138, 3) := by decide +kernel
theorem dX3_greatestFrom_113 : decode cX3_greatestFrom 113 = .ok (.iinc 7 1, 3) := by decide +kernel
theorem dX3_greatestFrom_116 : decode cX3_greatestFrom 116 = .ok (.goto (-69), 3) := by decide +kernel
theorem dX3_greatestFrom_119 : decode cX3_greatestFrom 119 = .ok (.iload 6, 2) := by decide +kernel
theorem dX3_greatestFrom_121 : decode cX3_greatestFrom 121 = .ok (.iload 5, 2) := by decide +kernel
theorem dX3_greatestFrom_123 : decode cX3_greatestFrom 123 = .ok (.if_icmp .ge 19, 3) := by decide +kernel
theorem dX3_greatestFrom_126 : decode cX3_greatestFrom 126 = .ok (.iload 6, 2) := by decide +kernel
theorem dX3_greatestFrom_128 : decode cX3_greatestFrom 128 = .ok (.aload_n 0, 1) := by decide +kernel
theorem dX3_greatestFrom_129 : decode cX3_greatestFrom 129 = .ok (.iload_n 1, 1) := by decide +kernel
theorem dX3_greatestFrom_130 : decode cX3_greatestFrom 130 = .ok (.iload_n 2, 1) := by decide +kernel
theorem dX3_greatestFrom_131 : decode cX3_greatestFrom 131 = .ok (.iconst 1, 1) := by decide +kernel
theorem dX3_greatestFrom_132 : decode cX3_greatestFrom 132 = .ok (.iadd, 1) := by decide +kernel
theorem dX3_greatestFrom_133 : decode cX3_greatestFrom 133 = .ok (.aload_n 3, 1) := by decide +kernel
theorem dX3_greatestFrom_134 : decode cX3_greatestFrom 134 = .ok (.invokestatic 116, 3) := by decide +kernel
theorem dX3_greatestFrom_137 : decode cX3_greatestFrom 137 = .ok (.invokestatic 132, 3) := by decide +kernel
theorem dX3_greatestFrom_140 : decode cX3_greatestFrom 140 = .ok (.istore 6, 2) := by decide +kernel
theorem dX3_greatestFrom_142 : decode cX3_greatestFrom 142 = .ok (.iload 6, 2) := by decide +kernel
theorem dX3_greatestFrom_144 : decode cX3_greatestFrom 144 = .ok (.ireturn, 1) := by decide +kernel
theorem dX3_ranksFrom_0 : decode cX3_ranksFrom 0 = .ok (.iconst 0, 1) := by decide +kernel
theorem dX3_ranksFrom_1 : decode cX3_ranksFrom 1 = .ok (.istore_n 3, 1) := by decide +kernel
theorem dX3_ranksFrom_2 : decode cX3_ranksFrom 2 = .ok (.iload_n 2, 1) := by decide +kernel
theorem dX3_ranksFrom_3 : decode cX3_ranksFrom 3 = .ok (.iconst 0, 1) := by decide +kernel
theorem dX3_ranksFrom_4 : decode cX3_ranksFrom 4 = .ok (.invokestatic 132, 3) := by decide +kernel
theorem dX3_ranksFrom_7 : decode cX3_ranksFrom 7 = .ok (.istore 4, 2) := by decide +kernel
theorem dX3_ranksFrom_9 : decode cX3_ranksFrom 9 = .ok (.iload 4, 2) := by decide +kernel
theorem dX3_ranksFrom_11 : decode cX3_ranksFrom 11 = .ok (.iload_n 1, 1) := by decide +kernel
theorem dX3_ranksFrom_12 : decode cX3_ranksFrom 12 = .ok (.if_icmp .ge 35, 3) := by decide +kernel
theorem dX3_ranksFrom_15 : decode cX3_ranksFrom 15 = .ok (.iload 4, 2) := by decide +kernel
theorem dX3_ranksFrom_17 : decode cX3_ranksFrom 17 = .ok (.aload_n 0, 1) := by decide +kernel
theorem dX3_ranksFrom_18 : decode cX3_ranksFrom 18 = .ok (.arraylength, 1) := by decide +kernel
theorem dX3_ranksFrom_19 : decode cX3_ranksFrom 19 = .ok (.if_icmp .ge 28, 3) := by decide +kernel
theorem dX3_ranksFrom_22 : decode cX3_ranksFrom 22 = .ok (.aload_n 0, 1) := by decide +kernel
theorem dX3_ranksFrom_23 : decode cX3_ranksFrom 23 = .ok (.iload 4, 2) := by decide +kernel
theorem dX3_ranksFrom_25 : decode cX3_ranksFrom 25 = .ok (.aaload, 1) := by decide +kernel
theorem dX3_ranksFrom_26 : decode cX3_ranksFrom 26 = .ok (.astore 5, 2) := by decide +kernel
theorem dX3_ranksFrom_28 : decode cX3_ranksFrom 28 = .ok (.aload 5, 2) := by decide +kernel
theorem dX3_ranksFrom_30 : decode cX3_ranksFrom 30 = .ok (.ifnull 11, 3) := by decide +kernel
theorem dX3_ranksFrom_33 : decode cX3_ranksFrom 33 = .ok (.iload_n 3, 1) := by decide +kernel
theorem dX3_ranksFrom_34 : decode cX3_ranksFrom 34 = .ok (.aload 5, 2) := by decide +kernel
theorem dX3_ranksFrom_36 : decode cX3_ranksFrom 36 = .ok (.getfield 87, 3) := by decide +kernel
theorem dX3_ranksFrom_39 : decode cX3_ranksFrom 39 = .ok (.iadd, 1) := by decide +kernel
theorem dX3_ranksFrom_40 : decode cX3_ranksFrom 40 = .ok (.istore_n 3, 1) := by decide +kernel
theorem dX3_ranksFrom_41 : decode cX3_ranksFrom 41 = .ok (.iinc 4 1, 3) := by decide +kernel
theorem dX3_ranksFrom_44 : decode cX3_ranksFrom 44 = .ok (.goto (-35), 3) := by decide +kernel
theorem dX3_ranksFrom_47 : decode cX3_ranksFrom 47 = .ok (.iload_n 3, 1) := by decide +kernel
theorem dX3_ranksFrom_48 : decode cX3_ranksFrom 48 = .ok (.ireturn, 1) := by decide +kernel
theorem dX4_init_0 : decode cX4_init 0 = .ok (.aload_n 0, 1) := by decide +kernel
theorem dX4_init_1 : decode cX4_init 1 = .ok (.invokespecial 1, 3) := by decide +kernel
theorem dX4_init_4 : decode cX4_init 4 = .ok (.aload_n 0, 1) := by decide +kernel
theorem dX4_init_5 : decode cX4_init 5 = .ok (.iload_n 1, 1) := by decide +kernel
theorem dX4_init_6 : decode cX4_init 6 = .ok (.putfield 7, 3) := by decide +kernel
theorem dX4_init_9 : decode cX4_init 9 = .ok (.aload_n 0, 1) := by decide +kernel
theorem dX4_init_10 : decode cX4_init 10 = .ok (.aload_n 2, 1) := by decide +kernel
theorem dX4_init_11 : decode cX4_init 11 = .ok (.putfield 13, 3) := by decide +kernel
theorem dX4_init_14 : decode cX4_init 14 = .ok (.return_, 1) := by decide +kernel
theorem dX5_init_0 : decode cX5_init 0 = .ok (.aload_n 0, 1) := by decide +kernel
theorem dX5_init_1 : decode cX5_init 1 = .ok (.invokespecial 3, 3) := by decide +kernel
theorem dX5_init_4 : decode cX5_init 4 = .ok (.aload_n 0, 1) := by decide +kernel
theorem dX5_init_5 : decode cX5_init 5 = .ok (.aload_n 1, 1) := by decide +kernel
theorem dX5_init_6 : decode cX5_init 6 = .ok (.putfield 9, 3) := by decide +kernel
theorem dX5_init_9 : decode cX5_init 9 = .ok (.aload_n 0, 1) := by decide +kernel
theorem dX5_init_10 : decode cX5_init 10 = .ok (.aload_n 1, 1) := by decide +kernel
theorem dX5_init_11 : decode cX5_init 11 = .ok (.getfield 15, 3) := by decide +kernel
theorem dX5_init_14 : decode cX5_init 14 = .ok (.putfield 21, 3) := by decide +kernel
theorem dX5_init_17 : decode cX5_init 17 = .ok (.aload_n 0, 1) := by decide +kernel
theorem dX5_init_18 : decode cX5_init 18 = .ok (.iload_n 2, 1) := by decide +kernel
theorem dX5_init_19 : decode cX5_init 19 = .ok (.putfield 22, 3) := by decide +kernel
theorem dX5_init_22 : decode cX5_init 22 = .ok (.aload_n 0, 1) := by decide +kernel
theorem dX5_init_23 : decode cX5_init 23 = .ok (.iload_n 3, 1) := by decide +kernel
theorem dX5_init_24 : decode cX5_init 24 = .ok (.putfield 25, 3) := by decide +kernel
theorem dX5_init_27 : decode cX5_init 27 = .ok (.aload_n 0, 1) := by decide +kernel
theorem dX5_init_28 : decode cX5_init 28 = .ok (.aconst_null, 1) := by decide +kernel
theorem dX5_init_29 : decode cX5_init 29 = .ok (.putfield 28, 3) := by decide +kernel
theorem dX5_init_32 : decode cX5_init 32 = .ok (.aload_n 0, 1) := by decide +kernel
theorem dX5_init_33 : decode cX5_init 33 = .ok (.iconst (-1), 1) := by decide +kernel
theorem dX5_init_34 : decode cX5_init 34 = .ok (.putfield 32, 3) := by decide +kernel
theorem dX5_init_37 : decode cX5_init 37 = .ok (.aload_n 0, 1) := by decide +kernel
theorem dX5_init_38 : decode cX5_init 38 = .ok (.iconst (-1), 1) := by decide +kernel
theorem dX5_init_39 : decode cX5_init 39 = .ok (.putfield 35, 3) := by decide +kernel
theorem dX5_init_42 : decode cX5_init 42 = .ok (.return_, 1) := by decide +kernel
theorem dX5_takeUp_0 : decode cX5_takeUp 0 = .ok (.aload_n 0, 1) := by decide +kernel
theorem dX5_takeUp_1 : decode cX5_takeUp 1 = .ok (.aload_n 0, 1) := by decide +kernel
theorem dX5_takeUp_2 : decode cX5_takeUp 2 = .ok (.getfield 9, 3) := by decide +kernel
theorem dX5_takeUp_5 : decode cX5_takeUp 5 = .ok (.iload_n 1, 1) := by decide +kernel
theorem dX5_takeUp_6 : decode cX5_takeUp 6 = .ok (.invokevirtual 38, 3) := by decide +kernel
theorem dX5_takeUp_9 : decode cX5_takeUp 9 = .ok (.putfield 28, 3) := by decide +kernel
theorem dX5_takeUp_12 : decode cX5_takeUp 12 = .ok (.aload_n 0, 1) := by decide +kernel
theorem dX5_takeUp_13 : decode cX5_takeUp 13 = .ok (.aload_n 0, 1) := by decide +kernel
theorem dX5_takeUp_14 : decode cX5_takeUp 14 = .ok (.getfield 32, 3) := by decide +kernel
theorem dX5_takeUp_17 : decode cX5_takeUp 17 = .ok (.putfield 35, 3) := by decide +kernel
theorem dX5_takeUp_20 : decode cX5_takeUp 20 = .ok (.aload_n 0, 1) := by decide +kernel
theorem dX5_takeUp_21 : decode cX5_takeUp 21 = .ok (.iconst (-1), 1) := by decide +kernel
theorem dX5_takeUp_22 : decode cX5_takeUp 22 = .ok (.putfield 32, 3) := by decide +kernel
theorem dX5_takeUp_25 : decode cX5_takeUp 25 = .ok (.return_, 1) := by decide +kernel
theorem dX5_isOnSheet_0 : decode cX5_isOnSheet 0 = .ok (.aload_n 0, 1) := by decide +kernel
theorem dX5_isOnSheet_1 : decode cX5_isOnSheet 1 = .ok (.getfield 22, 3) := by decide +kernel
theorem dX5_isOnSheet_4 : decode cX5_isOnSheet 4 = .ok (.iconst (-1), 1) := by decide +kernel
theorem dX5_isOnSheet_5 : decode cX5_isOnSheet 5 = .ok (.if_icmp .eq 7, 3) := by decide +kernel
theorem dX5_isOnSheet_8 : decode cX5_isOnSheet 8 = .ok (.iconst 1, 1) := by decide +kernel
theorem dX5_isOnSheet_9 : decode cX5_isOnSheet 9 = .ok (.goto 4, 3) := by decide +kernel
theorem dX5_isOnSheet_12 : decode cX5_isOnSheet 12 = .ok (.iconst 0, 1) := by decide +kernel
theorem dX5_isOnSheet_13 : decode cX5_isOnSheet 13 = .ok (.ireturn, 1) := by decide +kernel
theorem dX5_isNamed_0 : decode cX5_isNamed 0 = .ok (.aload_n 0, 1) := by decide +kernel
theorem dX5_isNamed_1 : decode cX5_isNamed 1 = .ok (.invokevirtual 42, 3) := by decide +kernel
theorem dX5_isNamed_4 : decode cX5_isNamed 4 = .ok (.ifCond .eq 14, 3) := by decide +kernel
theorem dX5_isNamed_7 : decode cX5_isNamed 7 = .ok (.aload_n 0, 1) := by decide +kernel
theorem dX5_isNamed_8 : decode cX5_isNamed 8 = .ok (.getfield 28, 3) := by decide +kernel
theorem dX5_isNamed_11 : decode cX5_isNamed 11 = .ok (.ifnull 7, 3) := by decide +kernel
theorem dX5_isNamed_14 : decode cX5_isNamed 14 = .ok (.iconst 1, 1) := by decide +kernel
theorem dX5_isNamed_15 : decode cX5_isNamed 15 = .ok (.goto 4, 3) := by decide +kernel
theorem dX5_isNamed_18 : decode cX5_isNamed 18 = .ok (.iconst 0, 1) := by decide +kernel
theorem dX5_isNamed_19 : decode cX5_isNamed 19 = .ok (.ireturn, 1) := by decide +kernel
theorem dX5_isPushed_0 : decode cX5_isPushed 0 = .ok (.aload_n 0, 1) := by decide +kernel
theorem dX5_isPushed_1 : decode cX5_isPushed 1 = .ok (.getfield 32, 3) := by decide +kernel
theorem dX5_isPushed_4 : decode cX5_isPushed 4 = .ok (.aload_n 0, 1) := by decide +kernel
theorem dX5_isPushed_5 : decode cX5_isPushed 5 = .ok (.getfield 35, 3) := by decide +kernel
theorem dX5_isPushed_8 : decode cX5_isPushed 8 = .ok (.if_icmp .eq 7, 3) := by decide +kernel
theorem dX5_isPushed_11 : decode cX5_isPushed 11 = .ok (.iconst 1, 1) := by decide +kernel
theorem dX5_isPushed_12 : decode cX5_isPushed 12 = .ok (.goto 4, 3) := by decide +kernel
theorem dX5_isPushed_15 : decode cX5_isPushed 15 = .ok (.iconst 0, 1) := by decide +kernel
theorem dX5_isPushed_16 : decode cX5_isPushed 16 = .ok (.ireturn, 1) := by decide +kernel
theorem dX5_rowAt_0 : decode cX5_rowAt 0 = .ok (.iload_n 1, 1) := by decide +kernel
theorem dX5_rowAt_1 : decode cX5_rowAt 1 = .ok (.iconst 2, 1) := by decide +kernel
theorem dX5_rowAt_2 : decode cX5_rowAt 2 = .ok (.if_icmp .ne 10, 3) := by decide +kernel
theorem dX5_rowAt_5 : decode cX5_rowAt 5 = .ok (.aload_n 0, 1) := by decide +kernel
theorem dX5_rowAt_6 : decode cX5_rowAt 6 = .ok (.getfield 25, 3) := by decide +kernel
theorem dX5_rowAt_9 : decode cX5_rowAt 9 = .ok (.iconst 1, 1) := by decide +kernel
theorem dX5_rowAt_10 : decode cX5_rowAt 10 = .ok (.iadd, 1) := by decide +kernel
theorem dX5_rowAt_11 : decode cX5_rowAt 11 = .ok (.ireturn, 1) := by decide +kernel
theorem dX5_rowAt_12 : decode cX5_rowAt 12 = .ok (.iload_n 1, 1) := by decide +kernel
theorem dX5_rowAt_13 : decode cX5_rowAt 13 = .ok (.iconst 3, 1) := by decide +kernel
theorem dX5_rowAt_14 : decode cX5_rowAt 14 = .ok (.if_icmp .ne 12, 3) := by decide +kernel
theorem dX5_rowAt_17 : decode cX5_rowAt 17 = .ok (.aload_n 0, 1) := by decide +kernel
theorem dX5_rowAt_18 : decode cX5_rowAt 18 = .ok (.getfield 25, 3) := by decide +kernel
theorem dX5_rowAt_21 : decode cX5_rowAt 21 = .ok (.iconst 1, 1) := by decide +kernel
theorem dX5_rowAt_22 : decode cX5_rowAt 22 = .ok (.isub, 1) := by decide +kernel
theorem dX5_rowAt_23 : decode cX5_rowAt 23 = .ok (.goto 7, 3) := by decide +kernel
theorem dX5_rowAt_26 : decode cX5_rowAt 26 = .ok (.aload_n 0, 1) := by decide +kernel
theorem dX5_rowAt_27 : decode cX5_rowAt 27 = .ok (.getfield 25, 3) := by decide +kernel
theorem dX5_rowAt_30 : decode cX5_rowAt 30 = .ok (.ireturn, 1) := by decide +kernel
theorem dX5_firstColumnAt_0 : decode cX5_firstColumnAt 0 = .ok (.iload_n 1, 1) := by decide +kernel
theorem dX5_firstColumnAt_1 : decode cX5_firstColumnAt 1 = .ok (.ifCond .ne 10, 3) := by decide +kernel
theorem dX5_firstColumnAt_4 : decode cX5_firstColumnAt 4 = .ok (.aload_n 0, 1) := by decide +kernel
theorem dX5_firstColumnAt_5 : decode cX5_firstColumnAt 5 = .ok (.getfield 22, 3) := by decide +kernel
theorem dX5_firstColumnAt_8 : decode cX5_firstColumnAt 8 = .ok (.iconst 1, 1) := by decide +kernel
theorem dX5_firstColumnAt_9 : decode cX5_firstColumnAt 9 = .ok (.iadd, 1) := by decide +kernel
theorem dX5_firstColumnAt_10 : decode cX5_firstColumnAt 10 = .ok (.ireturn, 1) := by decide +kernel
theorem dX5_firstColumnAt_11 : decode cX5_firstColumnAt 11 = .ok (.iload_n 1, 1) := by decide +kernel
theorem dX5_firstColumnAt_12 : decode cX5_firstColumnAt 12 = .ok (.iconst 1, 1) := by decide +kernel
theorem dX5_firstColumnAt_13 : decode cX5_firstColumnAt 13 = .ok (.if_icmp .ne 12, 3) := by decide +kernel
theorem dX5_firstColumnAt_16 : decode cX5_firstColumnAt 16 = .ok (.aload_n 0, 1) := by decide +kernel
theorem dX5_firstColumnAt_17 : decode cX5_firstColumnAt 17 = .ok (.getfield 22, 3) := by decide +kernel
theorem dX5_firstColumnAt_20 : decode cX5_firstColumnAt 20 = .ok (.iload_n 2, 1) := by decide +kernel
theorem dX5_firstColumnAt_21 : decode cX5_firstColumnAt 21 = .ok (.isub, 1) := by decide +kernel
theorem dX5_firstColumnAt_22 : decode cX5_firstColumnAt 22 = .ok (.goto 11, 3) := by decide +kernel
theorem dX5_firstColumnAt_25 : decode cX5_firstColumnAt 25 = .ok (.aload_n 0, 1) := by decide +kernel
theorem dX5_firstColumnAt_26 : decode cX5_firstColumnAt 26 = .ok (.getfield 22, 3) := by decide +kernel
theorem dX5_firstColumnAt_29 : decode cX5_firstColumnAt 29 = .ok (.iload_n 2, 1) := by decide +kernel
theorem dX5_firstColumnAt_30 : decode cX5_firstColumnAt 30 = .ok (.iconst 2, 1) := by decide +kernel
theorem dX5_firstColumnAt_31 : decode cX5_firstColumnAt 31 = .ok (.idiv, 1) := by decide +kernel
theorem dX5_firstColumnAt_32 : decode cX5_firstColumnAt 32 = .ok (.isub, 1) := by decide +kernel
theorem dX5_firstColumnAt_33 : decode cX5_firstColumnAt 33 = .ok (.ireturn, 1) := by decide +kernel
theorem dX5_mayStand_0 : decode cX5_mayStand 0 = .ok (.aload_n 0, 1) := by decide +kernel
theorem dX5_mayStand_1 : decode cX5_mayStand 1 = .ok (.getfield 28, 3) := by decide +kernel
theorem dX5_mayStand_4 : decode cX5_mayStand 4 = .ok (.ifnonnull 5, 3) := by decide +kernel
theorem dX5_mayStand_7 : decode cX5_mayStand 7 = .ok (.iconst 0, 1) := by decide +kernel
theorem dX5_mayStand_8 : decode cX5_mayStand 8 = .ok (.ireturn, 1) := by decide +kernel
theorem dX5_mayStand_9 : decode cX5_mayStand 9 = .ok (.aload_n 0, 1) := by decide +kernel
theorem dX5_mayStand_10 : decode cX5_mayStand 10 = .ok (.getfield 28, 3) := by decide +kernel
theorem dX5_mayStand_13 : decode cX5_mayStand 13 = .ok (.invokevirtual 46, 3) := by decide +kernel
theorem dX5_mayStand_16 : decode cX5_mayStand 16 = .ok (.istore_n 3, 1) := by decide +kernel
theorem dX5_mayStand_17 : decode cX5_mayStand 17 = .ok (.aload_n 1, 1) := by decide +kernel
theorem dX5_mayStand_18 : decode cX5_mayStand 18 = .ok (.aload_n 0, 1) := by decide +kernel
theorem dX5_mayStand_19 : decode cX5_mayStand 19 = .ok (.iload_n 2, 1) := by decide +kernel
theorem dX5_mayStand_20 : decode cX5_mayStand 20 = .ok (.invokevirtual 52, 3) := by decide +kernel
theorem dX5_mayStand_23 : decode cX5_mayStand 23 = .ok (.aload_n 0, 1) := by decide +kernel
theorem dX5_mayStand_24 : decode cX5_mayStand 24 = .ok (.iload_n 2, 1) := by decide +kernel
theorem dX5_mayStand_25 : decode cX5_mayStand 25 = .ok (.iload_n 3, 1) := by decide +kernel
theorem dX5_mayStand_26 : decode cX5_mayStand 26 = .ok (.invokevirtual 56, 3) := by decide +kernel
theorem dX5_mayStand_29 : decode cX5_mayStand 29 = .ok (.iload_n 3, 1) := by decide +kernel
theorem dX5_mayStand_30 : decode cX5_mayStand 30 = .ok (.invokevirtual 60, 3) := by decide +kernel
theorem dX5_mayStand_33 : decode cX5_mayStand 33 = .ok (.ireturn, 1) := by decide +kernel
theorem dX5_write_0 : decode cX5_write 0 = .ok (.aload_n 0, 1) := by decide +kernel
theorem dX5_write_1 : decode cX5_write 1 = .ok (.getfield 28, 3) := by decide +kernel
theorem dX5_write_4 : decode cX5_write 4 = .ok (.ifnull 28, 3) := by decide +kernel
theorem dX5_write_7 : decode cX5_write 7 = .ok (.aload_n 1, 1) := by decide +kernel
theorem dX5_write_8 : decode cX5_write 8 = .ok (.aload_n 0, 1) := by decide +kernel
theorem dX5_write_9 : decode cX5_write 9 = .ok (.iload_n 2, 1) := by decide +kernel
theorem dX5_write_10 : decode cX5_write 10 = .ok (.invokevirtual 52, 3) := by decide +kernel
theorem dX5_write_13 : decode cX5_write 13 = .ok (.aload_n 0, 1) := by decide +kernel
theorem dX5_write_14 : decode cX5_write 14 = .ok (.iload_n 2, 1) := by decide +kernel
theorem dX5_write_15 : decode cX5_write 15 = .ok (.aload_n 0, 1) := by decide +kernel
theorem dX5_write_16 : decode cX5_write 16 = .ok (.getfield 28, 3) := by decide +kernel
theorem dX5_write_19 : decode cX5_write 19 = .ok (.invokevirtual 46, 3) := by decide +kernel
theorem dX5_write_22 : decode cX5_write 22 = .ok (.invokevirtual 56, 3) := by decide +kernel
theorem dX5_write_25 : decode cX5_write 25 = .ok (.aload_n 0, 1) := by decide +kernel
theorem dX5_write_26 : decode cX5_write 26 = .ok (.getfield 28, 3) := by decide +kernel
theorem dX5_write_29 : decode cX5_write 29 = .ok (.invokevirtual 66, 3) := by decide +kernel
theorem dX5_write_32 : decode cX5_write 32 = .ok (.return_, 1) := by decide +kernel
theorem dX5_erase_0 : decode cX5_erase 0 = .ok (.aload_n 0, 1) := by decide +kernel
theorem dX5_erase_1 : decode cX5_erase 1 = .ok (.getfield 28, 3) := by decide +kernel
theorem dX5_erase_4 : decode cX5_erase 4 = .ok (.ifnull 27, 3) := by decide +kernel
theorem dX5_erase_7 : decode cX5_erase 7 = .ok (.aload_n 0, 1) := by decide +kernel
theorem dX5_erase_8 : decode cX5_erase 8 = .ok (.getfield 28, 3) := by decide +kernel
theorem dX5_erase_11 : decode cX5_erase 11 = .ok (.invokevirtual 46, 3) := by decide +kernel
theorem dX5_erase_14 : decode cX5_erase 14 = .ok (.istore_n 3, 1) := by decide +kernel
theorem dX5_erase_15 : decode cX5_erase 15 = .ok (.aload_n 1, 1) := by decide +kernel
theorem dX5_erase_16 : decode cX5_erase 16 = .ok (.aload_n 0, 1) := by decide +kernel
theorem dX5_erase_17 : decode cX5_erase 17 = .ok (.iload_n 2, 1) := by decide +kernel
theorem dX5_erase_18 : decode cX5_erase 18 = .ok (.invokevirtual 52, 3) := by decide +kernel
theorem dX5_erase_21 : decode cX5_erase 21 = .ok (.aload_n 0, 1) := by decide +kernel
theorem dX5_erase_22 : decode cX5_erase 22 = .ok (.iload_n 2, 1) := by decide +kernel
theorem dX5_erase_23 : decode cX5_erase 23 = .ok (.iload_n 3, 1) := by decide +kernel
theorem dX5_erase_24 : decode cX5_erase 24 = .ok (.invokevirtual 56, 3) := by decide +kernel
theorem dX5_erase_27 : decode cX5_erase 27 = .ok (.iload_n 3, 1) := by decide +kernel
theorem dX5_erase_28 : decode cX5_erase 28 = .ok (.invokevirtual 70, 3) := by decide +kernel
theorem dX5_erase_31 : decode cX5_erase 31 = .ok (.return_, 1) := by decide +kernel
theorem dX5_standAtFirstFree_0 : decode cX5_standAtFirstFree 0 = .ok (.iconst 0, 1) := by decide +kernel
theorem dX5_standAtFirstFree_1 : decode cX5_standAtFirstFree 1 = .ok (.istore_n 2, 1) := by decide +kernel
theorem dX5_standAtFirstFree_2 : decode cX5_standAtFirstFree 2 = .ok (.iload_n 2, 1) := by decide +kernel
theorem dX5_standAtFirstFree_3 : decode cX5_standAtFirstFree 3 = .ok (.iconst 4, 1) := by decide +kernel
theorem dX5_standAtFirstFree_4 : decode cX5_standAtFirstFree 4 = .ok (.if_icmp .ge 37, 3) := by decide +kernel
theorem dX5_standAtFirstFree_7 : decode cX5_standAtFirstFree 7 = .ok (.aload_n 0, 1) := by decide +kernel
theorem dX5_standAtFirstFree_8 : decode cX5_standAtFirstFree 8 = .ok (.getfield 32, 3) := by decide +kernel
theorem dX5_standAtFirstFree_11 : decode cX5_standAtFirstFree 11 = .ok (.iconst (-1), 1) := by decide +kernel
theorem dX5_standAtFirstFree_12 : decode cX5_standAtFirstFree 12 = .ok (.if_icmp .ne 29, 3) := by decide +kernel
theorem dX5_standAtFirstFree_15 : decode cX5_standAtFirstFree 15 = .ok (.aload_n 0, 1) := by decide +kernel
theorem dX5_standAtFirstFree_16 : decode cX5_standAtFirstFree 16 = .ok (.aload_n 1, 1) := by decide +kernel
theorem dX5_standAtFirstFree_17 : decode cX5_standAtFirstFree 17 = .ok (.iload_n 2, 1) := by decide +kernel
theorem dX5_standAtFirstFree_18 : decode cX5_standAtFirstFree 18 = .ok (.invokevirtual 74, 3) := by decide +kernel
theorem dX5_standAtFirstFree_21 : decode cX5_standAtFirstFree 21 = .ok (.ifCond .eq 14, 3) := by decide +kernel
theorem dX5_standAtFirstFree_24 : decode cX5_standAtFirstFree 24 = .ok (.aload_n 0, 1) := by decide +kernel
theorem dX5_standAtFirstFree_25 : decode cX5_standAtFirstFree 25 = .ok (.aload_n 1, 1) := by decide +kernel
theorem dX5_standAtFirstFree_26 : decode cX5_standAtFirstFree 26 = .ok (.iload_n 2, 1) := by decide +kernel
theorem dX5_standAtFirstFree_27 : decode cX5_standAtFirstFree 27 = .ok (.invokevirtual 78, 3) := by decide +kernel
theorem dX5_standAtFirstFree_30 : decode cX5_standAtFirstFree 30 = .ok (.aload_n 0, 1) := by decide +kernel
theorem dX5_standAtFirstFree_31 : decode cX5_standAtFirstFree 31 = .ok (.iload_n 2, 1) := by decide +kernel
theorem dX5_standAtFirstFree_32 : decode cX5_standAtFirstFree 32 = .ok (.putfield 32, 3) := by decide +kernel
theorem dX5_standAtFirstFree_35 : decode cX5_standAtFirstFree 35 = .ok (.iinc 2 1, 3) := by decide +kernel
theorem dX5_standAtFirstFree_38 : decode cX5_standAtFirstFree 38 = .ok (.goto (-36), 3) := by decide +kernel
theorem dX5_standAtFirstFree_41 : decode cX5_standAtFirstFree 41 = .ok (.return_, 1) := by decide +kernel
theorem dX6_init_0 : decode cX6_init 0 = .ok (.aload_n 0, 1) := by decide +kernel
theorem dX6_init_1 : decode cX6_init 1 = .ok (.invokespecial 1, 3) := by decide +kernel
theorem dX6_init_4 : decode cX6_init 4 = .ok (.aload_n 0, 1) := by decide +kernel
theorem dX6_init_5 : decode cX6_init 5 = .ok (.new 7, 3) := by decide +kernel
theorem dX6_init_8 : decode cX6_init 8 = .ok (.dup, 1) := by decide +kernel
theorem dX6_init_9 : decode cX6_init 9 = .ok (.invokespecial 9, 3) := by decide +kernel
theorem dX6_init_12 : decode cX6_init 12 = .ok (.putfield 10, 3) := by decide +kernel
theorem dX6_init_15 : decode cX6_init 15 = .ok (.aload_n 0, 1) := by decide +kernel
theorem dX6_init_16 : decode cX6_init 16 = .ok (.bipush 14, 2) := by decide +kernel
theorem dX6_init_18 : decode cX6_init 18 = .ok (.anewarray 16, 3) := by decide +kernel
theorem dX6_init_21 : decode cX6_init 21 = .ok (.putfield 18, 3) := by decide +kernel
theorem dX6_init_24 : decode cX6_init 24 = .ok (.aload_n 0, 1) := by decide +kernel
theorem dX6_init_25 : decode cX6_init 25 = .ok (.iconst 4, 1) := by decide +kernel
theorem dX6_init_26 : decode cX6_init 26 = .ok (.anewarray 22, 3) := by decide +kernel
theorem dX6_init_29 : decode cX6_init 29 = .ok (.putfield 24, 3) := by decide +kernel
theorem dX6_init_32 : decode cX6_init 32 = .ok (.aload_n 0, 1) := by decide +kernel
theorem dX6_init_33 : decode cX6_init 33 = .ok (.iconst 5, 1) := by decide +kernel
theorem dX6_init_34 : decode cX6_init 34 = .ok (.anewarray 28, 3) := by decide +kernel
theorem dX6_init_37 : decode cX6_init 37 = .ok (.putfield 30, 3) := by decide +kernel
theorem dX6_init_40 : decode cX6_init 40 = .ok (.aload_n 0, 1) := by decide +kernel
theorem dX6_init_41 : decode cX6_init 41 = .ok (.iconst 0, 1) := by decide +kernel
theorem dX6_init_42 : decode cX6_init 42 = .ok (.putfield 34, 3) := by decide +kernel
theorem dX6_init_45 : decode cX6_init 45 = .ok (.aload_n 0, 1) := by decide +kernel
theorem dX6_init_46 : decode cX6_init 46 = .ok (.iconst 0, 1) := by decide +kernel
theorem dX6_init_47 : decode cX6_init 47 = .ok (.putfield 38, 3) := by decide +kernel
theorem dX6_init_50 : decode cX6_init 50 = .ok (.aload_n 0, 1) := by decide +kernel
theorem dX6_init_51 : decode cX6_init 51 = .ok (.iconst 0, 1) := by decide +kernel
theorem dX6_init_52 : decode cX6_init 52 = .ok (.putfield 41, 3) := by decide +kernel
theorem dX6_init_55 : decode cX6_init 55 = .ok (.aload_n 0, 1) := by decide +kernel
theorem dX6_init_56 : decode cX6_init 56 = .ok (.iconst 0, 1) := by decide +kernel
theorem dX6_init_57 : decode cX6_init 57 = .ok (.putfield 44, 3) := by decide +kernel
theorem dX6_init_60 : decode cX6_init 60 = .ok (.return_, 1) := by decide +kernel
theorem dX6_letter_0 : decode cX6_letter 0 = .ok (.iload_n 1, 1) := by decide +kernel
theorem dX6_letter_1 : decode cX6_letter 1 = .ok (.bipush 97, 2) := by decide +kernel
theorem dX6_letter_3 : decode cX6_letter 3 = .ok (.if_icmp .lt 9, 3) := by decide +kernel
theorem dX6_letter_6 : decode cX6_letter 6 = .ok (.iload_n 1, 1) := by decide +kernel
theorem dX6_letter_7 : decode cX6_letter 7 = .ok (.bipush 122, 2) := by decide +kernel
theorem dX6_letter_9 : decode cX6_letter 9 = .ok (.if_icmp .le 13, 3) := by decide +kernel
theorem dX6_letter_12 : decode cX6_letter 12 = .ok (.new 47, 3) := by decide +kernel
theorem dX6_letter_15 : decode cX6_letter 15 = .ok (.dup, 1) := by decide +kernel
theorem dX6_letter_16 : decode cX6_letter 16 = .ok (.ldc 49, 2) := by decide +kernel
theorem dX6_letter_18 : decode cX6_letter 18 = .ok (.invokespecial 51, 3) := by decide +kernel
theorem dX6_letter_21 : decode cX6_letter 21 = .ok (.athrow, 1) := by decide +kernel
theorem dX6_letter_22 : decode cX6_letter 22 = .ok (.aload_n 0, 1) := by decide +kernel
theorem dX6_letter_23 : decode cX6_letter 23 = .ok (.getfield 10, 3) := by decide +kernel
theorem dX6_letter_26 : decode cX6_letter 26 = .ok (.invokevirtual 54, 3) := by decide +kernel
theorem dX6_letter_29 : decode cX6_letter 29 = .ok (.bipush 8, 2) := by decide +kernel
theorem dX6_letter_31 : decode cX6_letter 31 = .ok (.if_icmp .lt 13, 3) := by decide +kernel
theorem dX6_letter_34 : decode cX6_letter 34 = .ok (.new 58, 3) := by decide +kernel
theorem dX6_letter_37 : decode cX6_letter 37 = .ok (.dup, 1) := by decide +kernel
theorem dX6_letter_38 : decode cX6_letter 38 = .ok (.ldc 60, 2) := by decide +kernel
theorem dX6_letter_40 : decode cX6_letter 40 = .ok (.invokespecial 62, 3) := by decide +kernel
theorem dX6_letter_43 : decode cX6_letter 43 = .ok (.athrow, 1) := by decide +kernel
theorem dX6_letter_44 : decode cX6_letter 44 = .ok (.aload_n 0, 1) := by decide +kernel
theorem dX6_letter_45 : decode cX6_letter 45 = .ok (.getfield 10, 3) := by decide +kernel
theorem dX6_letter_48 : decode cX6_letter 48 = .ok (.iload_n 1, 1) := by decide +kernel
theorem dX6_letter_49 : decode cX6_letter 49 = .ok (.invokevirtual 63, 3) := by decide +kernel
theorem dX6_letter_52 : decode cX6_letter 52 = .ok (.pop, 1) := by decide +kernel
theorem dX6_letter_53 : decode cX6_letter 53 = .ok (.aload_n 0, 1) := by decide +kernel
theorem dX6_letter_54 : decode cX6_letter 54 = .ok (.getfield 10, 3) := by decide +kernel
theorem dX6_letter_57 : decode cX6_letter 57 = .ok (.invokevirtual 54, 3) := by decide +kernel
theorem dX6_letter_60 : decode cX6_letter 60 = .ok (.ireturn, 1) := by decide +kernel
theorem dX6_place_0 : decode cX6_place 0 = .ok (.iload_n 1, 1) := by decide +kernel
theorem dX6_place_1 : decode cX6_place 1 = .ok (.sipush (-180), 3) := by decide +kernel
theorem dX6_place_4 : decode cX6_place 4 = .ok (.sipush 179, 3) := by decide +kernel
theorem dX6_place_7 : decode cX6_place 7 = .ok (.invokestatic 67, 3) := by decide +kernel
theorem dX6_place_10 : decode cX6_place 10 = .ok (.ifCond .eq 23, 3) := by decide +kernel
theorem dX6_place_13 : decode cX6_place 13 = .ok (.iload_n 2, 1) := by decide +kernel
theorem dX6_place_14 : decode cX6_place 14 = .ok (.bipush (-60), 2) := by decide +kernel
theorem dX6_place_16 : decode cX6_place 16 = .ok (.bipush 60, 2) := by decide +kernel
theorem dX6_place_18 : decode cX6_place 18 = .ok (.invokestatic 67, 3) := by decide +kernel
theorem dX6_place_21 : decode cX6_place 21 = .ok (.ifCond .eq 12, 3) := by decide +kernel
theorem dX6_place_24 : decode cX6_place 24 = .ok (.iload_n 3, 1) := by decide +kernel
theorem dX6_place_25 : decode cX6_place 25 = .ok (.iconst 1, 1) := by decide +kernel
theorem dX6_place_26 : decode cX6_place 26 = .ok (.iconst 5, 1) := by decide +kernel
theorem dX6_place_27 : decode cX6_place 27 = .ok (.invokestatic 67, 3) := by decide +kernel
theorem dX6_place_30 : decode cX6_place 30 = .ok (.ifCond .ne 13, 3) := by decide +kernel
theorem dX6_place_33 : decode cX6_place 33 = .ok (.new 47, 3) := by decide +kernel
theorem dX6_place_36 : decode cX6_place 36 = .ok (.dup, 1) := by decide +kernel
theorem dX6_place_37 : decode cX6_place 37 = .ok (.ldc 71, 2) := by decide +kernel
theorem dX6_place_39 : decode cX6_place 39 = .ok (.invokespecial 51, 3) := by decide +kernel
theorem dX6_place_42 : decode cX6_place 42 = .ok (.athrow, 1) := by decide +kernel
theorem dX6_place_43 : decode cX6_place 43 = .ok (.aload_n 0, 1) := by decide +kernel
theorem dX6_place_44 : decode cX6_place 44 = .ok (.getfield 34, 3) := by decide +kernel
theorem dX6_place_47 : decode cX6_place 47 = .ok (.aload_n 0, 1) := by decide +kernel
theorem dX6_place_48 : decode cX6_place 48 = .ok (.getfield 18, 3) := by decide +kernel
theorem dX6_place_51 : decode cX6_place 51 = .ok (.arraylength, 1) := by decide +kernel
theorem dX6_place_52 : decode cX6_place 52 = .ok (.if_icmp .lt 13, 3) := by decide +kernel
theorem dX6_place_55 : decode cX6_place 55 = .ok (.new 58, 3) := by decide +kernel
theorem dX6_place_58 : decode cX6_place 58 = .ok (.dup, 1) := by decide +kernel
theorem dX6_place_59 : decode cX6_place 59 = .ok (.ldc 73, 2) := by decide +kernel
theorem dX6_place_61 : decode cX6_place 61 = .ok (.invokespecial 62, 3) := by decide +kernel
theorem dX6_place_64 : decode cX6_place 64 = .ok (.athrow, 1) := by decide +kernel
theorem dX6_place_65 : decode cX6_place 65 = .ok (.new 16, 3) := by decide +kernel
theorem dX6_place_68 : decode cX6_place 68 = .ok (.dup, 1) := by decide +kernel
theorem dX6_place_69 : decode cX6_place 69 = .ok (.iload_n 1, 1) := by decide +kernel
theorem dX6_place_70 : decode cX6_place 70 = .ok (.iload_n 2, 1) := by decide +kernel
theorem dX6_place_71 : decode cX6_place 71 = .ok (.iload_n 3, 1) := by decide +kernel
theorem dX6_place_72 : decode cX6_place 72 = .ok (.invokespecial 75, 3) := by decide +kernel
theorem dX6_place_75 : decode cX6_place 75 = .ok (.astore 4, 2) := by decide +kernel
theorem dX6_place_77 : decode cX6_place 77 = .ok (.aload_n 0, 1) := by decide +kernel
theorem dX6_place_78 : decode cX6_place 78 = .ok (.getfield 18, 3) := by decide +kernel
theorem dX6_place_81 : decode cX6_place 81 = .ok (.aload_n 0, 1) := by decide +kernel
theorem dX6_place_82 : decode cX6_place 82 = .ok (.getfield 34, 3) := by decide +kernel
theorem dX6_place_85 : decode cX6_place 85 = .ok (.aload 4, 2) := by decide +kernel
theorem dX6_place_87 : decode cX6_place 87 = .ok (.aastore, 1) := by decide +kernel
theorem dX6_place_88 : decode cX6_place 88 = .ok (.aload_n 0, 1) := by decide +kernel
theorem dX6_place_89 : decode cX6_place 89 = .ok (.dup, 1) := by decide +kernel
theorem dX6_place_90 : decode cX6_place 90 = .ok (.getfield 34, 3) := by decide +kernel
theorem dX6_place_93 : decode cX6_place 93 = .ok (.iconst 1, 1) := by decide +kernel
theorem dX6_place_94 : decode cX6_place 94 = .ok (.iadd, 1) := by decide +kernel
theorem dX6_place_95 : decode cX6_place 95 = .ok (.putfield 34, 3) := by decide +kernel
theorem dX6_place_98 : decode cX6_place 98 = .ok (.aload_n 0, 1) := by decide +kernel
theorem dX6_place_99 : decode cX6_place 99 = .ok (.aload 4, 2) := by decide +kernel
theorem dX6_place_101 : decode cX6_place 101 = .ok (.invokevirtual 78, 3) := by decide +kernel
theorem dX6_place_104 : decode cX6_place 104 = .ok (.aload_n 0, 1) := by decide +kernel
theorem dX6_place_105 : decode cX6_place 105 = .ok (.getfield 34, 3) := by decide +kernel
theorem dX6_place_108 : decode cX6_place 108 = .ok (.iconst 1, 1) := by decide +kernel
theorem dX6_place_109 : decode cX6_place 109 = .ok (.isub, 1) := by decide +kernel
theorem dX6_place_110 : decode cX6_place 110 = .ok (.ireturn, 1) := by decide +kernel
theorem dX6_name_0 : decode cX6_name 0 = .ok (.aload_n 0, 1) := by decide +kernel
theorem dX6_name_1 : decode cX6_name 1 = .ok (.iload_n 1, 1) := by decide +kernel
theorem dX6_name_2 : decode cX6_name 2 = .ok (.invokevirtual 82, 3) := by decide +kernel
theorem dX6_name_5 : decode cX6_name 5 = .ok (.astore_n 2, 1) := by decide +kernel
theorem dX6_name_6 : decode cX6_name 6 = .ok (.aload_n 0, 1) := by decide +kernel
theorem dX6_name_7 : decode cX6_name 7 = .ok (.getfield 10, 3) := by decide +kernel
theorem dX6_name_10 : decode cX6_name 10 = .ok (.invokevirtual 54, 3) := by decide +kernel
theorem dX6_name_13 : decode cX6_name 13 = .ok (.ifCond .ne 13, 3) := by decide +kernel
theorem dX6_name_16 : decode cX6_name 16 = .ok (.new 58, 3) := by decide +kernel
theorem dX6_name_19 : decode cX6_name 19 = .ok (.dup, 1) := by decide +kernel
theorem dX6_name_20 : decode cX6_name 20 = .ok (.ldc 86, 2) := by decide +kernel
theorem dX6_name_22 : decode cX6_name 22 = .ok (.invokespecial 62, 3) := by decide +kernel
theorem dX6_name_25 : decode cX6_name 25 = .ok (.athrow, 1) := by decide +kernel
theorem dX6_name_26 : decode cX6_name 26 = .ok (.aload_n 2, 1) := by decide +kernel
theorem dX6_name_27 : decode cX6_name 27 = .ok (.invokevirtual 88, 3) := by decide +kernel
theorem dX6_name_30 : decode cX6_name 30 = .ok (.ifCond .eq 13, 3) := by decide +kernel
theorem dX6_name_33 : decode cX6_name 33 = .ok (.new 58, 3) := by decide +kernel
theorem dX6_name_36 : decode cX6_name 36 = .ok (.dup, 1) := by decide +kernel
theorem dX6_name_37 : decode cX6_name 37 = .ok (.ldc 92, 2) := by decide +kernel
theorem dX6_name_39 : decode cX6_name 39 = .ok (.invokespecial 62, 3) := by decide +kernel
theorem dX6_name_42 : decode cX6_name 42 = .ok (.athrow, 1) := by decide +kernel
theorem dX6_name_43 : decode cX6_name 43 = .ok (.aload_n 2, 1) := by decide +kernel
theorem dX6_name_44 : decode cX6_name 44 = .ok (.new 94, 3) := by decide +kernel
theorem dX6_name_47 : decode cX6_name 47 = .ok (.dup, 1) := by decide +kernel
theorem dX6_name_48 : decode cX6_name 48 = .ok (.aload_n 0, 1) := by decide +kernel
theorem dX6_name_49 : decode cX6_name 49 = .ok (.getfield 44, 3) := by decide +kernel
theorem dX6_name_52 : decode cX6_name 52 = .ok (.aload_n 0, 1) := by decide +kernel
theorem dX6_name_53 : decode cX6_name 53 = .ok (.getfield 10, 3) := by decide +kernel
theorem dX6_name_56 : decode cX6_name 56 = .ok (.invokevirtual 96, 3) := by decide +kernel
theorem dX6_name_59 : decode cX6_name 59 = .ok (.invokespecial 100, 3) := by decide +kernel
theorem dX6_name_62 : decode cX6_name 62 = .ok (.invokevirtual 103, 3) := by decide +kernel
theorem dX6_name_65 : decode cX6_name 65 = .ok (.aload_n 0, 1) := by decide +kernel
theorem dX6_name_66 : decode cX6_name 66 = .ok (.getfield 10, 3) := by decide +kernel
theorem dX6_name_69 : decode cX6_name 69 = .ok (.iconst 0, 1) := by decide +kernel
theorem dX6_name_70 : decode cX6_name 70 = .ok (.invokevirtual 107, 3) := by decide +kernel
theorem dX6_name_73 : decode cX6_name 73 = .ok (.aload_n 0, 1) := by decide +kernel
theorem dX6_name_74 : decode cX6_name 74 = .ok (.iload_n 1, 1) := by decide +kernel
theorem dX6_name_75 : decode cX6_name 75 = .ok (.invokevirtual 111, 3) := by decide +kernel
theorem dX6_name_78 : decode cX6_name 78 = .ok (.ireturn, 1) := by decide +kernel
theorem dX6_spelled_0 : decode cX6_spelled 0 = .ok (.aload_n 0, 1) := by decide +kernel
theorem dX6_spelled_1 : decode cX6_spelled 1 = .ok (.iload_n 1, 1) := by decide +kernel
theorem dX6_spelled_2 : decode cX6_spelled 2 = .ok (.invokevirtual 82, 3) := by decide +kernel
theorem dX6_spelled_5 : decode cX6_spelled 5 = .ok (.astore 4, 2) := by decide +kernel
theorem dX6_spelled_7 : decode cX6_spelled 7 = .ok (.iload_n 3, 1) := by decide +kernel
theorem dX6_spelled_8 : decode cX6_spelled 8 = .ok (.ifCond .ge 13, 3) := by decide +kernel
theorem dX6_spelled_11 : decode cX6_spelled 11 = .ok (.new 115, 3) := by decide +kernel
theorem dX6_spelled_14 : decode cX6_spelled 14 = .ok (.dup, 1) := by decide +kernel
theorem dX6_spelled_15 : decode cX6_spelled 15 = .ok (.ldc 117, 2) := by decide +kernel
theorem dX6_spelled_17 : decode cX6_spelled 17 = .ok (.invokespecial 119, 3) := by decide +kernel
theorem dX6_spelled_20 : decode cX6_spelled 20 = .ok (.athrow, 1) := by decide +kernel
theorem dX6_spelled_21 : decode cX6_spelled 21 = .ok (.iload_n 2, 1) := by decide +kernel
theorem dX6_spelled_22 : decode cX6_spelled 22 = .ok (.iconst 0, 1) := by decide +kernel
theorem dX6_spelled_23 : decode cX6_spelled 23 = .ok (.sipush 10000, 3) := by decide +kernel
theorem dX6_spelled_26 : decode cX6_spelled 26 = .ok (.invokestatic 67, 3) := by decide +kernel
theorem dX6_spelled_29 : decode cX6_spelled 29 = .ok (.ifCond .ne 13, 3) := by decide +kernel
theorem dX6_spelled_32 : decode cX6_spelled 32 = .ok (.new 47, 3) := by decide +kernel
theorem dX6_spelled_35 : decode cX6_spelled 35 = .ok (.dup, 1) := by decide +kernel
theorem dX6_spelled_36 : decode cX6_spelled 36 = .ok (.ldc 120, 2) := by decide +kernel
theorem dX6_spelled_38 : decode cX6_spelled 38 = .ok (.invokespecial 51, 3) := by decide +kernel
theorem dX6_spelled_41 : decode cX6_spelled 41 = .ok (.athrow, 1) := by decide +kernel
theorem dX6_spelled_42 : decode cX6_spelled 42 = .ok (.aload 4, 2) := by decide +kernel
theorem dX6_spelled_44 : decode cX6_spelled 44 = .ok (.iload_n 2, 1) := by decide +kernel
theorem dX6_spelled_45 : decode cX6_spelled 45 = .ok (.invokevirtual 122, 3) := by decide +kernel
theorem dX6_spelled_48 : decode cX6_spelled 48 = .ok (.astore 5, 2) := by decide +kernel
theorem dX6_spelled_50 : decode cX6_spelled 50 = .ok (.aload 5, 2) := by decide +kernel
theorem dX6_spelled_52 : decode cX6_spelled 52 = .ok (.ifnull 12, 3) := by decide +kernel
theorem dX6_spelled_55 : decode cX6_spelled 55 = .ok (.iload_n 3, 1) := by decide +kernel
theorem dX6_spelled_56 : decode cX6_spelled 56 = .ok (.aload 5, 2) := by decide +kernel
theorem dX6_spelled_58 : decode cX6_spelled 58 = .ok (.invokevirtual 126, 3) := by decide +kernel
theorem dX6_spelled_61 : decode cX6_spelled 61 = .ok (.if_icmp .lt 8, 3) := by decide +kernel
theorem dX6_spelled_64 : decode cX6_spelled 64 = .ok (.bipush 32, 2) := by decide +kernel
theorem dX6_spelled_66 : decode cX6_spelled 66 = .ok (.goto 9, 3) := by decide +kernel
theorem dX6_spelled_69 : decode cX6_spelled 69 = .ok (.aload 5, 2) := by decide +kernel
theorem dX6_spelled_71 : decode cX6_spelled 71 = .ok (.iload_n 3, 1) := by decide +kernel
theorem dX6_spelled_72 : decode cX6_spelled 72 = .ok (.invokevirtual 129, 3) := by decide +kernel
theorem dX6_spelled_75 : decode cX6_spelled 75 = .ok (.ireturn, 1) := by decide +kernel
theorem dX6_pass_0 : decode cX6_pass 0 = .ok (.iload_n 1, 1) := by decide +kernel
theorem dX6_pass_1 : decode cX6_pass 1 = .ok (.iconst 1, 1) := by decide +kernel
theorem dX6_pass_2 : decode cX6_pass 2 = .ok (.sipush 1000, 3) := by decide +kernel
theorem dX6_pass_5 : decode cX6_pass 5 = .ok (.invokestatic 67, 3) := by decide +kernel
theorem dX6_pass_8 : decode cX6_pass 8 = .ok (.ifCond .ne 13, 3) := by decide +kernel
theorem dX6_pass_11 : decode cX6_pass 11 = .ok (.new 47, 3) := by decide +kernel
theorem dX6_pass_14 : decode cX6_pass 14 = .ok (.dup, 1) := by decide +kernel
theorem dX6_pass_15 : decode cX6_pass 15 = .ok (.ldc 133, 2) := by decide +kernel
theorem dX6_pass_17 : decode cX6_pass 17 = .ok (.invokespecial 51, 3) := by decide +kernel
theorem dX6_pass_20 : decode cX6_pass 20 = .ok (.athrow, 1) := by decide +kernel
theorem dX6_pass_21 : decode cX6_pass 21 = .ok (.aload_n 0, 1) := by decide +kernel
theorem dX6_pass_22 : decode cX6_pass 22 = .ok (.getfield 44, 3) := by decide +kernel
theorem dX6_pass_25 : decode cX6_pass 25 = .ok (.iload_n 1, 1) := by decide +kernel
theorem dX6_pass_26 : decode cX6_pass 26 = .ok (.iadd, 1) := by decide +kernel
theorem dX6_pass_27 : decode cX6_pass 27 = .ok (.sipush 10000, 3) := by decide +kernel
theorem dX6_pass_30 : decode cX6_pass 30 = .ok (.if_icmp .le 13, 3) := by decide +kernel
theorem dX6_pass_33 : decode cX6_pass 33 = .ok (.new 58, 3) := by decide +kernel
theorem dX6_pass_36 : decode cX6_pass 36 = .ok (.dup, 1) := by decide +kernel
theorem dX6_pass_37 : decode cX6_pass 37 = .ok (.ldc 135, 2) := by decide +kernel
theorem dX6_pass_39 : decode cX6_pass 39 = .ok (.invokespecial 62, 3) := by decide +kernel
theorem dX6_pass_42 : decode cX6_pass 42 = .ok (.athrow, 1) := by decide +kernel
theorem dX6_pass_43 : decode cX6_pass 43 = .ok (.aload_n 0, 1) := by decide +kernel
theorem dX6_pass_44 : decode cX6_pass 44 = .ok (.dup, 1) := by decide +kernel
theorem dX6_pass_45 : decode cX6_pass 45 = .ok (.getfield 44, 3) := by decide +kernel
theorem dX6_pass_48 : decode cX6_pass 48 = .ok (.iload_n 1, 1) := by decide +kernel
theorem dX6_pass_49 : decode cX6_pass 49 = .ok (.iadd, 1) := by decide +kernel
theorem dX6_pass_50 : decode cX6_pass 50 = .ok (.putfield 44, 3) := by decide +kernel
theorem dX6_pass_53 : decode cX6_pass 53 = .ok (.aload_n 0, 1) := by decide +kernel
theorem dX6_pass_54 : decode cX6_pass 54 = .ok (.getfield 44, 3) := by decide +kernel
theorem dX6_pass_57 : decode cX6_pass 57 = .ok (.ireturn, 1) := by decide +kernel
theorem dX6_sheet_0 : decode cX6_sheet 0 = .ok (.iload_n 1, 1) := by decide +kernel
theorem dX6_sheet_1 : decode cX6_sheet 1 = .ok (.sipush (-180), 3) := by decide +kernel
theorem dX6_sheet_4 : decode cX6_sheet 4 = .ok (.sipush 150, 3) := by decide +kernel
theorem dX6_sheet_7 : decode cX6_sheet 7 = .ok (.invokestatic 67, 3) := by decide +kernel
theorem dX6_sheet_10 : decode cX6_sheet 10 = .ok (.ifCond .eq 23, 3) := by decide +kernel
theorem dX6_sheet_13 : decode cX6_sheet 13 = .ok (.iload_n 2, 1) := by decide +kernel
theorem dX6_sheet_14 : decode cX6_sheet 14 = .ok (.bipush (-60), 2) := by decide +kernel
theorem dX6_sheet_16 : decode cX6_sheet 16 = .ok (.bipush 41, 2) := by decide +kernel
theorem dX6_sheet_18 : decode cX6_sheet 18 = .ok (.invokestatic 67, 3) := by decide +kernel
theorem dX6_sheet_21 : decode cX6_sheet 21 = .ok (.ifCond .eq 12, 3) := by decide +kernel
theorem dX6_sheet_24 : decode cX6_sheet 24 = .ok (.iload_n 3, 1) := by decide +kernel
theorem dX6_sheet_25 : decode cX6_sheet 25 = .ok (.ifCond .eq 18, 3) := by decide +kernel
theorem dX6_sheet_28 : decode cX6_sheet 28 = .ok (.iload_n 3, 1) := by decide +kernel
theorem dX6_sheet_29 : decode cX6_sheet 29 = .ok (.iconst 1, 1) := by decide +kernel
theorem dX6_sheet_30 : decode cX6_sheet 30 = .ok (.if_icmp .eq 13, 3) := by decide +kernel
theorem dX6_sheet_33 : decode cX6_sheet 33 = .ok (.new 47, 3) := by decide +kernel
theorem dX6_sheet_36 : decode cX6_sheet 36 = .ok (.dup, 1) := by decide +kernel
theorem dX6_sheet_37 : decode cX6_sheet 37 = .ok (.ldc 137, 2) := by decide +kernel
theorem dX6_sheet_39 : decode cX6_sheet 39 = .ok (.invokespecial 51, 3) := by decide +kernel
theorem dX6_sheet_42 : decode cX6_sheet 42 = .ok (.athrow, 1) := by decide +kernel
theorem dX6_sheet_43 : decode cX6_sheet 43 = .ok (.aload_n 0, 1) := by decide +kernel
theorem dX6_sheet_44 : decode cX6_sheet 44 = .ok (.getfield 38, 3) := by decide +kernel
theorem dX6_sheet_47 : decode cX6_sheet 47 = .ok (.aload_n 0, 1) := by decide +kernel
theorem dX6_sheet_48 : decode cX6_sheet 48 = .ok (.getfield 24, 3) := by decide +kernel
theorem dX6_sheet_51 : decode cX6_sheet 51 = .ok (.arraylength, 1) := by decide +kernel
theorem dX6_sheet_52 : decode cX6_sheet 52 = .ok (.if_icmp .lt 13, 3) := by decide +kernel
theorem dX6_sheet_55 : decode cX6_sheet 55 = .ok (.new 58, 3) := by decide +kernel
theorem dX6_sheet_58 : decode cX6_sheet 58 = .ok (.dup, 1) := by decide +kernel
theorem dX6_sheet_59 : decode cX6_sheet 59 = .ok (.ldc 139, 2) := by decide +kernel
theorem dX6_sheet_61 : decode cX6_sheet 61 = .ok (.invokespecial 62, 3) := by decide +kernel
theorem dX6_sheet_64 : decode cX6_sheet 64 = .ok (.athrow, 1) := by decide +kernel
theorem dX6_sheet_65 : decode cX6_sheet 65 = .ok (.new 22, 3) := by decide +kernel
theorem dX6_sheet_68 : decode cX6_sheet 68 = .ok (.dup, 1) := by decide +kernel
theorem dX6_sheet_69 : decode cX6_sheet 69 = .ok (.iload_n 1, 1) := by decide +kernel
theorem dX6_sheet_70 : decode cX6_sheet 70 = .ok (.iload_n 2, 1) := by decide +kernel
theorem dX6_sheet_71 : decode cX6_sheet 71 = .ok (.iload_n 3, 1) := by decide +kernel
theorem dX6_sheet_72 : decode cX6_sheet 72 = .ok (.invokespecial 141, 3) := by decide +kernel
theorem dX6_sheet_75 : decode cX6_sheet 75 = .ok (.astore 4, 2) := by decide +kernel
theorem dX6_sheet_77 : decode cX6_sheet 77 = .ok (.iconst 0, 1) := by decide +kernel
theorem dX6_sheet_78 : decode cX6_sheet 78 = .ok (.istore 5, 2) := by decide +kernel
theorem dX6_sheet_80 : decode cX6_sheet 80 = .ok (.iload 5, 2) := by decide +kernel
theorem dX6_sheet_82 : decode cX6_sheet 82 = .ok (.aload_n 0, 1) := by decide +kernel
theorem dX6_sheet_83 : decode cX6_sheet 83 = .ok (.getfield 34, 3) := by decide +kernel
theorem dX6_sheet_86 : decode cX6_sheet 86 = .ok (.if_icmp .ge 31, 3) := by decide +kernel
theorem dX6_sheet_89 : decode cX6_sheet 89 = .ok (.iload 5, 2) := by decide +kernel
theorem dX6_sheet_91 : decode cX6_sheet 91 = .ok (.aload_n 0, 1) := by decide +kernel
theorem dX6_sheet_92 : decode cX6_sheet 92 = .ok (.getfield 18, 3) := by decide +kernel
theorem dX6_sheet_95 : decode cX6_sheet 95 = .ok (.arraylength, 1) := by decide +kernel
theorem dX6_sheet_96 : decode cX6_sheet 96 = .ok (.if_icmp .ge 21, 3) := by decide +kernel
theorem dX6_sheet_99 : decode cX6_sheet 99 = .ok (.aload 4, 2) := by decide +kernel
theorem dX6_sheet_101 : decode cX6_sheet 101 = .ok (.aload_n 0, 1) := by decide +kernel
theorem dX6_sheet_102 : decode cX6_sheet 102 = .ok (.getfield 18, 3) := by decide +kernel
theorem dX6_sheet_105 : decode cX6_sheet 105 = .ok (.iload 5, 2) := by decide +kernel
theorem dX6_sheet_107 : decode cX6_sheet 107 = .ok (.aaload, 1) := by decide +kernel
theorem dX6_sheet_108 : decode cX6_sheet 108 = .ok (.invokevirtual 142, 3) := by decide +kernel
theorem dX6_sheet_111 : decode cX6_sheet 111 = .ok (.iinc 5 1, 3) := by decide +kernel
theorem dX6_sheet_114 : decode cX6_sheet 114 = .ok (.goto (-34), 3) := by decide +kernel
theorem dX6_sheet_117 : decode cX6_sheet 117 = .ok (.aload 4, 2) := by decide +kernel
theorem dX6_sheet_119 : decode cX6_sheet 119 = .ok (.aload_n 0, 1) := by decide +kernel
theorem dX6_sheet_120 : decode cX6_sheet 120 = .ok (.getfield 44, 3) := by decide +kernel
theorem dX6_sheet_123 : decode cX6_sheet 123 = .ok (.invokevirtual 145, 3) := by decide +kernel
theorem dX6_sheet_126 : decode cX6_sheet 126 = .ok (.aload_n 0, 1) := by decide +kernel
theorem dX6_sheet_127 : decode cX6_sheet 127 = .ok (.getfield 24, 3) := by decide +kernel
theorem dX6_sheet_130 : decode cX6_sheet 130 = .ok (.aload_n 0, 1) := by decide +kernel
theorem dX6_sheet_131 : decode cX6_sheet 131 = .ok (.getfield 38, 3) := by decide +kernel
theorem dX6_sheet_134 : decode cX6_sheet 134 = .ok (.aload 4, 2) := by decide +kernel
theorem dX6_sheet_136 : decode cX6_sheet 136 = .ok (.aastore, 1) := by decide +kernel
theorem dX6_sheet_137 : decode cX6_sheet 137 = .ok (.aload_n 0, 1) := by decide +kernel
theorem dX6_sheet_138 : decode cX6_sheet 138 = .ok (.dup, 1) := by decide +kernel
theorem dX6_sheet_139 : decode cX6_sheet 139 = .ok (.getfield 38, 3) := by decide +kernel
theorem dX6_sheet_142 : decode cX6_sheet 142 = .ok (.iconst 1, 1) := by decide +kernel
theorem dX6_sheet_143 : decode cX6_sheet 143 = .ok (.iadd, 1) := by decide +kernel
theorem dX6_sheet_144 : decode cX6_sheet 144 = .ok (.putfield 38, 3) := by decide +kernel
theorem dX6_sheet_147 : decode cX6_sheet 147 = .ok (.aload_n 0, 1) := by decide +kernel
theorem dX6_sheet_148 : decode cX6_sheet 148 = .ok (.getfield 38, 3) := by decide +kernel
theorem dX6_sheet_151 : decode cX6_sheet 151 = .ok (.iconst 1, 1) := by decide +kernel
theorem dX6_sheet_152 : decode cX6_sheet 152 = .ok (.isub, 1) := by decide +kernel
theorem dX6_sheet_153 : decode cX6_sheet 153 = .ok (.ireturn, 1) := by decide +kernel
theorem dX6_dot_0 : decode cX6_dot 0 = .ok (.aload_n 0, 1) := by decide +kernel
theorem dX6_dot_1 : decode cX6_dot 1 = .ok (.iload_n 1, 1) := by decide +kernel
theorem dX6_dot_2 : decode cX6_dot 2 = .ok (.iload_n 2, 1) := by decide +kernel
theorem dX6_dot_3 : decode cX6_dot 3 = .ok (.invokevirtual 148, 3) := by decide +kernel
theorem dX6_dot_6 : decode cX6_dot 6 = .ok (.astore 4, 2) := by decide +kernel
theorem dX6_dot_8 : decode cX6_dot 8 = .ok (.iload_n 3, 1) := by decide +kernel
theorem dX6_dot_9 : decode cX6_dot 9 = .ok (.ifCond .eq 11, 3) := by decide +kernel
theorem dX6_dot_12 : decode cX6_dot 12 = .ok (.aload 4, 2) := by decide +kernel
theorem dX6_dot_14 : decode cX6_dot 14 = .ok (.getfield 152, 3) := by decide +kernel
theorem dX6_dot_17 : decode cX6_dot 17 = .ok (.goto 8, 3) := by decide +kernel
theorem dX6_dot_20 : decode cX6_dot 20 = .ok (.aload 4, 2) := by decide +kernel
theorem dX6_dot_22 : decode cX6_dot 22 = .ok (.getfield 157, 3) := by decide +kernel
theorem dX6_dot_25 : decode cX6_dot 25 = .ok (.ireturn, 1) := by decide +kernel
theorem dX6_side_0 : decode cX6_side 0 = .ok (.aload_n 0, 1) := by decide +kernel
theorem dX6_side_1 : decode cX6_side 1 = .ok (.iload_n 1, 1) := by decide +kernel
theorem dX6_side_2 : decode cX6_side 2 = .ok (.iload_n 2, 1) := by decide +kernel
theorem dX6_side_3 : decode cX6_side 3 = .ok (.invokevirtual 148, 3) := by decide +kernel
theorem dX6_side_6 : decode cX6_side 6 = .ok (.getfield 160, 3) := by decide +kernel
theorem dX6_side_9 : decode cX6_side 9 = .ok (.ireturn, 1) := by decide +kernel
theorem dX6_drawn_0 : decode cX6_drawn 0 = .ok (.aload_n 0, 1) := by decide +kernel
theorem dX6_drawn_1 : decode cX6_drawn 1 = .ok (.iload_n 1, 1) := by decide +kernel
theorem dX6_drawn_2 : decode cX6_drawn 2 = .ok (.invokevirtual 163, 3) := by decide +kernel
theorem dX6_drawn_5 : decode cX6_drawn 5 = .ok (.astore 4, 2) := by decide +kernel
theorem dX6_drawn_7 : decode cX6_drawn 7 = .ok (.iload_n 2, 1) := by decide +kernel
theorem dX6_drawn_8 : decode cX6_drawn 8 = .ok (.iload_n 3, 1) := by decide +kernel
theorem dX6_drawn_9 : decode cX6_drawn 9 = .ok (.invokestatic 167, 3) := by decide +kernel
theorem dX6_drawn_12 : decode cX6_drawn 12 = .ok (.ifCond .ne 13, 3) := by decide +kernel
theorem dX6_drawn_15 : decode cX6_drawn 15 = .ok (.new 115, 3) := by decide +kernel
theorem dX6_drawn_18 : decode cX6_drawn 18 = .ok (.dup, 1) := by decide +kernel
theorem dX6_drawn_19 : decode cX6_drawn 19 = .ok (.ldc 171, 2) := by decide +kernel
theorem dX6_drawn_21 : decode cX6_drawn 21 = .ok (.invokespecial 119, 3) := by decide +kernel
theorem dX6_drawn_24 : decode cX6_drawn 24 = .ok (.athrow, 1) := by decide +kernel
theorem dX6_drawn_25 : decode cX6_drawn 25 = .ok (.aload 4, 2) := by decide +kernel
theorem dX6_drawn_27 : decode cX6_drawn 27 = .ok (.getfield 173, 3) := by decide +kernel
theorem dX6_drawn_30 : decode cX6_drawn 30 = .ok (.iload_n 2, 1) := by decide +kernel
theorem dX6_drawn_31 : decode cX6_drawn 31 = .ok (.iload_n 3, 1) := by decide +kernel
theorem dX6_drawn_32 : decode cX6_drawn 32 = .ok (.invokevirtual 177, 3) := by decide +kernel
theorem dX6_drawn_35 : decode cX6_drawn 35 = .ok (.ireturn, 1) := by decide +kernel
theorem dX6_worth_0 : decode cX6_worth 0 = .ok (.aload_n 0, 1) := by decide +kernel
theorem dX6_worth_1 : decode cX6_worth 1 = .ok (.iload_n 1, 1) := by decide +kernel
theorem dX6_worth_2 : decode cX6_worth 2 = .ok (.invokevirtual 163, 3) := by decide +kernel
theorem dX6_worth_5 : decode cX6_worth 5 = .ok (.invokevirtual 183, 3) := by decide +kernel
theorem dX6_worth_8 : decode cX6_worth 8 = .ok (.ireturn, 1) := by decide +kernel
theorem dX6_best_0 : decode cX6_best 0 = .ok (.aload_n 0, 1) := by decide +kernel
theorem dX6_best_1 : decode cX6_best 1 = .ok (.iload_n 1, 1) := by decide +kernel
theorem dX6_best_2 : decode cX6_best 2 = .ok (.invokevirtual 163, 3) := by decide +kernel
theorem dX6_best_5 : decode cX6_best 5 = .ok (.astore_n 2, 1) := by decide +kernel
theorem dX6_best_6 : decode cX6_best 6 = .ok (.aload_n 2, 1) := by decide +kernel
theorem dX6_best_7 : decode cX6_best 7 = .ok (.getfield 186, 3) := by decide +kernel
theorem dX6_best_10 : decode cX6_best 10 = .ok (.iconst 4, 1) := by decide +kernel
theorem dX6_best_11 : decode cX6_best 11 = .ok (.if_icmp .le 13, 3) := by decide +kernel
theorem dX6_best_14 : decode cX6_best 14 = .ok (.new 58, 3) := by decide +kernel
theorem dX6_best_17 : decode cX6_best 17 = .ok (.dup, 1) := by decide +kernel
theorem dX6_best_18 : decode cX6_best 18 = .ok (.ldc 189, 2) := by decide +kernel
theorem dX6_best_20 : decode cX6_best 20 = .ok (.invokespecial 62, 3) := by decide +kernel
theorem dX6_best_23 : decode cX6_best 23 = .ok (.athrow, 1) := by decide +kernel
theorem dX6_best_24 : decode cX6_best 24 = .ok (.aload_n 2, 1) := by decide +kernel
theorem dX6_best_25 : decode cX6_best 25 = .ok (.invokevirtual 191, 3) := by decide +kernel
theorem dX6_best_28 : decode cX6_best 28 = .ok (.ireturn, 1) := by decide +kernel
theorem dX6_print_0 : decode cX6_print 0 = .ok (.aload_n 0, 1) := by decide +kernel
theorem dX6_print_1 : decode cX6_print 1 = .ok (.getfield 41, 3) := by decide +kernel
theorem dX6_print_4 : decode cX6_print 4 = .ok (.aload_n 0, 1) := by decide +kernel
theorem dX6_print_5 : decode cX6_print 5 = .ok (.getfield 30, 3) := by decide +kernel
theorem dX6_print_8 : decode cX6_print 8 = .ok (.arraylength, 1) := by decide +kernel
theorem dX6_print_9 : decode cX6_print 9 = .ok (.if_icmp .lt 13, 3) := by decide +kernel
theorem dX6_print_12 : decode cX6_print 12 = .ok (.new 58, 3) := by decide +kernel
theorem dX6_print_15 : decode cX6_print 15 = .ok (.dup, 1) := by decide +kernel
theorem dX6_print_16 : decode cX6_print 16 = .ok (.ldc 194, 2) := by decide +kernel
theorem dX6_print_18 : decode cX6_print 18 = .ok (.invokespecial 62, 3) := by decide +kernel
theorem dX6_print_21 : decode cX6_print 21 = .ok (.athrow, 1) := by decide +kernel
theorem dX6_print_22 : decode cX6_print 22 = .ok (.new 28, 3) := by decide +kernel
theorem dX6_print_25 : decode cX6_print 25 = .ok (.dup, 1) := by decide +kernel
theorem dX6_print_26 : decode cX6_print 26 = .ok (.invokespecial 196, 3) := by decide +kernel
theorem dX6_print_29 : decode cX6_print 29 = .ok (.astore_n 1, 1) := by decide +kernel
theorem dX6_print_30 : decode cX6_print 30 = .ok (.iconst 0, 1) := by decide +kernel
theorem dX6_print_31 : decode cX6_print 31 = .ok (.istore_n 2, 1) := by decide +kernel
theorem dX6_print_32 : decode cX6_print 32 = .ok (.iload_n 2, 1) := by decide +kernel
theorem dX6_print_33 : decode cX6_print 33 = .ok (.aload_n 0, 1) := by decide +kernel
theorem dX6_print_34 : decode cX6_print 34 = .ok (.getfield 38, 3) := by decide +kernel
theorem dX6_print_37 : decode cX6_print 37 = .ok (.if_icmp .ge 38, 3) := by decide +kernel
theorem dX6_print_40 : decode cX6_print 40 = .ok (.iload_n 2, 1) := by decide +kernel
theorem dX6_print_41 : decode cX6_print 41 = .ok (.aload_n 0, 1) := by decide +kernel
theorem dX6_print_42 : decode cX6_print 42 = .ok (.getfield 24, 3) := by decide +kernel
theorem dX6_print_45 : decode cX6_print 45 = .ok (.arraylength, 1) := by decide +kernel
theorem dX6_print_46 : decode cX6_print 46 = .ok (.if_icmp .ge 29, 3) := by decide +kernel
theorem dX6_print_49 : decode cX6_print 49 = .ok (.aload_n 0, 1) := by decide +kernel
theorem dX6_print_50 : decode cX6_print 50 = .ok (.getfield 24, 3) := by decide +kernel
theorem dX6_print_53 : decode cX6_print 53 = .ok (.iload_n 2, 1) := by decide +kernel
theorem dX6_print_54 : decode cX6_print 54 = .ok (.aaload, 1) := by decide +kernel
theorem dX6_print_55 : decode cX6_print 55 = .ok (.astore_n 3, 1) := by decide +kernel
theorem dX6_print_56 : decode cX6_print 56 = .ok (.aload_n 3, 1) := by decide +kernel
theorem dX6_print_57 : decode cX6_print 57 = .ok (.ifnull 12, 3) := by decide +kernel
theorem dX6_print_60 : decode cX6_print 60 = .ok (.aload_n 1, 1) := by decide +kernel
theorem dX6_print_61 : decode cX6_print 61 = .ok (.iload_n 2, 1) := by decide +kernel
theorem dX6_print_62 : decode cX6_print 62 = .ok (.aload_n 3, 1) := by decide +kernel
theorem dX6_print_63 : decode cX6_print 63 = .ok (.getfield 173, 3) := by decide +kernel
theorem dX6_print_66 : decode cX6_print 66 = .ok (.invokevirtual 197, 3) := by decide +kernel
theorem dX6_print_69 : decode cX6_print 69 = .ok (.iinc 2 1, 3) := by decide +kernel
theorem dX6_print_72 : decode cX6_print 72 = .ok (.goto (-40), 3) := by decide +kernel
theorem dX6_print_75 : decode cX6_print 75 = .ok (.aload_n 0, 1) := by decide +kernel
theorem dX6_print_76 : decode cX6_print 76 = .ok (.getfield 30, 3) := by decide +kernel
theorem dX6_print_79 : decode cX6_print 79 = .ok (.aload_n 0, 1) := by decide +kernel
theorem dX6_print_80 : decode cX6_print 80 = .ok (.getfield 41, 3) := by decide +kernel
theorem dX6_print_83 : decode cX6_print 83 = .ok (.aload_n 1, 1) := by decide +kernel
theorem dX6_print_84 : decode cX6_print 84 = .ok (.aastore, 1) := by decide +kernel
theorem dX6_print_85 : decode cX6_print 85 = .ok (.aload_n 0, 1) := by decide +kernel
theorem dX6_print_86 : decode cX6_print 86 = .ok (.dup, 1) := by decide +kernel
theorem dX6_print_87 : decode cX6_print 87 = .ok (.getfield 41, 3) := by decide +kernel
theorem dX6_print_90 : decode cX6_print 90 = .ok (.iconst 1, 1) := by decide +kernel
theorem dX6_print_91 : decode cX6_print 91 = .ok (.iadd, 1) := by decide +kernel
theorem dX6_print_92 : decode cX6_print 92 = .ok (.putfield 41, 3) := by decide +kernel
theorem dX6_print_95 : decode cX6_print 95 = .ok (.aload_n 0, 1) := by decide +kernel
theorem dX6_print_96 : decode cX6_print 96 = .ok (.getfield 41, 3) := by decide +kernel
theorem dX6_print_99 : decode cX6_print 99 = .ok (.iconst 1, 1) := by decide +kernel
theorem dX6_print_100 : decode cX6_print 100 = .ok (.isub, 1) := by decide +kernel
theorem dX6_print_101 : decode cX6_print 101 = .ok (.ireturn, 1) := by decide +kernel
theorem dX6_printed_0 : decode cX6_printed 0 = .ok (.aload_n 0, 1) := by decide +kernel
theorem dX6_printed_1 : decode cX6_printed 1 = .ok (.iload_n 1, 1) := by decide +kernel
theorem dX6_printed_2 : decode cX6_printed 2 = .ok (.invokevirtual 201, 3) := by decide +kernel
theorem dX6_printed_5 : decode cX6_printed 5 = .ok (.astore 5, 2) := by decide +kernel
theorem dX6_printed_7 : decode cX6_printed 7 = .ok (.iload_n 2, 1) := by decide +kernel
theorem dX6_printed_8 : decode cX6_printed 8 = .ok (.iconst 0, 1) := by decide +kernel
theorem dX6_printed_9 : decode cX6_printed 9 = .ok (.aload_n 0, 1) := by decide +kernel
theorem dX6_printed_10 : decode cX6_printed 10 = .ok (.getfield 38, 3) := by decide +kernel
theorem dX6_printed_13 : decode cX6_printed 13 = .ok (.iconst 1, 1) := by decide +kernel
theorem dX6_printed_14 : decode cX6_printed 14 = .ok (.isub, 1) := by decide +kernel
theorem dX6_printed_15 : decode cX6_printed 15 = .ok (.invokestatic 67, 3) := by decide +kernel
theorem dX6_printed_18 : decode cX6_printed 18 = .ok (.ifCond .eq 12, 3) := by decide +kernel
theorem dX6_printed_21 : decode cX6_printed 21 = .ok (.iload_n 3, 1) := by decide +kernel
theorem dX6_printed_22 : decode cX6_printed 22 = .ok (.iload 4, 2) := by decide +kernel
theorem dX6_printed_24 : decode cX6_printed 24 = .ok (.invokestatic 167, 3) := by decide +kernel
theorem dX6_printed_27 : decode cX6_printed 27 = .ok (.ifCond .ne 13, 3) := by decide +kernel
theorem dX6_printed_30 : decode cX6_printed 30 = .ok (.new 115, 3) := by decide +kernel
theorem dX6_printed_33 : decode cX6_printed 33 = .ok (.dup, 1) := by decide +kernel
theorem dX6_printed_34 : decode cX6_printed 34 = .ok (.ldc 205, 2) := by decide +kernel
theorem dX6_printed_36 : decode cX6_printed 36 = .ok (.invokespecial 119, 3) := by decide +kernel
theorem dX6_printed_39 : decode cX6_printed 39 = .ok (.athrow, 1) := by decide +kernel
theorem dX6_printed_40 : decode cX6_printed 40 = .ok (.aload 5, 2) := by decide +kernel
theorem dX6_printed_42 : decode cX6_printed 42 = .ok (.iload_n 2, 1) := by decide +kernel
theorem dX6_printed_43 : decode cX6_printed 43 = .ok (.iload_n 3, 1) := by decide +kernel
theorem dX6_printed_44 : decode cX6_printed 44 = .ok (.iload 4, 2) := by decide +kernel
theorem dX6_printed_46 : decode cX6_printed 46 = .ok (.invokevirtual 207, 3) := by decide +kernel
theorem dX6_printed_49 : decode cX6_printed 49 = .ok (.ireturn, 1) := by decide +kernel
theorem dX6_isWithin_0 : decode cX6_isWithin 0 = .ok (.iload_n 0, 1) := by decide +kernel
theorem dX6_isWithin_1 : decode cX6_isWithin 1 = .ok (.iload_n 1, 1) := by decide +kernel
theorem dX6_isWithin_2 : decode cX6_isWithin 2 = .ok (.if_icmp .lt 12, 3) := by decide +kernel
theorem dX6_isWithin_5 : decode cX6_isWithin 5 = .ok (.iload_n 0, 1) := by decide +kernel
theorem dX6_isWithin_6 : decode cX6_isWithin 6 = .ok (.iload_n 2, 1) := by decide +kernel
theorem dX6_isWithin_7 : decode cX6_isWithin 7 = .ok (.if_icmp .gt 7, 3) := by decide +kernel
theorem dX6_isWithin_10 : decode cX6_isWithin 10 = .ok (.iconst 1, 1) := by decide +kernel
theorem dX6_isWithin_11 : decode cX6_isWithin 11 = .ok (.goto 4, 3) := by decide +kernel
theorem dX6_isWithin_14 : decode cX6_isWithin 14 = .ok (.iconst 0, 1) := by decide +kernel
theorem dX6_isWithin_15 : decode cX6_isWithin 15 = .ok (.ireturn, 1) := by decide +kernel
theorem dX6_isOnGrid_0 : decode cX6_isOnGrid 0 = .ok (.iload_n 0, 1) := by decide +kernel
theorem dX6_isOnGrid_1 : decode cX6_isOnGrid 1 = .ok (.iconst 0, 1) := by decide +kernel
theorem dX6_isOnGrid_2 : decode cX6_isOnGrid 2 = .ok (.bipush 23, 2) := by decide +kernel
theorem dX6_isOnGrid_4 : decode cX6_isOnGrid 4 = .ok (.invokestatic 67, 3) := by decide +kernel
theorem dX6_isOnGrid_7 : decode cX6_isOnGrid 7 = .ok (.ifCond .eq 17, 3) := by decide +kernel
theorem dX6_isOnGrid_10 : decode cX6_isOnGrid 10 = .ok (.iload_n 1, 1) := by decide +kernel
theorem dX6_isOnGrid_11 : decode cX6_isOnGrid 11 = .ok (.iconst 0, 1) := by decide +kernel
theorem dX6_isOnGrid_12 : decode cX6_isOnGrid 12 = .ok (.bipush 39, 2) := by decide +kernel
theorem dX6_isOnGrid_14 : decode cX6_isOnGrid 14 = .ok (.invokestatic 67, 3) := by decide +kernel
theorem dX6_isOnGrid_17 : decode cX6_isOnGrid 17 = .ok (.ifCond .eq 7, 3) := by decide +kernel
theorem dX6_isOnGrid_20 : decode cX6_isOnGrid 20 = .ok (.iconst 1, 1) := by decide +kernel
theorem dX6_isOnGrid_21 : decode cX6_isOnGrid 21 = .ok (.goto 4, 3) := by decide +kernel
theorem dX6_isOnGrid_24 : decode cX6_isOnGrid 24 = .ok (.iconst 0, 1) := by decide +kernel
theorem dX6_isOnGrid_25 : decode cX6_isOnGrid 25 = .ok (.ireturn, 1) := by decide +kernel
theorem dX6_placeNumbered_0 : decode cX6_placeNumbered 0 = .ok (.iload_n 1, 1) := by decide +kernel
theorem dX6_placeNumbered_1 : decode cX6_placeNumbered 1 = .ok (.ifCond .lt 29, 3) := by decide +kernel
theorem dX6_placeNumbered_4 : decode cX6_placeNumbered 4 = .ok (.iload_n 1, 1) := by decide +kernel
theorem dX6_placeNumbered_5 : decode cX6_placeNumbered 5 = .ok (.aload_n 0, 1) := by decide +kernel
theorem dX6_placeNumbered_6 : decode cX6_placeNumbered 6 = .ok (.getfield 34, 3) := by decide +kernel
theorem dX6_placeNumbered_9 : decode cX6_placeNumbered 9 = .ok (.if_icmp .ge 21, 3) := by decide +kernel
theorem dX6_placeNumbered_12 : decode cX6_placeNumbered 12 = .ok (.iload_n 1, 1) := by decide +kernel
theorem dX6_placeNumbered_13 : decode cX6_placeNumbered 13 = .ok (.aload_n 0, 1) := by decide +kernel
theorem dX6_placeNumbered_14 : decode cX6_placeNumbered 14 = .ok (.getfield 18, 3) := by decide +kernel
theorem dX6_placeNumbered_17 : decode cX6_placeNumbered 17 = .ok (.arraylength, 1) := by decide +kernel
theorem dX6_placeNumbered_18 : decode cX6_placeNumbered 18 = .ok (.if_icmp .ge 12, 3) := by decide +kernel
theorem dX6_placeNumbered_21 : decode cX6_placeNumbered 21 = .ok (.aload_n 0, 1) := by decide +kernel
theorem dX6_placeNumbered_22 : decode cX6_placeNumbered 22 = .ok (.getfield 18, 3) := by decide +kernel
theorem dX6_placeNumbered_25 : decode cX6_placeNumbered 25 = .ok (.iload_n 1, 1) := by decide +kernel
theorem dX6_placeNumbered_26 : decode cX6_placeNumbered 26 = .ok (.aaload, 1) := by decide +kernel
theorem dX6_placeNumbered_27 : decode cX6_placeNumbered 27 = .ok (.ifnonnull 13, 3) := by decide +kernel
theorem dX6_placeNumbered_30 : decode cX6_placeNumbered 30 = .ok (.new 115, 3) := by decide +kernel
theorem dX6_placeNumbered_33 : decode cX6_placeNumbered 33 = .ok (.dup, 1) := by decide +kernel
theorem dX6_placeNumbered_34 : decode cX6_placeNumbered 34 = .ok (.ldc 210, 2) := by decide +kernel
theorem dX6_placeNumbered_36 : decode cX6_placeNumbered 36 = .ok (.invokespecial 119, 3) := by decide +kernel
theorem dX6_placeNumbered_39 : decode cX6_placeNumbered 39 = .ok (.athrow, 1) := by decide +kernel
theorem dX6_placeNumbered_40 : decode cX6_placeNumbered 40 = .ok (.aload_n 0, 1) := by decide +kernel
theorem dX6_placeNumbered_41 : decode cX6_placeNumbered 41 = .ok (.getfield 18, 3) := by decide +kernel
theorem dX6_placeNumbered_44 : decode cX6_placeNumbered 44 = .ok (.iload_n 1, 1) := by decide +kernel
theorem dX6_placeNumbered_45 : decode cX6_placeNumbered 45 = .ok (.aaload, 1) := by decide +kernel
theorem dX6_placeNumbered_46 : decode cX6_placeNumbered 46 = .ok (.areturn, 1) := by decide +kernel
theorem dX6_sheetNumbered_0 : decode cX6_sheetNumbered 0 = .ok (.iload_n 1, 1) := by decide +kernel
theorem dX6_sheetNumbered_1 : decode cX6_sheetNumbered 1 = .ok (.ifCond .lt 29, 3) := by decide +kernel
theorem dX6_sheetNumbered_4 : decode cX6_sheetNumbered 4 = .ok (.iload_n 1, 1) := by decide +kernel
theorem dX6_sheetNumbered_5 : decode cX6_sheetNumbered 5 = .ok (.aload_n 0, 1) := by decide +kernel
theorem dX6_sheetNumbered_6 : decode cX6_sheetNumbered 6 = .ok (.getfield 38, 3) := by decide +kernel
theorem dX6_sheetNumbered_9 : decode cX6_sheetNumbered 9 = .ok (.if_icmp .ge 21, 3) := by decide +kernel
theorem dX6_sheetNumbered_12 : decode cX6_sheetNumbered 12 = .ok (.iload_n 1, 1) := by decide +kernel
theorem dX6_sheetNumbered_13 : decode cX6_sheetNumbered 13 = .ok (.aload_n 0, 1) := by decide +kernel
theorem dX6_sheetNumbered_14 : decode cX6_sheetNumbered 14 = .ok (.getfield 24, 3) := by decide +kernel
theorem dX6_sheetNumbered_17 : decode cX6_sheetNumbered 17 = .ok (.arraylength, 1) := by decide +kernel
theorem dX6_sheetNumbered_18 : decode cX6_sheetNumbered 18 = .ok (.if_icmp .ge 12, 3) := by decide +kernel
theorem dX6_sheetNumbered_21 : decode cX6_sheetNumbered 21 = .ok (.aload_n 0, 1) := by decide +kernel
theorem dX6_sheetNumbered_22 : decode cX6_sheetNumbered 22 = .ok (.getfield 24, 3) := by decide +kernel
theorem dX6_sheetNumbered_25 : decode cX6_sheetNumbered 25 = .ok (.iload_n 1, 1) := by decide +kernel
theorem dX6_sheetNumbered_26 : decode cX6_sheetNumbered 26 = .ok (.aaload, 1) := by decide +kernel
theorem dX6_sheetNumbered_27 : decode cX6_sheetNumbered 27 = .ok (.ifnonnull 13, 3) := by decide +kernel
theorem dX6_sheetNumbered_30 : decode cX6_sheetNumbered 30 = .ok (.new 115, 3) := by decide +kernel
theorem dX6_sheetNumbered_33 : decode cX6_sheetNumbered 33 = .ok (.dup, 1) := by decide +kernel
theorem dX6_sheetNumbered_34 : decode cX6_sheetNumbered 34 = .ok (.ldc 212, 2) := by decide +kernel
theorem dX6_sheetNumbered_36 : decode cX6_sheetNumbered 36 = .ok (.invokespecial 119, 3) := by decide +kernel
theorem dX6_sheetNumbered_39 : decode cX6_sheetNumbered 39 = .ok (.athrow, 1) := by decide +kernel
theorem dX6_sheetNumbered_40 : decode cX6_sheetNumbered 40 = .ok (.aload_n 0, 1) := by decide +kernel
theorem dX6_sheetNumbered_41 : decode cX6_sheetNumbered 41 = .ok (.getfield 24, 3) := by decide +kernel
theorem dX6_sheetNumbered_44 : decode cX6_sheetNumbered 44 = .ok (.iload_n 1, 1) := by decide +kernel
theorem dX6_sheetNumbered_45 : decode cX6_sheetNumbered 45 = .ok (.aaload, 1) := by decide +kernel
theorem dX6_sheetNumbered_46 : decode cX6_sheetNumbered 46 = .ok (.areturn, 1) := by decide +kernel
theorem dX6_editionNumbered_0 : decode cX6_editionNumbered 0 = .ok (.iload_n 1, 1) := by decide +kernel
theorem dX6_editionNumbered_1 : decode cX6_editionNumbered 1 = .ok (.ifCond .lt 29, 3) := by decide +kernel
theorem dX6_editionNumbered_4 : decode cX6_editionNumbered 4 = .ok (.iload_n 1, 1) := by decide +kernel
theorem dX6_editionNumbered_5 : decode cX6_editionNumbered 5 = .ok (.aload_n 0, 1) := by decide +kernel
theorem dX6_editionNumbered_6 : decode cX6_editionNumbered 6 = .ok (.getfield 41, 3) := by decide +kernel
theorem dX6_editionNumbered_9 : decode cX6_editionNumbered 9 = .ok (.if_icmp .ge 21, 3) := by decide +kernel
theorem dX6_editionNumbered_12 : decode cX6_editionNumbered 12 = .ok (.iload_n 1, 1) := by decide +kernel
theorem dX6_editionNumbered_13 : decode cX6_editionNumbered 13 = .ok (.aload_n 0, 1) := by decide +kernel
theorem dX6_editionNumbered_14 : decode cX6_editionNumbered 14 = .ok (.getfield 30, 3) := by decide +kernel
theorem dX6_editionNumbered_17 : decode cX6_editionNumbered 17 = .ok (.arraylength, 1) := by decide +kernel
theorem dX6_editionNumbered_18 : decode cX6_editionNumbered 18 = .ok (.if_icmp .ge 12, 3) := by decide +kernel
theorem dX6_editionNumbered_21 : decode cX6_editionNumbered 21 = .ok (.aload_n 0, 1) := by decide +kernel
theorem dX6_editionNumbered_22 : decode cX6_editionNumbered 22 = .ok (.getfield 30, 3) := by decide +kernel
theorem dX6_editionNumbered_25 : decode cX6_editionNumbered 25 = .ok (.iload_n 1, 1) := by decide +kernel
theorem dX6_editionNumbered_26 : decode cX6_editionNumbered 26 = .ok (.aaload, 1) := by decide +kernel
theorem dX6_editionNumbered_27 : decode cX6_editionNumbered 27 = .ok (.ifnonnull 13, 3) := by decide +kernel
theorem dX6_editionNumbered_30 : decode cX6_editionNumbered 30 = .ok (.new 115, 3) := by decide +kernel
theorem dX6_editionNumbered_33 : decode cX6_editionNumbered 33 = .ok (.dup, 1) := by decide +kernel
theorem dX6_editionNumbered_34 : decode cX6_editionNumbered 34 = .ok (.ldc 214, 2) := by decide +kernel
theorem dX6_editionNumbered_36 : decode cX6_editionNumbered 36 = .ok (.invokespecial 119, 3) := by decide +kernel
theorem dX6_editionNumbered_39 : decode cX6_editionNumbered 39 = .ok (.athrow, 1) := by decide +kernel
theorem dX6_editionNumbered_40 : decode cX6_editionNumbered 40 = .ok (.aload_n 0, 1) := by decide +kernel
theorem dX6_editionNumbered_41 : decode cX6_editionNumbered 41 = .ok (.getfield 30, 3) := by decide +kernel
theorem dX6_editionNumbered_44 : decode cX6_editionNumbered 44 = .ok (.iload_n 1, 1) := by decide +kernel
theorem dX6_editionNumbered_45 : decode cX6_editionNumbered 45 = .ok (.aaload, 1) := by decide +kernel
theorem dX6_editionNumbered_46 : decode cX6_editionNumbered 46 = .ok (.areturn, 1) := by decide +kernel
theorem dX6_spotOn_0 : decode cX6_spotOn 0 = .ok (.aload_n 0, 1) := by decide +kernel
theorem dX6_spotOn_1 : decode cX6_spotOn 1 = .ok (.iload_n 1, 1) := by decide +kernel
theorem dX6_spotOn_2 : decode cX6_spotOn 2 = .ok (.invokevirtual 163, 3) := by decide +kernel
theorem dX6_spotOn_5 : decode cX6_spotOn 5 = .ok (.iload_n 2, 1) := by decide +kernel
theorem dX6_spotOn_6 : decode cX6_spotOn 6 = .ok (.invokevirtual 216, 3) := by decide +kernel
theorem dX6_spotOn_9 : decode cX6_spotOn 9 = .ok (.astore_n 3, 1) := by decide +kernel
theorem dX6_spotOn_10 : decode cX6_spotOn 10 = .ok (.aload_n 3, 1) := by decide +kernel
theorem dX6_spotOn_11 : decode cX6_spotOn 11 = .ok (.ifnonnull 13, 3) := by decide +kernel
theorem dX6_spotOn_14 : decode cX6_spotOn 14 = .ok (.new 115, 3) := by decide +kernel
theorem dX6_spotOn_17 : decode cX6_spotOn 17 = .ok (.dup, 1) := by decide +kernel
theorem dX6_spotOn_18 : decode cX6_spotOn 18 = .ok (.ldc 210, 2) := by decide +kernel
theorem dX6_spotOn_20 : decode cX6_spotOn 20 = .ok (.invokespecial 119, 3) := by decide +kernel
theorem dX6_spotOn_23 : decode cX6_spotOn 23 = .ok (.athrow, 1) := by decide +kernel
theorem dX6_spotOn_24 : decode cX6_spotOn 24 = .ok (.aload_n 3, 1) := by decide +kernel
theorem dX6_spotOn_25 : decode cX6_spotOn 25 = .ok (.areturn, 1) := by decide +kernel
theorem dX6_showOnAllSheets_0 : decode cX6_showOnAllSheets 0 = .ok (.iconst 0, 1) := by decide +kernel
theorem dX6_showOnAllSheets_1 : decode cX6_showOnAllSheets 1 = .ok (.istore_n 2, 1) := by decide +kernel
theorem dX6_showOnAllSheets_2 : decode cX6_showOnAllSheets 2 = .ok (.iload_n 2, 1) := by decide +kernel
theorem dX6_showOnAllSheets_3 : decode cX6_showOnAllSheets 3 = .ok (.aload_n 0, 1) := by decide +kernel
theorem dX6_showOnAllSheets_4 : decode cX6_showOnAllSheets 4 = .ok (.getfield 38, 3) := by decide +kernel
theorem dX6_showOnAllSheets_7 : decode cX6_showOnAllSheets 7 = .ok (.if_icmp .ge 42, 3) := by decide +kernel
theorem dX6_showOnAllSheets_10 : decode cX6_showOnAllSheets 10 = .ok (.iload_n 2, 1) := by decide +kernel
theorem dX6_showOnAllSheets_11 : decode cX6_showOnAllSheets 11 = .ok (.aload_n 0, 1) := by decide +kernel
theorem dX6_showOnAllSheets_12 : decode cX6_showOnAllSheets 12 = .ok (.getfield 24, 3) := by decide +kernel
theorem dX6_showOnAllSheets_15 : decode cX6_showOnAllSheets 15 = .ok (.arraylength, 1) := by decide +kernel
theorem dX6_showOnAllSheets_16 : decode cX6_showOnAllSheets 16 = .ok (.if_icmp .ge 33, 3) := by decide +kernel
theorem dX6_showOnAllSheets_19 : decode cX6_showOnAllSheets 19 = .ok (.aload_n 0, 1) := by decide +kernel
theorem dX6_showOnAllSheets_20 : decode cX6_showOnAllSheets 20 = .ok (.getfield 24, 3) := by decide +kernel
theorem dX6_showOnAllSheets_23 : decode cX6_showOnAllSheets 23 = .ok (.iload_n 2, 1) := by decide +kernel
theorem dX6_showOnAllSheets_24 : decode cX6_showOnAllSheets 24 = .ok (.aaload, 1) := by decide +kernel
theorem dX6_showOnAllSheets_25 : decode cX6_showOnAllSheets 25 = .ok (.astore_n 3, 1) := by decide +kernel
theorem dX6_showOnAllSheets_26 : decode cX6_showOnAllSheets 26 = .ok (.aload_n 3, 1) := by decide +kernel
theorem dX6_showOnAllSheets_27 : decode cX6_showOnAllSheets 27 = .ok (.ifnull 16, 3) := by decide +kernel
theorem dX6_showOnAllSheets_30 : decode cX6_showOnAllSheets 30 = .ok (.aload_n 3, 1) := by decide +kernel
theorem dX6_showOnAllSheets_31 : decode cX6_showOnAllSheets 31 = .ok (.aload_n 1, 1) := by decide +kernel
theorem dX6_showOnAllSheets_32 : decode cX6_showOnAllSheets 32 = .ok (.invokevirtual 142, 3) := by decide +kernel
theorem dX6_showOnAllSheets_35 : decode cX6_showOnAllSheets 35 = .ok (.aload_n 3, 1) := by decide +kernel
theorem dX6_showOnAllSheets_36 : decode cX6_showOnAllSheets 36 = .ok (.aload_n 0, 1) := by decide +kernel
theorem dX6_showOnAllSheets_37 : decode cX6_showOnAllSheets 37 = .ok (.getfield 44, 3) := by decide +kernel
theorem dX6_showOnAllSheets_40 : decode cX6_showOnAllSheets 40 = .ok (.invokevirtual 145, 3) := by decide +kernel
theorem dX6_showOnAllSheets_43 : decode cX6_showOnAllSheets 43 = .ok (.iinc 2 1, 3) := by decide +kernel
theorem dX6_showOnAllSheets_46 : decode cX6_showOnAllSheets 46 = .ok (.goto (-44), 3) := by decide +kernel
theorem dX6_showOnAllSheets_49 : decode cX6_showOnAllSheets 49 = .ok (.return_, 1) := by decide +kernel
theorem dX6_placeAllSheetsAnew_0 : decode cX6_placeAllSheetsAnew 0 = .ok (.iconst 0, 1) := by decide +kernel
theorem dX6_placeAllSheetsAnew_1 : decode cX6_placeAllSheetsAnew 1 = .ok (.istore_n 2, 1) := by decide +kernel
theorem dX6_placeAllSheetsAnew_2 : decode cX6_placeAllSheetsAnew 2 = .ok (.iconst 0, 1) := by decide +kernel
theorem dX6_placeAllSheetsAnew_3 : decode cX6_placeAllSheetsAnew 3 = .ok (.istore_n 3, 1) := by decide +kernel
theorem dX6_placeAllSheetsAnew_4 : decode cX6_placeAllSheetsAnew 4 = .ok (.iload_n 3, 1) := by decide +kernel
theorem dX6_placeAllSheetsAnew_5 : decode cX6_placeAllSheetsAnew 5 = .ok (.aload_n 0, 1) := by decide +kernel
theorem dX6_placeAllSheetsAnew_6 : decode cX6_placeAllSheetsAnew 6 = .ok (.getfield 38, 3) := by decide +kernel
theorem dX6_placeAllSheetsAnew_9 : decode cX6_placeAllSheetsAnew 9 = .ok (.if_icmp .ge 49, 3) := by decide +kernel
theorem dX6_placeAllSheetsAnew_12 : decode cX6_placeAllSheetsAnew 12 = .ok (.iload_n 3, 1) := by decide +kernel
theorem dX6_placeAllSheetsAnew_13 : decode cX6_placeAllSheetsAnew 13 = .ok (.aload_n 0, 1) := by decide +kernel
theorem dX6_placeAllSheetsAnew_14 : decode cX6_placeAllSheetsAnew 14 = .ok (.getfield 24, 3) := by decide +kernel
theorem dX6_placeAllSheetsAnew_17 : decode cX6_placeAllSheetsAnew 17 = .ok (.arraylength, 1) := by decide +kernel
theorem dX6_placeAllSheetsAnew_18 : decode cX6_placeAllSheetsAnew 18 = .ok (.if_icmp .ge 40, 3) := by decide +kernel
theorem dX6_placeAllSheetsAnew_21 : decode cX6_placeAllSheetsAnew 21 = .ok (.aload_n 0, 1) := by decide +kernel
theorem dX6_placeAllSheetsAnew_22 : decode cX6_placeAllSheetsAnew 22 = .ok (.getfield 24, 3) := by decide +kernel
theorem dX6_placeAllSheetsAnew_25 : decode cX6_placeAllSheetsAnew 25 = .ok (.iload_n 3, 1) := by decide +kernel
theorem dX6_placeAllSheetsAnew_26 : decode cX6_placeAllSheetsAnew 26 = .ok (.aaload, 1) := by decide +kernel
theorem dX6_placeAllSheetsAnew_27 : decode cX6_placeAllSheetsAnew 27 = .ok (.astore 4, 2) := by decide +kernel
theorem dX6_placeAllSheetsAnew_29 : decode cX6_placeAllSheetsAnew 29 = .ok (.aload 4, 2) := by decide +kernel
theorem dX6_placeAllSheetsAnew_31 : decode cX6_placeAllSheetsAnew 31 = .ok (.ifnull 21, 3) := by decide +kernel
theorem dX6_placeAllSheetsAnew_34 : decode cX6_placeAllSheetsAnew 34 = .ok (.aload 4, 2) := by decide +kernel
theorem dX6_placeAllSheetsAnew_36 : decode cX6_placeAllSheetsAnew 36 = .ok (.aload_n 0, 1) := by decide +kernel
theorem dX6_placeAllSheetsAnew_37 : decode cX6_placeAllSheetsAnew 37 = .ok (.getfield 44, 3) := by decide +kernel
theorem dX6_placeAllSheetsAnew_40 : decode cX6_placeAllSheetsAnew 40 = .ok (.invokevirtual 145, 3) := by decide +kernel
theorem dX6_placeAllSheetsAnew_43 : decode cX6_placeAllSheetsAnew 43 = .ok (.iload_n 2, 1) := by decide +kernel
theorem dX6_placeAllSheetsAnew_44 : decode cX6_placeAllSheetsAnew 44 = .ok (.aload 4, 2) := by decide +kernel
theorem dX6_placeAllSheetsAnew_46 : decode cX6_placeAllSheetsAnew 46 = .ok (.iload_n 1, 1) := by decide +kernel
theorem dX6_placeAllSheetsAnew_47 : decode cX6_placeAllSheetsAnew 47 = .ok (.invokevirtual 220, 3) := by decide +kernel
theorem dX6_placeAllSheetsAnew_50 : decode cX6_placeAllSheetsAnew 50 = .ok (.iadd, 1) := by decide +kernel
theorem dX6_placeAllSheetsAnew_51 : decode cX6_placeAllSheetsAnew 51 = .ok (.istore_n 2, 1) := by decide +kernel
theorem dX6_placeAllSheetsAnew_52 : decode cX6_placeAllSheetsAnew 52 = .ok (.iinc 3 1, 3) := by decide +kernel
theorem dX6_placeAllSheetsAnew_55 : decode cX6_placeAllSheetsAnew 55 = .ok (.goto (-51), 3) := by decide +kernel
theorem dX6_placeAllSheetsAnew_58 : decode cX6_placeAllSheetsAnew 58 = .ok (.iload_n 2, 1) := by decide +kernel
theorem dX6_placeAllSheetsAnew_59 : decode cX6_placeAllSheetsAnew 59 = .ok (.ireturn, 1) := by decide +kernel
theorem dX7_init_0 : decode cX7_init 0 = .ok (.aload_n 0, 1) := by decide +kernel
theorem dX7_init_1 : decode cX7_init 1 = .ok (.invokespecial 1, 3) := by decide +kernel
theorem dX7_init_4 : decode cX7_init 4 = .ok (.aload_n 0, 1) := by decide +kernel
theorem dX7_init_5 : decode cX7_init 5 = .ok (.bipush 8, 2) := by decide +kernel
theorem dX7_init_7 : decode cX7_init 7 = .ok (.newarray .char, 2) := by decide +kernel
theorem dX7_init_9 : decode cX7_init 9 = .ok (.putfield 7, 3) := by decide +kernel
theorem dX7_init_12 : decode cX7_init 12 = .ok (.aload_n 0, 1) := by decide +kernel
theorem dX7_init_13 : decode cX7_init 13 = .ok (.bipush 14, 2) := by decide +kernel
theorem dX7_init_15 : decode cX7_init 15 = .ok (.newarray .int, 2) := by decide +kernel
theorem dX7_init_17 : decode cX7_init 17 = .ok (.putfield 13, 3) := by decide +kernel
theorem dX7_init_20 : decode cX7_init 20 = .ok (.aload_n 0, 1) := by decide +kernel
theorem dX7_init_21 : decode cX7_init 21 = .ok (.bipush 14, 2) := by decide +kernel
theorem dX7_init_23 : decode cX7_init 23 = .ok (.newarray .int, 2) := by decide +kernel
theorem dX7_init_25 : decode cX7_init 25 = .ok (.putfield 17, 3) := by decide +kernel
theorem dX7_init_28 : decode cX7_init 28 = .ok (.aload_n 0, 1) := by decide +kernel
theorem dX7_init_29 : decode cX7_init 29 = .ok (.bipush 14, 2) := by decide +kernel
theorem dX7_init_31 : decode cX7_init 31 = .ok (.newarray .int, 2) := by decide +kernel
theorem dX7_init_33 : decode cX7_init 33 = .ok (.putfield 20, 3) := by decide +kernel
theorem dX7_init_36 : decode cX7_init 36 = .ok (.aload_n 0, 1) := by decide +kernel
theorem dX7_init_37 : decode cX7_init 37 = .ok (.bipush 14, 2) := by decide +kernel
theorem dX7_init_39 : decode cX7_init 39 = .ok (.newarray .int, 2) := by decide +kernel
theorem dX7_init_41 : decode cX7_init 41 = .ok (.putfield 23, 3) := by decide +kernel
theorem dX7_init_44 : decode cX7_init 44 = .ok (.aload_n 0, 1) := by decide +kernel
theorem dX7_init_45 : decode cX7_init 45 = .ok (.bipush 84, 2) := by decide +kernel
theorem dX7_init_47 : decode cX7_init 47 = .ok (.newarray .int, 2) := by decide +kernel
theorem dX7_init_49 : decode cX7_init 49 = .ok (.putfield 26, 3) := by decide +kernel
theorem dX7_init_52 : decode cX7_init 52 = .ok (.aload_n 0, 1) := by decide +kernel
theorem dX7_init_53 : decode cX7_init 53 = .ok (.bipush 84, 2) := by decide +kernel
theorem dX7_init_55 : decode cX7_init 55 = .ok (.newarray .int, 2) := by decide +kernel
theorem dX7_init_57 : decode cX7_init 57 = .ok (.putfield 29, 3) := by decide +kernel
theorem dX7_init_60 : decode cX7_init 60 = .ok (.aload_n 0, 1) := by decide +kernel
theorem dX7_init_61 : decode cX7_init 61 = .ok (.sipush 672, 3) := by decide +kernel
theorem dX7_init_64 : decode cX7_init 64 = .ok (.newarray .char, 2) := by decide +kernel
theorem dX7_init_66 : decode cX7_init 66 = .ok (.putfield 32, 3) := by decide +kernel
theorem dX7_init_69 : decode cX7_init 69 = .ok (.aload_n 0, 1) := by decide +kernel
theorem dX7_init_70 : decode cX7_init 70 = .ok (.iconst 4, 1) := by decide +kernel
theorem dX7_init_71 : decode cX7_init 71 = .ok (.newarray .int, 2) := by decide +kernel
theorem dX7_init_73 : decode cX7_init 73 = .ok (.putfield 35, 3) := by decide +kernel
theorem dX7_init_76 : decode cX7_init 76 = .ok (.aload_n 0, 1) := by decide +kernel
theorem dX7_init_77 : decode cX7_init 77 = .ok (.iconst 4, 1) := by decide +kernel
theorem dX7_init_78 : decode cX7_init 78 = .ok (.newarray .int, 2) := by decide +kernel
theorem dX7_init_80 : decode cX7_init 80 = .ok (.putfield 38, 3) := by decide +kernel
theorem dX7_init_83 : decode cX7_init 83 = .ok (.aload_n 0, 1) := by decide +kernel
theorem dX7_init_84 : decode cX7_init 84 = .ok (.iconst 4, 1) := by decide +kernel
theorem dX7_init_85 : decode cX7_init 85 = .ok (.newarray .int, 2) := by decide +kernel
theorem dX7_init_87 : decode cX7_init 87 = .ok (.putfield 41, 3) := by decide +kernel
theorem dX7_init_90 : decode cX7_init 90 = .ok (.aload_n 0, 1) := by decide +kernel
theorem dX7_init_91 : decode cX7_init 91 = .ok (.bipush 14, 2) := by decide +kernel
theorem dX7_init_93 : decode cX7_init 93 = .ok (.newarray .int, 2) := by decide +kernel
theorem dX7_init_95 : decode cX7_init 95 = .ok (.putfield 44, 3) := by decide +kernel
theorem dX7_init_98 : decode cX7_init 98 = .ok (.aload_n 0, 1) := by decide +kernel
theorem dX7_init_99 : decode cX7_init 99 = .ok (.bipush 14, 2) := by decide +kernel
theorem dX7_init_101 : decode cX7_init 101 = .ok (.newarray .int, 2) := by decide +kernel
theorem dX7_init_103 : decode cX7_init 103 = .ok (.putfield 47, 3) := by decide +kernel
theorem dX7_init_106 : decode cX7_init 106 = .ok (.aload_n 0, 1) := by decide +kernel
theorem dX7_init_107 : decode cX7_init 107 = .ok (.bipush 14, 2) := by decide +kernel
theorem dX7_init_109 : decode cX7_init 109 = .ok (.newarray .int, 2) := by decide +kernel
theorem dX7_init_111 : decode cX7_init 111 = .ok (.putfield 50, 3) := by decide +kernel
theorem dX7_init_114 : decode cX7_init 114 = .ok (.aload_n 0, 1) := by decide +kernel
theorem dX7_init_115 : decode cX7_init 115 = .ok (.sipush 960, 3) := by decide +kernel
theorem dX7_init_118 : decode cX7_init 118 = .ok (.newarray .char, 2) := by decide +kernel
theorem dX7_init_120 : decode cX7_init 120 = .ok (.putfield 53, 3) := by decide +kernel
theorem dX7_init_123 : decode cX7_init 123 = .ok (.aload_n 0, 1) := by decide +kernel
theorem dX7_init_124 : decode cX7_init 124 = .ok (.bipush 56, 2) := by decide +kernel
theorem dX7_init_126 : decode cX7_init 126 = .ok (.newarray .int, 2) := by decide +kernel
theorem dX7_init_128 : decode cX7_init 128 = .ok (.putfield 56, 3) := by decide +kernel
theorem dX7_init_131 : decode cX7_init 131 = .ok (.aload_n 0, 1) := by decide +kernel
theorem dX7_init_132 : decode cX7_init 132 = .ok (.iconst 4, 1) := by decide +kernel
theorem dX7_init_133 : decode cX7_init 133 = .ok (.newarray .int, 2) := by decide +kernel
theorem dX7_init_135 : decode cX7_init 135 = .ok (.putfield 59, 3) := by decide +kernel
theorem dX7_init_138 : decode cX7_init 138 = .ok (.aload_n 0, 1) := by decide +kernel
theorem dX7_init_139 : decode cX7_init 139 = .ok (.iconst 5, 1) := by decide +kernel
theorem dX7_init_140 : decode cX7_init 140 = .ok (.newarray .int, 2) := by decide +kernel
theorem dX7_init_142 : decode cX7_init 142 = .ok (.putfield 62, 3) := by decide +kernel
theorem dX7_init_145 : decode cX7_init 145 = .ok (.aload_n 0, 1) := by decide +kernel
theorem dX7_init_146 : decode cX7_init 146 = .ok (.iconst 5, 1) := by decide +kernel
theorem dX7_init_147 : decode cX7_init 147 = .ok (.newarray .int, 2) := by decide +kernel
theorem dX7_init_149 : decode cX7_init 149 = .ok (.putfield 65, 3) := by decide +kernel
theorem dX7_init_152 : decode cX7_init 152 = .ok (.aload_n 0, 1) := by decide +kernel
theorem dX7_init_153 : decode cX7_init 153 = .ok (.bipush 70, 2) := by decide +kernel
theorem dX7_init_155 : decode cX7_init 155 = .ok (.newarray .int, 2) := by decide +kernel
theorem dX7_init_157 : decode cX7_init 157 = .ok (.putfield 68, 3) := by decide +kernel
theorem dX7_init_160 : decode cX7_init 160 = .ok (.aload_n 0, 1) := by decide +kernel
theorem dX7_init_161 : decode cX7_init 161 = .ok (.sipush 280, 3) := by decide +kernel
theorem dX7_init_164 : decode cX7_init 164 = .ok (.newarray .int, 2) := by decide +kernel
theorem dX7_init_166 : decode cX7_init 166 = .ok (.putfield 71, 3) := by decide +kernel
theorem dX7_init_169 : decode cX7_init 169 = .ok (.return_, 1) := by decide +kernel
theorem dX7_thrown_0 : decode cX7_thrown 0 = .ok (.aload_n 0, 1) := by decide +kernel
theorem dX7_thrown_1 : decode cX7_thrown 1 = .ok (.getfield 74, 3) := by decide +kernel
theorem dX7_thrown_4 : decode cX7_thrown 4 = .ok (.ireturn, 1) := by decide +kernel
theorem dX7_in_0 : decode cX7_in 0 = .ok (.iload_n 0, 1) := by decide +kernel
theorem dX7_in_1 : decode cX7_in 1 = .ok (.iload_n 1, 1) := by decide +kernel
theorem dX7_in_2 : decode cX7_in 2 = .ok (.if_icmp .lt 12, 3) := by decide +kernel
theorem dX7_in_5 : decode cX7_in 5 = .ok (.iload_n 0, 1) := by decide +kernel
theorem dX7_in_6 : decode cX7_in 6 = .ok (.iload_n 2, 1) := by decide +kernel
theorem dX7_in_7 : decode cX7_in 7 = .ok (.if_icmp .gt 7, 3) := by decide +kernel
theorem dX7_in_10 : decode cX7_in 10 = .ok (.iconst 1, 1) := by decide +kernel
theorem dX7_in_11 : decode cX7_in 11 = .ok (.goto 4, 3) := by decide +kernel
theorem dX7_in_14 : decode cX7_in 14 = .ok (.iconst 0, 1) := by decide +kernel
theorem dX7_in_15 : decode cX7_in 15 = .ok (.ireturn, 1) := by decide +kernel
theorem dX7_goes_0 : decode cX7_goes 0 = .ok (.aload_n 0, 1) := by decide +kernel
theorem dX7_goes_1 : decode cX7_goes 1 = .ok (.iload_n 1, 1) := by decide +kernel
theorem dX7_goes_2 : decode cX7_goes 2 = .ok (.ifCond .ne 7, 3) := by decide +kernel
theorem dX7_goes_5 : decode cX7_goes 5 = .ok (.iconst 1, 1) := by decide +kernel
theorem dX7_goes_6 : decode cX7_goes 6 = .ok (.goto 20, 3) := by decide +kernel
theorem dX7_goes_9 : decode cX7_goes 9 = .ok (.iload_n 2, 1) := by decide +kernel
theorem dX7_goes_10 : decode cX7_goes 10 = .ok (.ifCond .ne 7, 3) := by decide +kernel
theorem dX7_goes_13 : decode cX7_goes 13 = .ok (.iconst 2, 1) := by decide +kernel
theorem dX7_goes_14 : decode cX7_goes 14 = .ok (.goto 12, 3) := by decide +kernel
theorem dX7_goes_17 : decode cX7_goes 17 = .ok (.iload_n 3, 1) := by decide +kernel
theorem dX7_goes_18 : decode cX7_goes 18 = .ok (.ifCond .ne 7, 3) := by decide +kernel
theorem dX7_goes_21 : decode cX7_goes 21 = .ok (.iconst 3, 1) := by decide +kernel
theorem dX7_goes_22 : decode cX7_goes 22 = .ok (.goto 4, 3) := by decide +kernel
theorem dX7_goes_25 : decode cX7_goes 25 = .ok (.iconst 0, 1) := by decide +kernel
theorem dX7_goes_26 : decode cX7_goes 26 = .ok (.putfield 74, 3) := by decide +kernel
theorem dX7_goes_29 : decode cX7_goes 29 = .ok (.aload_n 0, 1) := by decide +kernel
theorem dX7_goes_30 : decode cX7_goes 30 = .ok (.getfield 74, 3) := by decide +kernel
theorem dX7_goes_33 : decode cX7_goes 33 = .ok (.ifCond .ne 7, 3) := by decide +kernel
theorem dX7_goes_36 : decode cX7_goes 36 = .ok (.iconst 1, 1) := by decide +kernel
theorem dX7_goes_37 : decode cX7_goes 37 = .ok (.goto 4, 3) := by decide +kernel
theorem dX7_goes_40 : decode cX7_goes 40 = .ok (.iconst 0, 1) := by decide +kernel
theorem dX7_goes_41 : decode cX7_goes 41 = .ok (.ireturn, 1) := by decide +kernel
theorem dX7_isPlace_0 : decode cX7_isPlace 0 = .ok (.iload_n 1, 1) := by decide +kernel
theorem dX7_isPlace_1 : decode cX7_isPlace 1 = .ok (.iconst 0, 1) := by decide +kernel
theorem dX7_isPlace_2 : decode cX7_isPlace 2 = .ok (.aload_n 0, 1) := by decide +kernel
theorem dX7_isPlace_3 : decode cX7_isPlace 3 = .ok (.getfield 78, 3) := by decide +kernel
theorem dX7_isPlace_6 : decode cX7_isPlace 6 = .ok (.iconst 1, 1) := by decide +kernel
theorem dX7_isPlace_7 : decode cX7_isPlace 7 = .ok (.isub, 1) := by decide +kernel
theorem dX7_isPlace_8 : decode cX7_isPlace 8 = .ok (.invokestatic 81, 3) := by decide +kernel
theorem dX7_isPlace_11 : decode cX7_isPlace 11 = .ok (.ireturn, 1) := by decide +kernel
theorem dX7_isSheet_0 : decode cX7_isSheet 0 = .ok (.iload_n 1, 1) := by decide +kernel
theorem dX7_isSheet_1 : decode cX7_isSheet 1 = .ok (.iconst 0, 1) := by decide +kernel
theorem dX7_isSheet_2 : decode cX7_isSheet 2 = .ok (.aload_n 0, 1) := by decide +kernel
theorem dX7_isSheet_3 : decode cX7_isSheet 3 = .ok (.getfield 85, 3) := by decide +kernel
theorem dX7_isSheet_6 : decode cX7_isSheet 6 = .ok (.iconst 1, 1) := by decide +kernel
theorem dX7_isSheet_7 : decode cX7_isSheet 7 = .ok (.isub, 1) := by decide +kernel
theorem dX7_isSheet_8 : decode cX7_isSheet 8 = .ok (.invokestatic 81, 3) := by decide +kernel
theorem dX7_isSheet_11 : decode cX7_isSheet 11 = .ok (.ireturn, 1) := by decide +kernel
theorem dX7_letter_0 : decode cX7_letter 0 = .ok (.aload_n 0, 1) := by decide +kernel
theorem dX7_letter_1 : decode cX7_letter 1 = .ok (.iload_n 1, 1) := by decide +kernel
theorem dX7_letter_2 : decode cX7_letter 2 = .ok (.bipush 97, 2) := by decide +kernel
theorem dX7_letter_4 : decode cX7_letter 4 = .ok (.bipush 122, 2) := by decide +kernel
theorem dX7_letter_6 : decode cX7_letter 6 = .ok (.invokestatic 81, 3) := by decide +kernel
theorem dX7_letter_9 : decode cX7_letter 9 = .ok (.aload_n 0, 1) := by decide +kernel
theorem dX7_letter_10 : decode cX7_letter 10 = .ok (.getfield 88, 3) := by decide +kernel
theorem dX7_letter_13 : decode cX7_letter 13 = .ok (.bipush 8, 2) := by decide +kernel
theorem dX7_letter_15 : decode cX7_letter 15 = .ok (.if_icmp .ge 7, 3) := by decide +kernel
theorem dX7_letter_18 : decode cX7_letter 18 = .ok (.iconst 1, 1) := by decide +kernel
theorem dX7_letter_19 : decode cX7_letter 19 = .ok (.goto 4, 3) := by decide +kernel
theorem dX7_letter_22 : decode cX7_letter 22 = .ok (.iconst 0, 1) := by decide +kernel
theorem dX7_letter_23 : decode cX7_letter 23 = .ok (.iconst 1, 1) := by decide +kernel
theorem dX7_letter_24 : decode cX7_letter 24 = .ok (.invokevirtual 91, 3) := by decide +kernel
theorem dX7_letter_27 : decode cX7_letter 27 = .ok (.ifCond .ne 5, 3) := by decide +kernel
theorem dX7_letter_30 : decode cX7_letter 30 = .ok (.iconst 0, 1) := by decide +kernel
theorem dX7_letter_31 : decode cX7_letter 31 = .ok (.ireturn, 1) := by decide +kernel
theorem dX7_letter_32 : decode cX7_letter 32 = .ok (.aload_n 0, 1) := by decide +kernel
theorem dX7_letter_33 : decode cX7_letter 33 = .ok (.getfield 7, 3) := by decide +kernel
theorem dX7_letter_36 : decode cX7_letter 36 = .ok (.aload_n 0, 1) := by decide +kernel
theorem dX7_letter_37 : decode cX7_letter 37 = .ok (.getfield 88, 3) := by decide +kernel
theorem dX7_letter_40 : decode cX7_letter 40 = .ok (.iload_n 1, 1) := by decide +kernel
theorem dX7_letter_41 : decode cX7_letter 41 = .ok (.castore, 1) := by decide +kernel
theorem dX7_letter_42 : decode cX7_letter 42 = .ok (.aload_n 0, 1) := by decide +kernel
theorem dX7_letter_43 : decode cX7_letter 43 = .ok (.dup, 1) := by decide +kernel
theorem dX7_letter_44 : decode cX7_letter 44 = .ok (.getfield 88, 3) := by decide +kernel
theorem dX7_letter_47 : decode cX7_letter 47 = .ok (.iconst 1, 1) := by decide +kernel
theorem dX7_letter_48 : decode cX7_letter 48 = .ok (.iadd, 1) := by decide +kernel
theorem dX7_letter_49 : decode cX7_letter 49 = .ok (.putfield 88, 3) := by decide +kernel
theorem dX7_letter_52 : decode cX7_letter 52 = .ok (.aload_n 0, 1) := by decide +kernel
theorem dX7_letter_53 : decode cX7_letter 53 = .ok (.getfield 88, 3) := by decide +kernel
theorem dX7_letter_56 : decode cX7_letter 56 = .ok (.ireturn, 1) := by decide +kernel
theorem dX7_place_0 : decode cX7_place 0 = .ok (.aload_n 0, 1) := by decide +kernel
theorem dX7_place_1 : decode cX7_place 1 = .ok (.iload_n 1, 1) := by decide +kernel
theorem dX7_place_2 : decode cX7_place 2 = .ok (.sipush (-180), 3) := by decide +kernel
theorem dX7_place_5 : decode cX7_place 5 = .ok (.sipush 179, 3) := by decide +kernel
theorem dX7_place_8 : decode cX7_place 8 = .ok (.invokestatic 81, 3) := by decide +kernel
theorem dX7_place_11 : decode cX7_place 11 = .ok (.ifCond .eq 27, 3) := by decide +kernel
theorem dX7_place_14 : decode cX7_place 14 = .ok (.iload_n 2, 1) := by decide +kernel
theorem dX7_place_15 : decode cX7_place 15 = .ok (.bipush (-60), 2) := by decide +kernel
theorem dX7_place_17 : decode cX7_place 17 = .ok (.bipush 60, 2) := by decide +kernel
theorem dX7_place_19 : decode cX7_place 19 = .ok (.invokestatic 81, 3) := by decide +kernel
theorem dX7_place_22 : decode cX7_place 22 = .ok (.ifCond .eq 16, 3) := by decide +kernel
theorem dX7_place_25 : decode cX7_place 25 = .ok (.iload_n 3, 1) := by decide +kernel
theorem dX7_place_26 : decode cX7_place 26 = .ok (.iconst 1, 1) := by decide +kernel
theorem dX7_place_27 : decode cX7_place 27 = .ok (.iconst 5, 1) := by decide +kernel
theorem dX7_place_28 : decode cX7_place 28 = .ok (.invokestatic 81, 3) := by decide +kernel
theorem dX7_place_31 : decode cX7_place 31 = .ok (.ifCond .eq 7, 3) := by decide +kernel
theorem dX7_place_34 : decode cX7_place 34 = .ok (.iconst 1, 1) := by decide +kernel
theorem dX7_place_35 : decode cX7_place 35 = .ok (.goto 4, 3) := by decide +kernel
theorem dX7_place_38 : decode cX7_place 38 = .ok (.iconst 0, 1) := by decide +kernel
theorem dX7_place_39 : decode cX7_place 39 = .ok (.aload_n 0, 1) := by decide +kernel
theorem dX7_place_40 : decode cX7_place 40 = .ok (.getfield 78, 3) := by decide +kernel
theorem dX7_place_43 : decode cX7_place 43 = .ok (.bipush 14, 2) := by decide +kernel
theorem dX7_place_45 : decode cX7_place 45 = .ok (.if_icmp .ge 7, 3) := by decide +kernel
theorem dX7_place_48 : decode cX7_place 48 = .ok (.iconst 1, 1) := by decide +kernel
theorem dX7_place_49 : decode cX7_place 49 = .ok (.goto 4, 3) := by decide +kernel
theorem dX7_place_52 : decode cX7_place 52 = .ok (.iconst 0, 1) := by decide +kernel
theorem dX7_place_53 : decode cX7_place 53 = .ok (.iconst 1, 1) := by decide +kernel
theorem dX7_place_54 : decode cX7_place 54 = .ok (.invokevirtual 91, 3) := by decide +kernel
theorem dX7_place_57 : decode cX7_place 57 = .ok (.ifCond .ne 5, 3) := by decide +kernel
theorem dX7_place_60 : decode cX7_place 60 = .ok (.iconst 0, 1) := by decide +kernel
theorem dX7_place_61 : decode cX7_place 61 = .ok (.ireturn, 1) := by decide +kernel
theorem dX7_place_62 : decode cX7_place 62 = .ok (.aload_n 0, 1) := by decide +kernel
theorem dX7_place_63 : decode cX7_place 63 = .ok (.getfield 13, 3) := by decide +kernel
theorem dX7_place_66 : decode cX7_place 66 = .ok (.aload_n 0, 1) := by decide +kernel
theorem dX7_place_67 : decode cX7_place 67 = .ok (.getfield 78, 3) := by decide +kernel
theorem dX7_place_70 : decode cX7_place 70 = .ok (.iload_n 1, 1) := by decide +kernel
theorem dX7_place_71 : decode cX7_place 71 = .ok (.iastore, 1) := by decide +kernel
theorem dX7_place_72 : decode cX7_place 72 = .ok (.aload_n 0, 1) := by decide +kernel
theorem dX7_place_73 : decode cX7_place 73 = .ok (.getfield 17, 3) := by decide +kernel
theorem dX7_place_76 : decode cX7_place 76 = .ok (.aload_n 0, 1) := by decide +kernel
theorem dX7_place_77 : decode cX7_place 77 = .ok (.getfield 78, 3) := by decide +kernel
theorem dX7_place_80 : decode cX7_place 80 = .ok (.iload_n 2, 1) := by decide +kernel
theorem dX7_place_81 : decode cX7_place 81 = .ok (.iastore, 1) := by decide +kernel
theorem dX7_place_82 : decode cX7_place 82 = .ok (.aload_n 0, 1) := by decide +kernel
theorem dX7_place_83 : decode cX7_place 83 = .ok (.getfield 20, 3) := by decide +kernel
theorem dX7_place_86 : decode cX7_place 86 = .ok (.aload_n 0, 1) := by decide +kernel
theorem dX7_place_87 : decode cX7_place 87 = .ok (.getfield 78, 3) := by decide +kernel
theorem dX7_place_90 : decode cX7_place 90 = .ok (.iload_n 3, 1) := by decide +kernel
theorem dX7_place_91 : decode cX7_place 91 = .ok (.iastore, 1) := by decide +kernel
theorem dX7_place_92 : decode cX7_place 92 = .ok (.aload_n 0, 1) := by decide +kernel
theorem dX7_place_93 : decode cX7_place 93 = .ok (.dup, 1) := by decide +kernel
theorem dX7_place_94 : decode cX7_place 94 = .ok (.getfield 78, 3) := by decide +kernel
theorem dX7_place_97 : decode cX7_place 97 = .ok (.iconst 1, 1) := by decide +kernel
theorem dX7_place_98 : decode cX7_place 98 = .ok (.iadd, 1) := by decide +kernel
theorem dX7_place_99 : decode cX7_place 99 = .ok (.putfield 78, 3) := by decide +kernel
theorem dX7_place_102 : decode cX7_place 102 = .ok (.aload_n 0, 1) := by decide +kernel
theorem dX7_place_103 : decode cX7_place 103 = .ok (.getfield 78, 3) := by decide +kernel
theorem dX7_place_106 : decode cX7_place 106 = .ok (.iconst 1, 1) := by decide +kernel
theorem dX7_place_107 : decode cX7_place 107 = .ok (.isub, 1) := by decide +kernel
theorem dX7_place_108 : decode cX7_place 108 = .ok (.ireturn, 1) := by decide +kernel
theorem dX7_nameOn_0 : decode cX7_nameOn 0 = .ok (.iconst (-1), 1) := by decide +kernel
theorem dX7_nameOn_1 : decode cX7_nameOn 1 = .ok (.istore_n 3, 1) := by decide +kernel
theorem dX7_nameOn_2 : decode cX7_nameOn 2 = .ok (.bipush 6, 2) := by decide +kernel
theorem dX7_nameOn_4 : decode cX7_nameOn 4 = .ok (.iload_n 1, 1) := by decide +kernel
theorem dX7_nameOn_5 : decode cX7_nameOn 5 = .ok (.imul, 1) := by decide +kernel
theorem dX7_nameOn_6 : decode cX7_nameOn 6 = .ok (.istore 4, 2) := by decide +kernel
theorem dX7_nameOn_8 : decode cX7_nameOn 8 = .ok (.iload 4, 2) := by decide +kernel
theorem dX7_nameOn_10 : decode cX7_nameOn 10 = .ok (.bipush 6, 2) := by decide +kernel
theorem dX7_nameOn_12 : decode cX7_nameOn 12 = .ok (.iload_n 1, 1) := by decide +kernel
theorem dX7_nameOn_13 : decode cX7_nameOn 13 = .ok (.imul, 1) := by decide +kernel
theorem dX7_nameOn_14 : decode cX7_nameOn 14 = .ok (.aload_n 0, 1) := by decide +kernel
theorem dX7_nameOn_15 : decode cX7_nameOn 15 = .ok (.getfield 23, 3) := by decide +kernel
theorem dX7_nameOn_18 : decode cX7_nameOn 18 = .ok (.iload_n 1, 1) := by decide +kernel
theorem dX7_nameOn_19 : decode cX7_nameOn 19 = .ok (.iaload, 1) := by decide +kernel
theorem dX7_nameOn_20 : decode cX7_nameOn 20 = .ok (.iadd, 1) := by decide +kernel
theorem dX7_nameOn_21 : decode cX7_nameOn 21 = .ok (.if_icmp .ge 27, 3) := by decide +kernel
theorem dX7_nameOn_24 : decode cX7_nameOn 24 = .ok (.aload_n 0, 1) := by decide +kernel
theorem dX7_nameOn_25 : decode cX7_nameOn 25 = .ok (.getfield 26, 3) := by decide +kernel
theorem dX7_nameOn_28 : decode cX7_nameOn 28 = .ok (.iload 4, 2) := by decide +kernel
theorem dX7_nameOn_30 : decode cX7_nameOn 30 = .ok (.iaload, 1) := by decide +kernel
theorem dX7_nameOn_31 : decode cX7_nameOn 31 = .ok (.iload_n 2, 1) := by decide +kernel
theorem dX7_nameOn_32 : decode cX7_nameOn 32 = .ok (.if_icmp .gt 8, 3) := by decide +kernel
theorem dX7_nameOn_35 : decode cX7_nameOn 35 = .ok (.iload 4, 2) := by decide +kernel
theorem dX7_nameOn_37 : decode cX7_nameOn 37 = .ok (.goto 4, 3) := by decide +kernel
theorem dX7_nameOn_40 : decode cX7_nameOn 40 = .ok (.iload_n 3, 1) := by decide +kernel
theorem dX7_nameOn_41 : decode cX7_nameOn 41 = .ok (.istore_n 3, 1) := by decide +kernel
theorem dX7_nameOn_42 : decode cX7_nameOn 42 = .ok (.iinc 4 1, 3) := by decide +kernel
theorem dX7_nameOn_45 : decode cX7_nameOn 45 = .ok (.goto (-37), 3) := by decide +kernel
theorem dX7_nameOn_48 : decode cX7_nameOn 48 = .ok (.iload_n 3, 1) := by decide +kernel
theorem dX7_nameOn_49 : decode cX7_nameOn 49 = .ok (.ireturn, 1) := by decide +kernel
theorem dX7_name_0 : decode cX7_name 0 = .ok (.aload_n 0, 1) := by decide +kernel
theorem dX7_name_1 : decode cX7_name 1 = .ok (.iload_n 1, 1) := by decide +kernel
theorem dX7_name_2 : decode cX7_name 2 = .ok (.invokevirtual 95, 3) := by decide +kernel
theorem dX7_name_5 : decode cX7_name 5 = .ok (.istore_n 2, 1) := by decide +kernel
theorem dX7_name_6 : decode cX7_name 6 = .ok (.aload_n 0, 1) := by decide +kernel
theorem dX7_name_7 : decode cX7_name 7 = .ok (.iload_n 2, 1) := by decide +kernel
theorem dX7_name_8 : decode cX7_name 8 = .ok (.aload_n 0, 1) := by decide +kernel
theorem dX7_name_9 : decode cX7_name 9 = .ok (.getfield 88, 3) := by decide +kernel
theorem dX7_name_12 : decode cX7_name 12 = .ok (.ifCond .le 26, 3) := by decide +kernel
theorem dX7_name_15 : decode cX7_name 15 = .ok (.aload_n 0, 1) := by decide +kernel
theorem dX7_name_16 : decode cX7_name 16 = .ok (.getfield 23, 3) := by decide +kernel
theorem dX7_name_19 : decode cX7_name 19 = .ok (.iload_n 2, 1) := by decide +kernel
theorem dX7_name_20 : decode cX7_name 20 = .ok (.ifCond .eq 7, 3) := by decide +kernel
theorem dX7_name_23 : decode cX7_name 23 = .ok (.iload_n 1, 1) := by decide +kernel
theorem dX7_name_24 : decode cX7_name 24 = .ok (.goto 4, 3) := by decide +kernel
theorem dX7_name_27 : decode cX7_name 27 = .ok (.iconst 0, 1) := by decide +kernel
theorem dX7_name_28 : decode cX7_name 28 = .ok (.iaload, 1) := by decide +kernel
theorem dX7_name_29 : decode cX7_name 29 = .ok (.bipush 6, 2) := by decide +kernel
theorem dX7_name_31 : decode cX7_name 31 = .ok (.if_icmp .ge 7, 3) := by decide +kernel
theorem dX7_name_34 : decode cX7_name 34 = .ok (.iconst 1, 1) := by decide +kernel
theorem dX7_name_35 : decode cX7_name 35 = .ok (.goto 4, 3) := by decide +kernel
theorem dX7_name_38 : decode cX7_name 38 = .ok (.iconst 0, 1) := by decide +kernel
theorem dX7_name_39 : decode cX7_name 39 = .ok (.iconst 1, 1) := by decide +kernel
theorem dX7_name_40 : decode cX7_name 40 = .ok (.invokevirtual 91, 3) := by decide +kernel
theorem dX7_name_43 : decode cX7_name 43 = .ok (.ifCond .ne 5, 3) := by decide +kernel
theorem dX7_name_46 : decode cX7_name 46 = .ok (.iconst 0, 1) := by decide +kernel
theorem dX7_name_47 : decode cX7_name 47 = .ok (.ireturn, 1) := by decide +kernel
theorem dX7_name_48 : decode cX7_name 48 = .ok (.iconst 0, 1) := by decide +kernel
theorem dX7_name_49 : decode cX7_name 49 = .ok (.istore_n 3, 1) := by decide +kernel
theorem dX7_name_50 : decode cX7_name 50 = .ok (.iload_n 3, 1) := by decide +kernel
theorem dX7_name_51 : decode cX7_name 51 = .ok (.aload_n 0, 1) := by decide +kernel
theorem dX7_name_52 : decode cX7_name 52 = .ok (.getfield 85, 3) := by decide +kernel
theorem dX7_name_55 : decode cX7_name 55 = .ok (.if_icmp .ge 51, 3) := by decide +kernel
theorem dX7_name_58 : decode cX7_name 58 = .ok (.aload_n 0, 1) := by decide +kernel
theorem dX7_name_59 : decode cX7_name 59 = .ok (.iload_n 3, 1) := by decide +kernel
theorem dX7_name_60 : decode cX7_name 60 = .ok (.invokevirtual 99, 3) := by decide +kernel
theorem dX7_name_63 : decode cX7_name 63 = .ok (.iconst 0, 1) := by decide +kernel
theorem dX7_name_64 : decode cX7_name 64 = .ok (.istore 4, 2) := by decide +kernel
theorem dX7_name_66 : decode cX7_name 66 = .ok (.iload 4, 2) := by decide +kernel
theorem dX7_name_68 : decode cX7_name 68 = .ok (.aload_n 0, 1) := by decide +kernel
theorem dX7_name_69 : decode cX7_name 69 = .ok (.getfield 78, 3) := by decide +kernel
theorem dX7_name_72 : decode cX7_name 72 = .ok (.if_icmp .ge 28, 3) := by decide +kernel
theorem dX7_name_75 : decode cX7_name 75 = .ok (.aload_n 0, 1) := by decide +kernel
theorem dX7_name_76 : decode cX7_name 76 = .ok (.getfield 56, 3) := by decide +kernel
theorem dX7_name_79 : decode cX7_name 79 = .ok (.bipush 14, 2) := by decide +kernel
theorem dX7_name_81 : decode cX7_name 81 = .ok (.iload_n 3, 1) := by decide +kernel
theorem dX7_name_82 : decode cX7_name 82 = .ok (.imul, 1) := by decide +kernel
theorem dX7_name_83 : decode cX7_name 83 = .ok (.iload 4, 2) := by decide +kernel
theorem dX7_name_85 : decode cX7_name 85 = .ok (.iadd, 1) := by decide +kernel
theorem dX7_name_86 : decode cX7_name 86 = .ok (.aload_n 0, 1) := by decide +kernel
theorem dX7_name_87 : decode cX7_name 87 = .ok (.getfield 50, 3) := by decide +kernel
theorem dX7_name_90 : decode cX7_name 90 = .ok (.iload 4, 2) := by decide +kernel
theorem dX7_name_92 : decode cX7_name 92 = .ok (.iaload, 1) := by decide +kernel
theorem dX7_name_93 : decode cX7_name 93 = .ok (.iastore, 1) := by decide +kernel
theorem dX7_name_94 : decode cX7_name 94 = .ok (.iinc 4 1, 3) := by decide +kernel
theorem dX7_name_97 : decode cX7_name 97 = .ok (.goto (-31), 3) := by decide +kernel
theorem dX7_name_100 : decode cX7_name 100 = .ok (.iinc 3 1, 3) := by decide +kernel
theorem dX7_name_103 : decode cX7_name 103 = .ok (.goto (-53), 3) := by decide +kernel
theorem dX7_name_106 : decode cX7_name 106 = .ok (.bipush 6, 2) := by decide +kernel
theorem dX7_name_108 : decode cX7_name 108 = .ok (.iload_n 1, 1) := by decide +kernel
theorem dX7_name_109 : decode cX7_name 109 = .ok (.imul, 1) := by decide +kernel
theorem dX7_name_110 : decode cX7_name 110 = .ok (.aload_n 0, 1) := by decide +kernel
theorem dX7_name_111 : decode cX7_name 111 = .ok (.getfield 23, 3) := by decide +kernel
theorem dX7_name_114 : decode cX7_name 114 = .ok (.iload_n 1, 1) := by decide +kernel
theorem dX7_name_115 : decode cX7_name 115 = .ok (.iaload, 1) := by decide +kernel
theorem dX7_name_116 : decode cX7_name 116 = .ok (.iadd, 1) := by decide +kernel
theorem dX7_name_117 : decode cX7_name 117 = .ok (.istore_n 3, 1) := by decide +kernel
theorem dX7_name_118 : decode cX7_name 118 = .ok (.aload_n 0, 1) := by decide +kernel
theorem dX7_name_119 : decode cX7_name 119 = .ok (.getfield 26, 3) := by decide +kernel
theorem dX7_name_122 : decode cX7_name 122 = .ok (.iload_n 3, 1) := by decide +kernel
theorem dX7_name_123 : decode cX7_name 123 = .ok (.aload_n 0, 1) := by decide +kernel
theorem dX7_name_124 : decode cX7_name 124 = .ok (.getfield 103, 3) := by decide +kernel
theorem dX7_name_127 : decode cX7_name 127 = .ok (.iastore, 1) := by decide +kernel
theorem dX7_name_128 : decode cX7_name 128 = .ok (.aload_n 0, 1) := by decide +kernel
theorem dX7_name_129 : decode cX7_name 129 = .ok (.getfield 29, 3) := by decide +kernel
theorem dX7_name_132 : decode cX7_name 132 = .ok (.iload_n 3, 1) := by decide +kernel
theorem dX7_name_133 : decode cX7_name 133 = .ok (.aload_n 0, 1) := by decide +kernel
theorem dX7_name_134 : decode cX7_name 134 = .ok (.getfield 88, 3) := by decide +kernel
theorem dX7_name_137 : decode cX7_name 137 = .ok (.iastore, 1) := by decide +kernel
theorem dX7_name_138 : decode cX7_name 138 = .ok (.iconst 0, 1) := by decide +kernel
theorem dX7_name_139 : decode cX7_name 139 = .ok (.istore 4, 2) := by decide +kernel
theorem dX7_name_141 : decode cX7_name 141 = .ok (.iload 4, 2) := by decide +kernel
theorem dX7_name_143 : decode cX7_name 143 = .ok (.aload_n 0, 1) := by decide +kernel
theorem dX7_name_144 : decode cX7_name 144 = .ok (.getfield 88, 3) := by decide +kernel
theorem dX7_name_147 : decode cX7_name 147 = .ok (.if_icmp .ge 28, 3) := by decide +kernel
theorem dX7_name_150 : decode cX7_name 150 = .ok (.aload_n 0, 1) := by decide +kernel
theorem dX7_name_151 : decode cX7_name 151 = .ok (.getfield 32, 3) := by decide +kernel
theorem dX7_name_154 : decode cX7_name 154 = .ok (.bipush 8, 2) := by decide +kernel
theorem dX7_name_156 : decode cX7_name 156 = .ok (.iload_n 3, 1) := by decide +kernel
theorem dX7_name_157 : decode cX7_name 157 = .ok (.imul, 1) := by decide +kernel
theorem dX7_name_158 : decode cX7_name 158 = .ok (.iload 4, 2) := by decide +kernel
theorem dX7_name_160 : decode cX7_name 160 = .ok (.iadd, 1) := by decide +kernel
theorem dX7_name_161 : decode cX7_name 161 = .ok (.aload_n 0, 1) := by decide +kernel
theorem dX7_name_162 : decode cX7_name 162 = .ok (.getfield 7, 3) := by decide +kernel
theorem dX7_name_165 : decode cX7_name 165 = .ok (.iload 4, 2) := by decide +kernel
theorem dX7_name_167 : decode cX7_name 167 = .ok (.caload, 1) := by decide +kernel
theorem dX7_name_168 : decode cX7_name 168 = .ok (.castore, 1) := by decide +kernel
theorem dX7_name_169 : decode cX7_name 169 = .ok (.iinc 4 1, 3) := by decide +kernel
theorem dX7_name_172 : decode cX7_name 172 = .ok (.goto (-31), 3) := by decide +kernel
theorem dX7_name_175 : decode cX7_name 175 = .ok (.aload_n 0, 1) := by decide +kernel
theorem dX7_name_176 : decode cX7_name 176 = .ok (.getfield 23, 3) := by decide +kernel
theorem dX7_name_179 : decode cX7_name 179 = .ok (.iload_n 1, 1) := by decide +kernel
theorem dX7_name_180 : decode cX7_name 180 = .ok (.dup2, 1) := by decide +kernel
theorem dX7_name_181 : decode cX7_name 181 = .ok (.iaload, 1) := by decide +kernel
theorem dX7_name_182 : decode cX7_name 182 = .ok (.iconst 1, 1) := by decide +kernel
theorem dX7_name_183 : decode cX7_name 183 = .ok (.iadd, 1) := by decide +kernel
theorem dX7_name_184 : decode cX7_name 184 = .ok (.iastore, 1) := by decide +kernel
theorem dX7_name_185 : decode cX7_name 185 = .ok (.aload_n 0, 1) := by decide +kernel
theorem dX7_name_186 : decode cX7_name 186 = .ok (.iconst 0, 1) := by decide +kernel
theorem dX7_name_187 : decode cX7_name 187 = .ok (.putfield 88, 3) := by decide +kernel
theorem dX7_name_190 : decode cX7_name 190 = .ok (.iconst 0, 1) := by decide +kernel
theorem dX7_name_191 : decode cX7_name 191 = .ok (.istore 4, 2) := by decide +kernel
theorem dX7_name_193 : decode cX7_name 193 = .ok (.iconst 0, 1) := by decide +kernel
theorem dX7_name_194 : decode cX7_name 194 = .ok (.istore 5, 2) := by decide +kernel
theorem dX7_name_196 : decode cX7_name 196 = .ok (.iload 5, 2) := by decide +kernel
theorem dX7_name_198 : decode cX7_name 198 = .ok (.aload_n 0, 1) := by decide +kernel
theorem dX7_name_199 : decode cX7_name 199 = .ok (.getfield 85, 3) := by decide +kernel
theorem dX7_name_202 : decode cX7_name 202 = .ok (.if_icmp .ge 72, 3) := by decide +kernel
theorem dX7_name_205 : decode cX7_name 205 = .ok (.aload_n 0, 1) := by decide +kernel
theorem dX7_name_206 : decode cX7_name 206 = .ok (.iload 5, 2) := by decide +kernel
theorem dX7_name_208 : decode cX7_name 208 = .ok (.invokevirtual 99, 3) := by decide +kernel
theorem dX7_name_211 : decode cX7_name 211 = .ok (.iconst 0, 1) := by decide +kernel
theorem dX7_name_212 : decode cX7_name 212 = .ok (.istore 6, 2) := by decide +kernel
theorem dX7_name_214 : decode cX7_name 214 = .ok (.iload 6, 2) := by decide +kernel
theorem dX7_name_216 : decode cX7_name 216 = .ok (.aload_n 0, 1) := by decide +kernel
theorem dX7_name_217 : decode cX7_name 217 = .ok (.getfield 78, 3) := by decide +kernel
theorem dX7_name_220 : decode cX7_name 220 = .ok (.if_icmp .ge 48, 3) := by decide +kernel
theorem dX7_name_223 : decode cX7_name 223 = .ok (.iload 4, 2) := by decide +kernel
theorem dX7_name_225 : decode cX7_name 225 = .ok (.iload 6, 2) := by decide +kernel
theorem dX7_name_227 : decode cX7_name 227 = .ok (.iload_n 1, 1) := by decide +kernel
theorem dX7_name_228 : decode cX7_name 228 = .ok (.if_icmp .eq 30, 3) := by decide +kernel
theorem dX7_name_231 : decode cX7_name 231 = .ok (.aload_n 0, 1) := by decide +kernel
theorem dX7_name_232 : decode cX7_name 232 = .ok (.getfield 50, 3) := by decide +kernel
theorem dX7_name_235 : decode cX7_name 235 = .ok (.iload 6, 2) := by decide +kernel
theorem dX7_name_237 : decode cX7_name 237 = .ok (.iaload, 1) := by decide +kernel
theorem dX7_name_238 : decode cX7_name 238 = .ok (.aload_n 0, 1) := by decide +kernel
theorem dX7_name_239 : decode cX7_name 239 = .ok (.getfield 56, 3) := by decide +kernel
theorem dX7_name_242 : decode cX7_name 242 = .ok (.bipush 14, 2) := by decide +kernel
theorem dX7_name_244 : decode cX7_name 244 = .ok (.iload 5, 2) := by decide +kernel
theorem dX7_name_246 : decode cX7_name 246 = .ok (.imul, 1) := by decide +kernel
theorem dX7_name_247 : decode cX7_name 247 = .ok (.iload 6, 2) := by decide +kernel
theorem dX7_name_249 : decode cX7_name 249 = .ok (.iadd, 1) := by decide +kernel
theorem dX7_name_250 : decode cX7_name 250 = .ok (.iaload, 1) := by decide +kernel
theorem dX7_name_251 : decode cX7_name 251 = .ok (.if_icmp .eq 7, 3) := by decide +kernel
theorem dX7_name_254 : decode cX7_name 254 = .ok (.iconst 1, 1) := by decide +kernel
theorem dX7_name_255 : decode cX7_name 255 = .ok (.goto 4, 3) := by decide +kernel
theorem dX7_name_258 : decode cX7_name 258 = .ok (.iconst 0, 1) := by decide +kernel
theorem dX7_name_259 : decode cX7_name 259 = .ok (.iadd, 1) := by decide +kernel
theorem dX7_name_260 : decode cX7_name 260 = .ok (.istore 4, 2) := by decide +kernel
theorem dX7_name_262 : decode cX7_name 262 = .ok (.iinc 6 1, 3) := by decide +kernel
theorem dX7_name_265 : decode cX7_name 265 = .ok (.goto (-51), 3) := by decide +kernel
theorem dX7_name_268 : decode cX7_name 268 = .ok (.iinc 5 1, 3) := by decide +kernel
theorem dX7_name_271 : decode cX7_name 271 = .ok (.goto (-75), 3) := by decide +kernel
theorem dX7_name_274 : decode cX7_name 274 = .ok (.iload 4, 2) := by decide +kernel
theorem dX7_name_276 : decode cX7_name 276 = .ok (.ireturn, 1) := by decide +kernel
theorem dX7_spelled_0 : decode cX7_spelled 0 = .ok (.aload_n 0, 1) := by decide +kernel
theorem dX7_spelled_1 : decode cX7_spelled 1 = .ok (.aload_n 0, 1) := by decide +kernel
theorem dX7_spelled_2 : decode cX7_spelled 2 = .ok (.iload_n 1, 1) := by decide +kernel
theorem dX7_spelled_3 : decode cX7_spelled 3 = .ok (.invokevirtual 95, 3) := by decide +kernel
theorem dX7_spelled_6 : decode cX7_spelled 6 = .ok (.ifCond .eq 11, 3) := by decide +kernel
theorem dX7_spelled_9 : decode cX7_spelled 9 = .ok (.iload_n 3, 1) := by decide +kernel
theorem dX7_spelled_10 : decode cX7_spelled 10 = .ok (.ifCond .lt 7, 3) := by decide +kernel
theorem dX7_spelled_13 : decode cX7_spelled 13 = .ok (.iconst 1, 1) := by decide +kernel
theorem dX7_spelled_14 : decode cX7_spelled 14 = .ok (.goto 4, 3) := by decide +kernel
theorem dX7_spelled_17 : decode cX7_spelled 17 = .ok (.iconst 0, 1) := by decide +kernel
theorem dX7_spelled_18 : decode cX7_spelled 18 = .ok (.iload_n 2, 1) := by decide +kernel
theorem dX7_spelled_19 : decode cX7_spelled 19 = .ok (.iconst 0, 1) := by decide +kernel
theorem dX7_spelled_20 : decode cX7_spelled 20 = .ok (.sipush 10000, 3) := by decide +kernel
theorem dX7_spelled_23 : decode cX7_spelled 23 = .ok (.invokestatic 81, 3) := by decide +kernel
theorem dX7_spelled_26 : decode cX7_spelled 26 = .ok (.iconst 1, 1) := by decide +kernel
theorem dX7_spelled_27 : decode cX7_spelled 27 = .ok (.invokevirtual 91, 3) := by decide +kernel
theorem dX7_spelled_30 : decode cX7_spelled 30 = .ok (.ifCond .ne 6, 3) := by decide +kernel
theorem dX7_spelled_33 : decode cX7_spelled 33 = .ok (.bipush 32, 2) := by decide +kernel
theorem dX7_spelled_35 : decode cX7_spelled 35 = .ok (.ireturn, 1) := by decide +kernel
theorem dX7_spelled_36 : decode cX7_spelled 36 = .ok (.aload_n 0, 1) := by decide +kernel
theorem dX7_spelled_37 : decode cX7_spelled 37 = .ok (.iload_n 1, 1) := by decide +kernel
theorem dX7_spelled_38 : decode cX7_spelled 38 = .ok (.iload_n 2, 1) := by decide +kernel
theorem dX7_spelled_39 : decode cX7_spelled 39 = .ok (.invokevirtual 106, 3) := by decide +kernel
theorem dX7_spelled_42 : decode cX7_spelled 42 = .ok (.istore 4, 2) := by decide +kernel
theorem dX7_spelled_44 : decode cX7_spelled 44 = .ok (.iload 4, 2) := by decide +kernel
theorem dX7_spelled_46 : decode cX7_spelled 46 = .ok (.iconst (-1), 1) := by decide +kernel
theorem dX7_spelled_47 : decode cX7_spelled 47 = .ok (.if_icmp .eq 14, 3) := by decide +kernel
theorem dX7_spelled_50 : decode cX7_spelled 50 = .ok (.iload_n 3, 1) := by decide +kernel
theorem dX7_spelled_51 : decode cX7_spelled 51 = .ok (.aload_n 0, 1) := by decide +kernel
theorem dX7_spelled_52 : decode cX7_spelled 52 = .ok (.getfield 29, 3) := by decide +kernel
theorem dX7_spelled_55 : decode cX7_spelled 55 = .ok (.iload 4, 2) := by decide +kernel
theorem dX7_spelled_57 : decode cX7_spelled 57 = .ok (.iaload, 1) := by decide +kernel
theorem dX7_spelled_58 : decode cX7_spelled 58 = .ok (.if_icmp .lt 8, 3) := by decide +kernel
theorem dX7_spelled_61 : decode cX7_spelled 61 = .ok (.bipush 32, 2) := by decide +kernel
theorem dX7_spelled_63 : decode cX7_spelled 63 = .ok (.goto 15, 3) := by decide +kernel
theorem dX7_spelled_66 : decode cX7_spelled 66 = .ok (.aload_n 0, 1) := by decide +kernel
theorem dX7_spelled_67 : decode cX7_spelled 67 = .ok (.getfield 32, 3) := by decide +kernel
theorem dX7_spelled_70 : decode cX7_spelled 70 = .ok (.bipush 8, 2) := by decide +kernel
theorem dX7_spelled_72 : decode cX7_spelled 72 = .ok (.iload 4, 2) := by decide +kernel
theorem dX7_spelled_74 : decode cX7_spelled 74 = .ok (.imul, 1) := by decide +kernel
theorem dX7_spelled_75 : decode cX7_spelled 75 = .ok (.iload_n 3, 1) := by decide +kernel
theorem dX7_spelled_76 : decode cX7_spelled 76 = .ok (.iadd, 1) := by decide +kernel
theorem dX7_spelled_77 : decode cX7_spelled 77 = .ok (.caload, 1) := by decide +kernel
theorem dX7_spelled_78 : decode cX7_spelled 78 = .ok (.ireturn, 1) := by decide +kernel
theorem dX7_pass_0 : decode cX7_pass 0 = .ok (.aload_n 0, 1) := by decide +kernel
theorem dX7_pass_1 : decode cX7_pass 1 = .ok (.iload_n 1, 1) := by decide +kernel
theorem dX7_pass_2 : decode cX7_pass 2 = .ok (.iconst 1, 1) := by decide +kernel
theorem dX7_pass_3 : decode cX7_pass 3 = .ok (.sipush 1000, 3) := by decide +kernel
theorem dX7_pass_6 : decode cX7_pass 6 = .ok (.invokestatic 81, 3) := by decide +kernel
theorem dX7_pass_9 : decode cX7_pass 9 = .ok (.aload_n 0, 1) := by decide +kernel
theorem dX7_pass_10 : decode cX7_pass 10 = .ok (.getfield 103, 3) := by decide +kernel
theorem dX7_pass_13 : decode cX7_pass 13 = .ok (.iload_n 1, 1) := by decide +kernel
theorem dX7_pass_14 : decode cX7_pass 14 = .ok (.iadd, 1) := by decide +kernel
theorem dX7_pass_15 : decode cX7_pass 15 = .ok (.sipush 10000, 3) := by decide +kernel
theorem dX7_pass_18 : decode cX7_pass 18 = .ok (.if_icmp .gt 7, 3) := by decide +kernel
theorem dX7_pass_21 : decode cX7_pass 21 = .ok (.iconst 1, 1) := by decide +kernel
theorem dX7_pass_22 : decode cX7_pass 22 = .ok (.goto 4, 3) := by decide +kernel
theorem dX7_pass_25 : decode cX7_pass 25 = .ok (.iconst 0, 1) := by decide +kernel
theorem dX7_pass_26 : decode cX7_pass 26 = .ok (.iconst 1, 1) := by decide +kernel
theorem dX7_pass_27 : decode cX7_pass 27 = .ok (.invokevirtual 91, 3) := by decide +kernel
theorem dX7_pass_30 : decode cX7_pass 30 = .ok (.ifCond .ne 5, 3) := by decide +kernel
theorem dX7_pass_33 : decode cX7_pass 33 = .ok (.iconst 0, 1) := by decide +kernel
theorem dX7_pass_34 : decode cX7_pass 34 = .ok (.ireturn, 1) := by decide +kernel
theorem dX7_pass_35 : decode cX7_pass 35 = .ok (.aload_n 0, 1) := by decide +kernel
theorem dX7_pass_36 : decode cX7_pass 36 = .ok (.dup, 1) := by decide +kernel
theorem dX7_pass_37 : decode cX7_pass 37 = .ok (.getfield 103, 3) := by decide +kernel
theorem dX7_pass_40 : decode cX7_pass 40 = .ok (.iload_n 1, 1) := by decide +kernel
theorem dX7_pass_41 : decode cX7_pass 41 = .ok (.iadd, 1) := by decide +kernel
theorem dX7_pass_42 : decode cX7_pass 42 = .ok (.putfield 103, 3) := by decide +kernel
theorem dX7_pass_45 : decode cX7_pass 45 = .ok (.aload_n 0, 1) := by decide +kernel
theorem dX7_pass_46 : decode cX7_pass 46 = .ok (.getfield 103, 3) := by decide +kernel
theorem dX7_pass_49 : decode cX7_pass 49 = .ok (.ireturn, 1) := by decide +kernel
theorem dX7_sheet_0 : decode cX7_sheet 0 = .ok (.aload_n 0, 1) := by decide +kernel
theorem dX7_sheet_1 : decode cX7_sheet 1 = .ok (.iload_n 1, 1) := by decide +kernel
theorem dX7_sheet_2 : decode cX7_sheet 2 = .ok (.sipush (-180), 3) := by decide +kernel
theorem dX7_sheet_5 : decode cX7_sheet 5 = .ok (.sipush 150, 3) := by decide +kernel
theorem dX7_sheet_8 : decode cX7_sheet 8 = .ok (.invokestatic 81, 3) := by decide +kernel
theorem dX7_sheet_11 : decode cX7_sheet 11 = .ok (.ifCond .eq 27, 3) := by decide +kernel
theorem dX7_sheet_14 : decode cX7_sheet 14 = .ok (.iload_n 2, 1) := by decide +kernel
theorem dX7_sheet_15 : decode cX7_sheet 15 = .ok (.bipush (-60), 2) := by decide +kernel
theorem dX7_sheet_17 : decode cX7_sheet 17 = .ok (.bipush 41, 2) := by decide +kernel
theorem dX7_sheet_19 : decode cX7_sheet 19 = .ok (.invokestatic 81, 3) := by decide +kernel
theorem dX7_sheet_22 : decode cX7_sheet 22 = .ok (.ifCond .eq 16, 3) := by decide +kernel
theorem dX7_sheet_25 : decode cX7_sheet 25 = .ok (.iload_n 3, 1) := by decide +kernel
theorem dX7_sheet_26 : decode cX7_sheet 26 = .ok (.iconst 0, 1) := by decide +kernel
theorem dX7_sheet_27 : decode cX7_sheet 27 = .ok (.iconst 1, 1) := by decide +kernel
theorem dX7_sheet_28 : decode cX7_sheet 28 = .ok (.invokestatic 81, 3) := by decide +kernel
theorem dX7_sheet_31 : decode cX7_sheet 31 = .ok (.ifCond .eq 7, 3) := by decide +kernel
theorem dX7_sheet_34 : decode cX7_sheet 34 = .ok (.iconst 1, 1) := by decide +kernel
theorem dX7_sheet_35 : decode cX7_sheet 35 = .ok (.goto 4, 3) := by decide +kernel
theorem dX7_sheet_38 : decode cX7_sheet 38 = .ok (.iconst 0, 1) := by decide +kernel
theorem dX7_sheet_39 : decode cX7_sheet 39 = .ok (.aload_n 0, 1) := by decide +kernel
theorem dX7_sheet_40 : decode cX7_sheet 40 = .ok (.getfield 85, 3) := by decide +kernel
theorem dX7_sheet_43 : decode cX7_sheet 43 = .ok (.iconst 4, 1) := by decide +kernel
theorem dX7_sheet_44 : decode cX7_sheet 44 = .ok (.if_icmp .ge 7, 3) := by decide +kernel
theorem dX7_sheet_47 : decode cX7_sheet 47 = .ok (.iconst 1, 1) := by decide +kernel
theorem dX7_sheet_48 : decode cX7_sheet 48 = .ok (.goto 4, 3) := by decide +kernel
theorem dX7_sheet_51 : decode cX7_sheet 51 = .ok (.iconst 0, 1) := by decide +kernel
theorem dX7_sheet_52 : decode cX7_sheet 52 = .ok (.iconst 1, 1) := by decide +kernel
theorem dX7_sheet_53 : decode cX7_sheet 53 = .ok (.invokevirtual 91, 3) := by decide +kernel
theorem dX7_sheet_56 : decode cX7_sheet 56 = .ok (.ifCond .ne 5, 3) := by decide +kernel
theorem dX7_sheet_59 : decode cX7_sheet 59 = .ok (.iconst 0, 1) := by decide +kernel
theorem dX7_sheet_60 : decode cX7_sheet 60 = .ok (.ireturn, 1) := by decide +kernel
theorem dX7_sheet_61 : decode cX7_sheet 61 = .ok (.aload_n 0, 1) := by decide +kernel
theorem dX7_sheet_62 : decode cX7_sheet 62 = .ok (.getfield 35, 3) := by decide +kernel
theorem dX7_sheet_65 : decode cX7_sheet 65 = .ok (.aload_n 0, 1) := by decide +kernel
theorem dX7_sheet_66 : decode cX7_sheet 66 = .ok (.getfield 85, 3) := by decide +kernel
theorem dX7_sheet_69 : decode cX7_sheet 69 = .ok (.iload_n 1, 1) := by decide +kernel
theorem dX7_sheet_70 : decode cX7_sheet 70 = .ok (.iastore, 1) := by decide +kernel
theorem dX7_sheet_71 : decode cX7_sheet 71 = .ok (.aload_n 0, 1) := by decide +kernel
theorem dX7_sheet_72 : decode cX7_sheet 72 = .ok (.getfield 38, 3) := by decide +kernel
theorem dX7_sheet_75 : decode cX7_sheet 75 = .ok (.aload_n 0, 1) := by decide +kernel
theorem dX7_sheet_76 : decode cX7_sheet 76 = .ok (.getfield 85, 3) := by decide +kernel
theorem dX7_sheet_79 : decode cX7_sheet 79 = .ok (.iload_n 2, 1) := by decide +kernel
theorem dX7_sheet_80 : decode cX7_sheet 80 = .ok (.iastore, 1) := by decide +kernel
theorem dX7_sheet_81 : decode cX7_sheet 81 = .ok (.aload_n 0, 1) := by decide +kernel
theorem dX7_sheet_82 : decode cX7_sheet 82 = .ok (.getfield 41, 3) := by decide +kernel
theorem dX7_sheet_85 : decode cX7_sheet 85 = .ok (.aload_n 0, 1) := by decide +kernel
theorem dX7_sheet_86 : decode cX7_sheet 86 = .ok (.getfield 85, 3) := by decide +kernel
theorem dX7_sheet_89 : decode cX7_sheet 89 = .ok (.iload_n 3, 1) := by decide +kernel
theorem dX7_sheet_90 : decode cX7_sheet 90 = .ok (.iastore, 1) := by decide +kernel
theorem dX7_sheet_91 : decode cX7_sheet 91 = .ok (.aload_n 0, 1) := by decide +kernel
theorem dX7_sheet_92 : decode cX7_sheet 92 = .ok (.dup, 1) := by decide +kernel
theorem dX7_sheet_93 : decode cX7_sheet 93 = .ok (.getfield 85, 3) := by decide +kernel
theorem dX7_sheet_96 : decode cX7_sheet 96 = .ok (.iconst 1, 1) := by decide +kernel
theorem dX7_sheet_97 : decode cX7_sheet 97 = .ok (.iadd, 1) := by decide +kernel
theorem dX7_sheet_98 : decode cX7_sheet 98 = .ok (.putfield 85, 3) := by decide +kernel
theorem dX7_sheet_101 : decode cX7_sheet 101 = .ok (.aload_n 0, 1) := by decide +kernel
theorem dX7_sheet_102 : decode cX7_sheet 102 = .ok (.getfield 85, 3) := by decide +kernel
theorem dX7_sheet_105 : decode cX7_sheet 105 = .ok (.iconst 1, 1) := by decide +kernel
theorem dX7_sheet_106 : decode cX7_sheet 106 = .ok (.isub, 1) := by decide +kernel
theorem dX7_sheet_107 : decode cX7_sheet 107 = .ok (.ireturn, 1) := by decide +kernel
theorem dX7_isOn_0 : decode cX7_isOn 0 = .ok (.aload_n 0, 1) := by decide +kernel
theorem dX7_isOn_1 : decode cX7_isOn 1 = .ok (.getfield 13, 3) := by decide +kernel
theorem dX7_isOn_4 : decode cX7_isOn 4 = .ok (.iload_n 2, 1) := by decide +kernel
theorem dX7_isOn_5 : decode cX7_isOn 5 = .ok (.iaload, 1) := by decide +kernel
theorem dX7_isOn_6 : decode cX7_isOn 6 = .ok (.aload_n 0, 1) := by decide +kernel
theorem dX7_isOn_7 : decode cX7_isOn 7 = .ok (.getfield 35, 3) := by decide +kernel
theorem dX7_isOn_10 : decode cX7_isOn 10 = .ok (.iload_n 1, 1) := by decide +kernel
theorem dX7_isOn_11 : decode cX7_isOn 11 = .ok (.iaload, 1) := by decide +kernel
theorem dX7_isOn_12 : decode cX7_isOn 12 = .ok (.isub, 1) := by decide +kernel
theorem dX7_isOn_13 : decode cX7_isOn 13 = .ok (.iconst 0, 1) := by decide +kernel
theorem dX7_isOn_14 : decode cX7_isOn 14 = .ok (.bipush 29, 2) := by decide +kernel
theorem dX7_isOn_16 : decode cX7_isOn 16 = .ok (.invokestatic 81, 3) := by decide +kernel
theorem dX7_isOn_19 : decode cX7_isOn 19 = .ok (.ifCond .eq 29, 3) := by decide +kernel
theorem dX7_isOn_22 : decode cX7_isOn 22 = .ok (.aload_n 0, 1) := by decide +kernel
theorem dX7_isOn_23 : decode cX7_isOn 23 = .ok (.getfield 17, 3) := by decide +kernel
theorem dX7_isOn_26 : decode cX7_isOn 26 = .ok (.iload_n 2, 1) := by decide +kernel
theorem dX7_isOn_27 : decode cX7_isOn 27 = .ok (.iaload, 1) := by decide +kernel
theorem dX7_isOn_28 : decode cX7_isOn 28 = .ok (.aload_n 0, 1) := by decide +kernel
theorem dX7_isOn_29 : decode cX7_isOn 29 = .ok (.getfield 38, 3) := by decide +kernel
theorem dX7_isOn_32 : decode cX7_isOn 32 = .ok (.iload_n 1, 1) := by decide +kernel
theorem dX7_isOn_33 : decode cX7_isOn 33 = .ok (.iaload, 1) := by decide +kernel
theorem dX7_isOn_34 : decode cX7_isOn 34 = .ok (.isub, 1) := by decide +kernel
theorem dX7_isOn_35 : decode cX7_isOn 35 = .ok (.iconst 0, 1) := by decide +kernel
theorem dX7_isOn_36 : decode cX7_isOn 36 = .ok (.bipush 19, 2) := by decide +kernel
theorem dX7_isOn_38 : decode cX7_isOn 38 = .ok (.invokestatic 81, 3) := by decide +kernel
theorem dX7_isOn_41 : decode cX7_isOn 41 = .ok (.ifCond .eq 7, 3) := by decide +kernel
theorem dX7_isOn_44 : decode cX7_isOn 44 = .ok (.iconst 1, 1) := by decide +kernel
theorem dX7_isOn_45 : decode cX7_isOn 45 = .ok (.goto 4, 3) := by decide +kernel
theorem dX7_isOn_48 : decode cX7_isOn 48 = .ok (.iconst 0, 1) := by decide +kernel
theorem dX7_isOn_49 : decode cX7_isOn 49 = .ok (.ireturn, 1) := by decide +kernel
theorem dX7_columnOf_0 : decode cX7_columnOf 0 = .ok (.aload_n 0, 1) := by decide +kernel
theorem dX7_columnOf_1 : decode cX7_columnOf 1 = .ok (.getfield 13, 3) := by decide +kernel
theorem dX7_columnOf_4 : decode cX7_columnOf 4 = .ok (.iload_n 2, 1) := by decide +kernel
theorem dX7_columnOf_5 : decode cX7_columnOf 5 = .ok (.iaload, 1) := by decide +kernel
theorem dX7_columnOf_6 : decode cX7_columnOf 6 = .ok (.aload_n 0, 1) := by decide +kernel
theorem dX7_columnOf_7 : decode cX7_columnOf 7 = .ok (.getfield 35, 3) := by decide +kernel
theorem dX7_columnOf_10 : decode cX7_columnOf 10 = .ok (.iload_n 1, 1) := by decide +kernel
theorem dX7_columnOf_11 : decode cX7_columnOf 11 = .ok (.iaload, 1) := by decide +kernel
theorem dX7_columnOf_12 : decode cX7_columnOf 12 = .ok (.isub, 1) := by decide +kernel
theorem dX7_columnOf_13 : decode cX7_columnOf 13 = .ok (.istore_n 3, 1) := by decide +kernel
theorem dX7_columnOf_14 : decode cX7_columnOf 14 = .ok (.aload_n 0, 1) := by decide +kernel
theorem dX7_columnOf_15 : decode cX7_columnOf 15 = .ok (.getfield 41, 3) := by decide +kernel
theorem dX7_columnOf_18 : decode cX7_columnOf 18 = .ok (.iload_n 1, 1) := by decide +kernel
theorem dX7_columnOf_19 : decode cX7_columnOf 19 = .ok (.iaload, 1) := by decide +kernel
theorem dX7_columnOf_20 : decode cX7_columnOf 20 = .ok (.ifCond .ne 11, 3) := by decide +kernel
theorem dX7_columnOf_23 : decode cX7_columnOf 23 = .ok (.bipush 40, 2) := by decide +kernel
theorem dX7_columnOf_25 : decode cX7_columnOf 25 = .ok (.iload_n 3, 1) := by decide +kernel
theorem dX7_columnOf_26 : decode cX7_columnOf 26 = .ok (.imul, 1) := by decide +kernel
theorem dX7_columnOf_27 : decode cX7_columnOf 27 = .ok (.bipush 30, 2) := by decide +kernel
theorem dX7_columnOf_29 : decode cX7_columnOf 29 = .ok (.idiv, 1) := by decide +kernel
theorem dX7_columnOf_30 : decode cX7_columnOf 30 = .ok (.ireturn, 1) := by decide +kernel
theorem dX7_columnOf_31 : decode cX7_columnOf 31 = .ok (.fconst 1, 1) := by decide +kernel
theorem dX7_columnOf_32 : decode cX7_columnOf 32 = .ok (.ldc 110, 2) := by decide +kernel
theorem dX7_columnOf_34 : decode cX7_columnOf 34 = .ok (.aload_n 0, 1) := by decide +kernel
theorem dX7_columnOf_35 : decode cX7_columnOf 35 = .ok (.getfield 17, 3) := by decide +kernel
theorem dX7_columnOf_38 : decode cX7_columnOf 38 = .ok (.iload_n 2, 1) := by decide +kernel
theorem dX7_columnOf_39 : decode cX7_columnOf 39 = .ok (.iaload, 1) := by decide +kernel
theorem dX7_columnOf_40 : decode cX7_columnOf 40 = .ok (.aload_n 0, 1) := by decide +kernel
theorem dX7_columnOf_41 : decode cX7_columnOf 41 = .ok (.getfield 38, 3) := by decide +kernel
theorem dX7_columnOf_44 : decode cX7_columnOf 44 = .ok (.iload_n 1, 1) := by decide +kernel
theorem dX7_columnOf_45 : decode cX7_columnOf 45 = .ok (.iaload, 1) := by decide +kernel
theorem dX7_columnOf_46 : decode cX7_columnOf 46 = .ok (.isub, 1) := by decide +kernel
theorem dX7_columnOf_47 : decode cX7_columnOf 47 = .ok (.i2f, 1) := by decide +kernel
theorem dX7_columnOf_48 : decode cX7_columnOf 48 = .ok (.fmul, 1) := by decide +kernel
theorem dX7_columnOf_49 : decode cX7_columnOf 49 = .ok (.fsub, 1) := by decide +kernel
theorem dX7_columnOf_50 : decode cX7_columnOf 50 = .ok (.fstore 4, 2) := by decide +kernel
theorem dX7_columnOf_52 : decode cX7_columnOf 52 = .ok (.iload_n 3, 1) := by decide +kernel
theorem dX7_columnOf_53 : decode cX7_columnOf 53 = .ok (.bipush 15, 2) := by decide +kernel
theorem dX7_columnOf_55 : decode cX7_columnOf 55 = .ok (.isub, 1) := by decide +kernel
theorem dX7_columnOf_56 : decode cX7_columnOf 56 = .ok (.i2f, 1) := by decide +kernel
theorem dX7_columnOf_57 : decode cX7_columnOf 57 = .ok (.ldc 111, 2) := by decide +kernel
theorem dX7_columnOf_59 : decode cX7_columnOf 59 = .ok (.fmul, 1) := by decide +kernel
theorem dX7_columnOf_60 : decode cX7_columnOf 60 = .ok (.ldc 112, 2) := by decide +kernel
theorem dX7_columnOf_62 : decode cX7_columnOf 62 = .ok (.fdiv, 1) := by decide +kernel
theorem dX7_columnOf_63 : decode cX7_columnOf 63 = .ok (.fload 4, 2) := by decide +kernel
theorem dX7_columnOf_65 : decode cX7_columnOf 65 = .ok (.fmul, 1) := by decide +kernel
theorem dX7_columnOf_66 : decode cX7_columnOf 66 = .ok (.fstore 5, 2) := by decide +kernel
theorem dX7_columnOf_68 : decode cX7_columnOf 68 = .ok (.ldc 113, 2) := by decide +kernel
theorem dX7_columnOf_70 : decode cX7_columnOf 70 = .ok (.fload 5, 2) := by decide +kernel
theorem dX7_columnOf_72 : decode cX7_columnOf 72 = .ok (.fadd, 1) := by decide +kernel
theorem dX7_columnOf_73 : decode cX7_columnOf 73 = .ok (.f2i, 1) := by decide +kernel
theorem dX7_columnOf_74 : decode cX7_columnOf 74 = .ok (.ireturn, 1) := by decide +kernel
theorem dX7_rowOf_0 : decode cX7_rowOf 0 = .ok (.bipush 24, 2) := by decide +kernel
theorem dX7_rowOf_2 : decode cX7_rowOf 2 = .ok (.aload_n 0, 1) := by decide +kernel
theorem dX7_rowOf_3 : decode cX7_rowOf 3 = .ok (.getfield 17, 3) := by decide +kernel
theorem dX7_rowOf_6 : decode cX7_rowOf 6 = .ok (.iload_n 2, 1) := by decide +kernel
theorem dX7_rowOf_7 : decode cX7_rowOf 7 = .ok (.iaload, 1) := by decide +kernel
theorem dX7_rowOf_8 : decode cX7_rowOf 8 = .ok (.aload_n 0, 1) := by decide +kernel
theorem dX7_rowOf_9 : decode cX7_rowOf 9 = .ok (.getfield 38, 3) := by decide +kernel
theorem dX7_rowOf_12 : decode cX7_rowOf 12 = .ok (.iload_n 1, 1) := by decide +kernel
theorem dX7_rowOf_13 : decode cX7_rowOf 13 = .ok (.iaload, 1) := by decide +kernel
theorem dX7_rowOf_14 : decode cX7_rowOf 14 = .ok (.isub, 1) := by decide +kernel
theorem dX7_rowOf_15 : decode cX7_rowOf 15 = .ok (.imul, 1) := by decide +kernel
theorem dX7_rowOf_16 : decode cX7_rowOf 16 = .ok (.bipush 20, 2) := by decide +kernel
theorem dX7_rowOf_18 : decode cX7_rowOf 18 = .ok (.idiv, 1) := by decide +kernel
theorem dX7_rowOf_19 : decode cX7_rowOf 19 = .ok (.ireturn, 1) := by decide +kernel
theorem dX7_dots_0 : decode cX7_dots 0 = .ok (.iconst 0, 1) := by decide +kernel
theorem dX7_dots_1 : decode cX7_dots 1 = .ok (.istore_n 3, 1) := by decide +kernel
theorem dX7_dots_2 : decode cX7_dots 2 = .ok (.iload_n 3, 1) := by decide +kernel
theorem dX7_dots_3 : decode cX7_dots 3 = .ok (.sipush 960, 3) := by decide +kernel
theorem dX7_dots_6 : decode cX7_dots 6 = .ok (.if_icmp .ge 17, 3) := by decide +kernel
theorem dX7_dots_9 : decode cX7_dots 9 = .ok (.aload_n 0, 1) := by decide +kernel
theorem dX7_dots_10 : decode cX7_dots 10 = .ok (.getfield 53, 3) := by decide +kernel
theorem dX7_dots_13 : decode cX7_dots 13 = .ok (.iload_n 3, 1) := by decide +kernel
theorem dX7_dots_14 : decode cX7_dots 14 = .ok (.bipush 46, 2) := by decide +kernel
theorem dX7_dots_16 : decode cX7_dots 16 = .ok (.castore, 1) := by decide +kernel
theorem dX7_dots_17 : decode cX7_dots 17 = .ok (.iinc 3 1, 3) := by decide +kernel
theorem dX7_dots_20 : decode cX7_dots 20 = .ok (.goto (-18), 3) := by decide +kernel
theorem dX7_dots_23 : decode cX7_dots 23 = .ok (.iconst 0, 1) := by decide +kernel
theorem dX7_dots_24 : decode cX7_dots 24 = .ok (.istore_n 3, 1) := by decide +kernel
theorem dX7_dots_25 : decode cX7_dots 25 = .ok (.iload_n 3, 1) := by decide +kernel
theorem dX7_dots_26 : decode cX7_dots 26 = .ok (.iload_n 2, 1) := by decide +kernel
theorem dX7_dots_27 : decode cX7_dots 27 = .ok (.if_icmp .ge 99, 3) := by decide +kernel
theorem dX7_dots_30 : decode cX7_dots 30 = .ok (.aload_n 0, 1) := by decide +kernel
theorem dX7_dots_31 : decode cX7_dots 31 = .ok (.getfield 44, 3) := by decide +kernel
theorem dX7_dots_34 : decode cX7_dots 34 = .ok (.iload_n 3, 1) := by decide +kernel
theorem dX7_dots_35 : decode cX7_dots 35 = .ok (.aload_n 0, 1) := by decide +kernel
theorem dX7_dots_36 : decode cX7_dots 36 = .ok (.iload_n 1, 1) := by decide +kernel
theorem dX7_dots_37 : decode cX7_dots 37 = .ok (.iload_n 3, 1) := by decide +kernel
theorem dX7_dots_38 : decode cX7_dots 38 = .ok (.invokevirtual 114, 3) := by decide +kernel
theorem dX7_dots_41 : decode cX7_dots 41 = .ok (.ifCond .eq 12, 3) := by decide +kernel
theorem dX7_dots_44 : decode cX7_dots 44 = .ok (.aload_n 0, 1) := by decide +kernel
theorem dX7_dots_45 : decode cX7_dots 45 = .ok (.iload_n 1, 1) := by decide +kernel
theorem dX7_dots_46 : decode cX7_dots 46 = .ok (.iload_n 3, 1) := by decide +kernel
theorem dX7_dots_47 : decode cX7_dots 47 = .ok (.invokevirtual 118, 3) := by decide +kernel
theorem dX7_dots_50 : decode cX7_dots 50 = .ok (.goto 4, 3) := by decide +kernel
theorem dX7_dots_53 : decode cX7_dots 53 = .ok (.iconst (-1), 1) := by decide +kernel
theorem dX7_dots_54 : decode cX7_dots 54 = .ok (.iastore, 1) := by decide +kernel
theorem dX7_dots_55 : decode cX7_dots 55 = .ok (.aload_n 0, 1) := by decide +kernel
theorem dX7_dots_56 : decode cX7_dots 56 = .ok (.getfield 47, 3) := by decide +kernel
theorem dX7_dots_59 : decode cX7_dots 59 = .ok (.iload_n 3, 1) := by decide +kernel
theorem dX7_dots_60 : decode cX7_dots 60 = .ok (.aload_n 0, 1) := by decide +kernel
theorem dX7_dots_61 : decode cX7_dots 61 = .ok (.iload_n 1, 1) := by decide +kernel
theorem dX7_dots_62 : decode cX7_dots 62 = .ok (.iload_n 3, 1) := by decide +kernel
theorem dX7_dots_63 : decode cX7_dots 63 = .ok (.invokevirtual 114, 3) := by decide +kernel
theorem dX7_dots_66 : decode cX7_dots 66 = .ok (.ifCond .eq 12, 3) := by decide +kernel
theorem dX7_dots_69 : decode cX7_dots 69 = .ok (.aload_n 0, 1) := by decide +kernel
theorem dX7_dots_70 : decode cX7_dots 70 = .ok (.iload_n 1, 1) := by decide +kernel
theorem dX7_dots_71 : decode cX7_dots 71 = .ok (.iload_n 3, 1) := by decide +kernel
theorem dX7_dots_72 : decode cX7_dots 72 = .ok (.invokevirtual 121, 3) := by decide +kernel
theorem dX7_dots_75 : decode cX7_dots 75 = .ok (.goto 4, 3) := by decide +kernel
theorem dX7_dots_78 : decode cX7_dots 78 = .ok (.iconst (-1), 1) := by decide +kernel
theorem dX7_dots_79 : decode cX7_dots 79 = .ok (.iastore, 1) := by decide +kernel
theorem dX7_dots_80 : decode cX7_dots 80 = .ok (.aload_n 0, 1) := by decide +kernel
theorem dX7_dots_81 : decode cX7_dots 81 = .ok (.getfield 50, 3) := by decide +kernel
theorem dX7_dots_84 : decode cX7_dots 84 = .ok (.iload_n 3, 1) := by decide +kernel
theorem dX7_dots_85 : decode cX7_dots 85 = .ok (.iconst (-1), 1) := by decide +kernel
theorem dX7_dots_86 : decode cX7_dots 86 = .ok (.iastore, 1) := by decide +kernel
theorem dX7_dots_87 : decode cX7_dots 87 = .ok (.aload_n 0, 1) := by decide +kernel
theorem dX7_dots_88 : decode cX7_dots 88 = .ok (.getfield 44, 3) := by decide +kernel
theorem dX7_dots_91 : decode cX7_dots 91 = .ok (.iload_n 3, 1) := by decide +kernel
theorem dX7_dots_92 : decode cX7_dots 92 = .ok (.iaload, 1) := by decide +kernel
theorem dX7_dots_93 : decode cX7_dots 93 = .ok (.iconst (-1), 1) := by decide +kernel
theorem dX7_dots_94 : decode cX7_dots 94 = .ok (.if_icmp .eq 26, 3) := by decide +kernel
theorem dX7_dots_97 : decode cX7_dots 97 = .ok (.aload_n 0, 1) := by decide +kernel
theorem dX7_dots_98 : decode cX7_dots 98 = .ok (.getfield 53, 3) := by decide +kernel
theorem dX7_dots_101 : decode cX7_dots 101 = .ok (.bipush 40, 2) := by decide +kernel
theorem dX7_dots_103 : decode cX7_dots 103 = .ok (.aload_n 0, 1) := by decide +kernel
theorem dX7_dots_104 : decode cX7_dots 104 = .ok (.getfield 47, 3) := by decide +kernel
theorem dX7_dots_107 : decode cX7_dots 107 = .ok (.iload_n 3, 1) := by decide +kernel
theorem dX7_dots_108 : decode cX7_dots 108 = .ok (.iaload, 1) := by decide +kernel
theorem dX7_dots_109 : decode cX7_dots 109 = .ok (.imul, 1) := by decide +kernel
theorem dX7_dots_110 : decode cX7_dots 110 = .ok (.aload_n 0, 1) := by decide +kernel
theorem dX7_dots_111 : decode cX7_dots 111 = .ok (.getfield 44, 3) := by decide +kernel
theorem dX7_dots_114 : decode cX7_dots 114 = .ok (.iload_n 3, 1) := by decide +kernel
theorem dX7_dots_115 : decode cX7_dots 115 = .ok (.iaload, 1) := by decide +kernel
theorem dX7_dots_116 : decode cX7_dots 116 = .ok (.iadd, 1) := by decide +kernel
theorem dX7_dots_117 : decode cX7_dots 117 = .ok (.bipush 42, 2) := by decide +kernel
theorem dX7_dots_119 : decode cX7_dots 119 = .ok (.castore, 1) := by decide +kernel
theorem dX7_dots_120 : decode cX7_dots 120 = .ok (.iinc 3 1, 3) := by decide +kernel
theorem dX7_dots_123 : decode cX7_dots 123 = .ok (.goto (-98), 3) := by decide +kernel
theorem dX7_dots_126 : decode cX7_dots 126 = .ok (.return_, 1) := by decide +kernel
theorem dX7_rowAt_0 : decode cX7_rowAt 0 = .ok (.iload_n 1, 1) := by decide +kernel
theorem dX7_rowAt_1 : decode cX7_rowAt 1 = .ok (.iconst 2, 1) := by decide +kernel
theorem dX7_rowAt_2 : decode cX7_rowAt 2 = .ok (.if_icmp .ne 9, 3) := by decide +kernel
theorem dX7_rowAt_5 : decode cX7_rowAt 5 = .ok (.iload_n 0, 1) := by decide +kernel
theorem dX7_rowAt_6 : decode cX7_rowAt 6 = .ok (.iconst 1, 1) := by decide +kernel
theorem dX7_rowAt_7 : decode cX7_rowAt 7 = .ok (.iadd, 1) := by decide +kernel
theorem dX7_rowAt_8 : decode cX7_rowAt 8 = .ok (.goto 15, 3) := by decide +kernel
theorem dX7_rowAt_11 : decode cX7_rowAt 11 = .ok (.iload_n 1, 1) := by decide +kernel
theorem dX7_rowAt_12 : decode cX7_rowAt 12 = .ok (.iconst 3, 1) := by decide +kernel
theorem dX7_rowAt_13 : decode cX7_rowAt 13 = .ok (.if_icmp .ne 9, 3) := by decide +kernel
theorem dX7_rowAt_16 : decode cX7_rowAt 16 = .ok (.iload_n 0, 1) := by decide +kernel
theorem dX7_rowAt_17 : decode cX7_rowAt 17 = .ok (.iconst 1, 1) := by decide +kernel
theorem dX7_rowAt_18 : decode cX7_rowAt 18 = .ok (.isub, 1) := by decide +kernel
theorem dX7_rowAt_19 : decode cX7_rowAt 19 = .ok (.goto 4, 3) := by decide +kernel
theorem dX7_rowAt_22 : decode cX7_rowAt 22 = .ok (.iload_n 0, 1) := by decide +kernel
theorem dX7_rowAt_23 : decode cX7_rowAt 23 = .ok (.ireturn, 1) := by decide +kernel
theorem dX7_columnAt_0 : decode cX7_columnAt 0 = .ok (.iload_n 1, 1) := by decide +kernel
theorem dX7_columnAt_1 : decode cX7_columnAt 1 = .ok (.ifCond .ne 9, 3) := by decide +kernel
theorem dX7_columnAt_4 : decode cX7_columnAt 4 = .ok (.iload_n 0, 1) := by decide +kernel
theorem dX7_columnAt_5 : decode cX7_columnAt 5 = .ok (.iconst 1, 1) := by decide +kernel
theorem dX7_columnAt_6 : decode cX7_columnAt 6 = .ok (.iadd, 1) := by decide +kernel
theorem dX7_columnAt_7 : decode cX7_columnAt 7 = .ok (.goto 19, 3) := by decide +kernel
theorem dX7_columnAt_10 : decode cX7_columnAt 10 = .ok (.iload_n 1, 1) := by decide +kernel
theorem dX7_columnAt_11 : decode cX7_columnAt 11 = .ok (.iconst 1, 1) := by decide +kernel
theorem dX7_columnAt_12 : decode cX7_columnAt 12 = .ok (.if_icmp .ne 9, 3) := by decide +kernel
theorem dX7_columnAt_15 : decode cX7_columnAt 15 = .ok (.iload_n 0, 1) := by decide +kernel
theorem dX7_columnAt_16 : decode cX7_columnAt 16 = .ok (.iload_n 2, 1) := by decide +kernel
theorem dX7_columnAt_17 : decode cX7_columnAt 17 = .ok (.isub, 1) := by decide +kernel
theorem dX7_columnAt_18 : decode cX7_columnAt 18 = .ok (.goto 8, 3) := by decide +kernel
theorem dX7_columnAt_21 : decode cX7_columnAt 21 = .ok (.iload_n 0, 1) := by decide +kernel
theorem dX7_columnAt_22 : decode cX7_columnAt 22 = .ok (.iload_n 2, 1) := by decide +kernel
theorem dX7_columnAt_23 : decode cX7_columnAt 23 = .ok (.iconst 2, 1) := by decide +kernel
theorem dX7_columnAt_24 : decode cX7_columnAt 24 = .ok (.idiv, 1) := by decide +kernel
theorem dX7_columnAt_25 : decode cX7_columnAt 25 = .ok (.isub, 1) := by decide +kernel
theorem dX7_columnAt_26 : decode cX7_columnAt 26 = .ok (.ireturn, 1) := by decide +kernel
theorem dX7_mayStand_0 : decode cX7_mayStand 0 = .ok (.aload_n 0, 1) := by decide +kernel
theorem dX7_mayStand_1 : decode cX7_mayStand 1 = .ok (.getfield 47, 3) := by decide +kernel
theorem dX7_mayStand_4 : decode cX7_mayStand 4 = .ok (.iload_n 1, 1) := by decide +kernel
theorem dX7_mayStand_5 : decode cX7_mayStand 5 = .ok (.iaload, 1) := by decide +kernel
theorem dX7_mayStand_6 : decode cX7_mayStand 6 = .ok (.iload_n 3, 1) := by decide +kernel
theorem dX7_mayStand_7 : decode cX7_mayStand 7 = .ok (.invokestatic 124, 3) := by decide +kernel
theorem dX7_mayStand_10 : decode cX7_mayStand 10 = .ok (.istore 4, 2) := by decide +kernel
theorem dX7_mayStand_12 : decode cX7_mayStand 12 = .ok (.aload_n 0, 1) := by decide +kernel
theorem dX7_mayStand_13 : decode cX7_mayStand 13 = .ok (.getfield 44, 3) := by decide +kernel
theorem dX7_mayStand_16 : decode cX7_mayStand 16 = .ok (.iload_n 1, 1) := by decide +kernel
theorem dX7_mayStand_17 : decode cX7_mayStand 17 = .ok (.iaload, 1) := by decide +kernel
theorem dX7_mayStand_18 : decode cX7_mayStand 18 = .ok (.iload_n 3, 1) := by decide +kernel
theorem dX7_mayStand_19 : decode cX7_mayStand 19 = .ok (.aload_n 0, 1) := by decide +kernel
theorem dX7_mayStand_20 : decode cX7_mayStand 20 = .ok (.getfield 29, 3) := by decide +kernel
theorem dX7_mayStand_23 : decode cX7_mayStand 23 = .ok (.iload_n 2, 1) := by decide +kernel
theorem dX7_mayStand_24 : decode cX7_mayStand 24 = .ok (.iaload, 1) := by decide +kernel
theorem dX7_mayStand_25 : decode cX7_mayStand 25 = .ok (.invokestatic 127, 3) := by decide +kernel
theorem dX7_mayStand_28 : decode cX7_mayStand 28 = .ok (.istore 5, 2) := by decide +kernel
theorem dX7_mayStand_30 : decode cX7_mayStand 30 = .ok (.iload 4, 2) := by decide +kernel
theorem dX7_mayStand_32 : decode cX7_mayStand 32 = .ok (.iconst 0, 1) := by decide +kernel
theorem dX7_mayStand_33 : decode cX7_mayStand 33 = .ok (.bipush 23, 2) := by decide +kernel
theorem dX7_mayStand_35 : decode cX7_mayStand 35 = .ok (.invokestatic 81, 3) := by decide +kernel
theorem dX7_mayStand_38 : decode cX7_mayStand 38 = .ok (.ifCond .eq 26, 3) := by decide +kernel
theorem dX7_mayStand_41 : decode cX7_mayStand 41 = .ok (.iload 5, 2) := by decide +kernel
theorem dX7_mayStand_43 : decode cX7_mayStand 43 = .ok (.ifCond .lt 21, 3) := by decide +kernel
theorem dX7_mayStand_46 : decode cX7_mayStand 46 = .ok (.iload 5, 2) := by decide +kernel
theorem dX7_mayStand_48 : decode cX7_mayStand 48 = .ok (.aload_n 0, 1) := by decide +kernel
theorem dX7_mayStand_49 : decode cX7_mayStand 49 = .ok (.getfield 29, 3) := by decide +kernel
theorem dX7_mayStand_52 : decode cX7_mayStand 52 = .ok (.iload_n 2, 1) := by decide +kernel
theorem dX7_mayStand_53 : decode cX7_mayStand 53 = .ok (.iaload, 1) := by decide +kernel
theorem dX7_mayStand_54 : decode cX7_mayStand 54 = .ok (.iadd, 1) := by decide +kernel
theorem dX7_mayStand_55 : decode cX7_mayStand 55 = .ok (.bipush 40, 2) := by decide +kernel
theorem dX7_mayStand_57 : decode cX7_mayStand 57 = .ok (.if_icmp .gt 7, 3) := by decide +kernel
theorem dX7_mayStand_60 : decode cX7_mayStand 60 = .ok (.iconst 1, 1) := by decide +kernel
theorem dX7_mayStand_61 : decode cX7_mayStand 61 = .ok (.goto 4, 3) := by decide +kernel
theorem dX7_mayStand_64 : decode cX7_mayStand 64 = .ok (.iconst 0, 1) := by decide +kernel
theorem dX7_mayStand_65 : decode cX7_mayStand 65 = .ok (.istore 6, 2) := by decide +kernel
theorem dX7_mayStand_67 : decode cX7_mayStand 67 = .ok (.iconst 0, 1) := by decide +kernel
theorem dX7_mayStand_68 : decode cX7_mayStand 68 = .ok (.istore 7, 2) := by decide +kernel
theorem dX7_mayStand_70 : decode cX7_mayStand 70 = .ok (.iload 7, 2) := by decide +kernel
theorem dX7_mayStand_72 : decode cX7_mayStand 72 = .ok (.aload_n 0, 1) := by decide +kernel
theorem dX7_mayStand_73 : decode cX7_mayStand 73 = .ok (.getfield 29, 3) := by decide +kernel
theorem dX7_mayStand_76 : decode cX7_mayStand 76 = .ok (.iload_n 2, 1) := by decide +kernel
theorem dX7_mayStand_77 : decode cX7_mayStand 77 = .ok (.iaload, 1) := by decide +kernel
theorem dX7_mayStand_78 : decode cX7_mayStand 78 = .ok (.if_icmp .ge 42, 3) := by decide +kernel
theorem dX7_mayStand_81 : decode cX7_mayStand 81 = .ok (.iload 6, 2) := by decide +kernel
theorem dX7_mayStand_83 : decode cX7_mayStand 83 = .ok (.ifCond .eq 37, 3) := by decide +kernel
theorem dX7_mayStand_86 : decode cX7_mayStand 86 = .ok (.aload_n 0, 1) := by decide +kernel
theorem dX7_mayStand_87 : decode cX7_mayStand 87 = .ok (.getfield 53, 3) := by decide +kernel
theorem dX7_mayStand_90 : decode cX7_mayStand 90 = .ok (.bipush 40, 2) := by decide +kernel
theorem dX7_mayStand_92 : decode cX7_mayStand 92 = .ok (.iload 4, 2) := by decide +kernel
theorem dX7_mayStand_94 : decode cX7_mayStand 94 = .ok (.imul, 1) := by decide +kernel
theorem dX7_mayStand_95 : decode cX7_mayStand 95 = .ok (.iload 5, 2) := by decide +kernel
theorem dX7_mayStand_97 : decode cX7_mayStand 97 = .ok (.iadd, 1) := by decide +kernel
theorem dX7_mayStand_98 : decode cX7_mayStand 98 = .ok (.iload 7, 2) := by decide +kernel
theorem dX7_mayStand_100 : decode cX7_mayStand 100 = .ok (.iadd, 1) := by decide +kernel
theorem dX7_mayStand_101 : decode cX7_mayStand 101 = .ok (.caload, 1) := by decide +kernel
theorem dX7_mayStand_102 : decode cX7_mayStand 102 = .ok (.bipush 46, 2) := by decide +kernel
theorem dX7_mayStand_104 : decode cX7_mayStand 104 = .ok (.if_icmp .ne 7, 3) := by decide +kernel
theorem dX7_mayStand_107 : decode cX7_mayStand 107 = .ok (.iconst 1, 1) := by decide +kernel
theorem dX7_mayStand_108 : decode cX7_mayStand 108 = .ok (.goto 4, 3) := by decide +kernel
theorem dX7_mayStand_111 : decode cX7_mayStand 111 = .ok (.iconst 0, 1) := by decide +kernel
theorem dX7_mayStand_112 : decode cX7_mayStand 112 = .ok (.istore 6, 2) := by decide +kernel
theorem dX7_mayStand_114 : decode cX7_mayStand 114 = .ok (.iinc 7 1, 3) := by decide +kernel
theorem dX7_mayStand_117 : decode cX7_mayStand 117 = .ok (.goto (-47), 3) := by decide +kernel
theorem dX7_mayStand_120 : decode cX7_mayStand 120 = .ok (.iload 6, 2) := by decide +kernel
theorem dX7_mayStand_122 : decode cX7_mayStand 122 = .ok (.ireturn, 1) := by decide +kernel
theorem dX7_puts_0 : decode cX7_puts 0 = .ok (.aload_n 0, 1) := by decide +kernel
theorem dX7_puts_1 : decode cX7_puts 1 = .ok (.getfield 47, 3) := by decide +kernel
theorem dX7_puts_4 : decode cX7_puts 4 = .ok (.iload_n 1, 1) := by decide +kernel
theorem dX7_puts_5 : decode cX7_puts 5 = .ok (.iaload, 1) := by decide +kernel
theorem dX7_puts_6 : decode cX7_puts 6 = .ok (.iload_n 3, 1) := by decide +kernel
theorem dX7_puts_7 : decode cX7_puts 7 = .ok (.invokestatic 124, 3) := by decide +kernel
theorem dX7_puts_10 : decode cX7_puts 10 = .ok (.istore 4, 2) := by decide +kernel
theorem dX7_puts_12 : decode cX7_puts 12 = .ok (.aload_n 0, 1) := by decide +kernel
theorem dX7_puts_13 : decode cX7_puts 13 = .ok (.getfield 44, 3) := by decide +kernel
theorem dX7_puts_16 : decode cX7_puts 16 = .ok (.iload_n 1, 1) := by decide +kernel
theorem dX7_puts_17 : decode cX7_puts 17 = .ok (.iaload, 1) := by decide +kernel
theorem dX7_puts_18 : decode cX7_puts 18 = .ok (.iload_n 3, 1) := by decide +kernel
theorem dX7_puts_19 : decode cX7_puts 19 = .ok (.aload_n 0, 1) := by decide +kernel
theorem dX7_puts_20 : decode cX7_puts 20 = .ok (.getfield 29, 3) := by decide +kernel
theorem dX7_puts_23 : decode cX7_puts 23 = .ok (.iload_n 2, 1) := by decide +kernel
theorem dX7_puts_24 : decode cX7_puts 24 = .ok (.iaload, 1) := by decide +kernel
theorem dX7_puts_25 : decode cX7_puts 25 = .ok (.invokestatic 127, 3) := by decide +kernel
theorem dX7_puts_28 : decode cX7_puts 28 = .ok (.istore 5, 2) := by decide +kernel
theorem dX7_puts_30 : decode cX7_puts 30 = .ok (.iconst 0, 1) := by decide +kernel
theorem dX7_puts_31 : decode cX7_puts 31 = .ok (.istore 6, 2) := by decide +kernel
theorem dX7_puts_33 : decode cX7_puts 33 = .ok (.iload 6, 2) := by decide +kernel
theorem dX7_puts_35 : decode cX7_puts 35 = .ok (.aload_n 0, 1) := by decide +kernel
theorem dX7_puts_36 : decode cX7_puts 36 = .ok (.getfield 29, 3) := by decide +kernel
theorem dX7_puts_39 : decode cX7_puts 39 = .ok (.iload_n 2, 1) := by decide +kernel
theorem dX7_puts_40 : decode cX7_puts 40 = .ok (.iaload, 1) := by decide +kernel
theorem dX7_puts_41 : decode cX7_puts 41 = .ok (.if_icmp .ge 37, 3) := by decide +kernel
theorem dX7_puts_44 : decode cX7_puts 44 = .ok (.aload_n 0, 1) := by decide +kernel
theorem dX7_puts_45 : decode cX7_puts 45 = .ok (.getfield 53, 3) := by decide +kernel
theorem dX7_puts_48 : decode cX7_puts 48 = .ok (.bipush 40, 2) := by decide +kernel
theorem dX7_puts_50 : decode cX7_puts 50 = .ok (.iload 4, 2) := by decide +kernel
theorem dX7_puts_52 : decode cX7_puts 52 = .ok (.imul, 1) := by decide +kernel
theorem dX7_puts_53 : decode cX7_puts 53 = .ok (.iload 5, 2) := by decide +kernel
theorem dX7_puts_55 : decode cX7_puts 55 = .ok (.iadd, 1) := by decide +kernel
theorem dX7_puts_56 : decode cX7_puts 56 = .ok (.iload 6, 2) := by decide +kernel
theorem dX7_puts_58 : decode cX7_puts 58 = .ok (.iadd, 1) := by decide +kernel
theorem dX7_puts_59 : decode cX7_puts 59 = .ok (.aload_n 0, 1) := by decide +kernel
theorem dX7_puts_60 : decode cX7_puts 60 = .ok (.getfield 32, 3) := by decide +kernel
theorem dX7_puts_63 : decode cX7_puts 63 = .ok (.bipush 8, 2) := by decide +kernel
theorem dX7_puts_65 : decode cX7_puts 65 = .ok (.iload_n 2, 1) := by decide +kernel
theorem dX7_puts_66 : decode cX7_puts 66 = .ok (.imul, 1) := by decide +kernel
theorem dX7_puts_67 : decode cX7_puts 67 = .ok (.iload 6, 2) := by decide +kernel
theorem dX7_puts_69 : decode cX7_puts 69 = .ok (.iadd, 1) := by decide +kernel
theorem dX7_puts_70 : decode cX7_puts 70 = .ok (.caload, 1) := by decide +kernel
theorem dX7_puts_71 : decode cX7_puts 71 = .ok (.castore, 1) := by decide +kernel
theorem dX7_puts_72 : decode cX7_puts 72 = .ok (.iinc 6 1, 3) := by decide +kernel
theorem dX7_puts_75 : decode cX7_puts 75 = .ok (.goto (-42), 3) := by decide +kernel
theorem dX7_puts_78 : decode cX7_puts 78 = .ok (.return_, 1) := by decide +kernel
theorem dX7_takes_0 : decode cX7_takes 0 = .ok (.aload_n 0, 1) := by decide +kernel
theorem dX7_takes_1 : decode cX7_takes 1 = .ok (.getfield 47, 3) := by decide +kernel
theorem dX7_takes_4 : decode cX7_takes 4 = .ok (.iload_n 1, 1) := by decide +kernel
theorem dX7_takes_5 : decode cX7_takes 5 = .ok (.iaload, 1) := by decide +kernel
theorem dX7_takes_6 : decode cX7_takes 6 = .ok (.iload_n 3, 1) := by decide +kernel
theorem dX7_takes_7 : decode cX7_takes 7 = .ok (.invokestatic 124, 3) := by decide +kernel
theorem dX7_takes_10 : decode cX7_takes 10 = .ok (.istore 4, 2) := by decide +kernel
theorem dX7_takes_12 : decode cX7_takes 12 = .ok (.aload_n 0, 1) := by decide +kernel
theorem dX7_takes_13 : decode cX7_takes 13 = .ok (.getfield 44, 3) := by decide +kernel
theorem dX7_takes_16 : decode cX7_takes 16 = .ok (.iload_n 1, 1) := by decide +kernel
theorem dX7_takes_17 : decode cX7_takes 17 = .ok (.iaload, 1) := by decide +kernel
theorem dX7_takes_18 : decode cX7_takes 18 = .ok (.iload_n 3, 1) := by decide +kernel
theorem dX7_takes_19 : decode cX7_takes 19 = .ok (.aload_n 0, 1) := by decide +kernel
theorem dX7_takes_20 : decode cX7_takes 20 = .ok (.getfield 29, 3) := by decide +kernel
theorem dX7_takes_23 : decode cX7_takes 23 = .ok (.iload_n 2, 1) := by decide +kernel
theorem dX7_takes_24 : decode cX7_takes 24 = .ok (.iaload, 1) := by decide +kernel
theorem dX7_takes_25 : decode cX7_takes 25 = .ok (.invokestatic 127, 3) := by decide +kernel
theorem dX7_takes_28 : decode cX7_takes 28 = .ok (.istore 5, 2) := by decide +kernel
theorem dX7_takes_30 : decode cX7_takes 30 = .ok (.iconst 0, 1) := by decide +kernel
theorem dX7_takes_31 : decode cX7_takes 31 = .ok (.istore 6, 2) := by decide +kernel
theorem dX7_takes_33 : decode cX7_takes 33 = .ok (.iload 6, 2) := by decide +kernel
theorem dX7_takes_35 : decode cX7_takes 35 = .ok (.aload_n 0, 1) := by decide +kernel
theorem dX7_takes_36 : decode cX7_takes 36 = .ok (.getfield 29, 3) := by decide +kernel
theorem dX7_takes_39 : decode cX7_takes 39 = .ok (.iload_n 2, 1) := by decide +kernel
theorem dX7_takes_40 : decode cX7_takes 40 = .ok (.iaload, 1) := by decide +kernel
theorem dX7_takes_41 : decode cX7_takes 41 = .ok (.if_icmp .ge 27, 3) := by decide +kernel
theorem dX7_takes_44 : decode cX7_takes 44 = .ok (.aload_n 0, 1) := by decide +kernel
theorem dX7_takes_45 : decode cX7_takes 45 = .ok (.getfield 53, 3) := by decide +kernel
theorem dX7_takes_48 : decode cX7_takes 48 = .ok (.bipush 40, 2) := by decide +kernel
theorem dX7_takes_50 : decode cX7_takes 50 = .ok (.iload 4, 2) := by decide +kernel
theorem dX7_takes_52 : decode cX7_takes 52 = .ok (.imul, 1) := by decide +kernel
theorem dX7_takes_53 : decode cX7_takes 53 = .ok (.iload 5, 2) := by decide +kernel
theorem dX7_takes_55 : decode cX7_takes 55 = .ok (.iadd, 1) := by decide +kernel
theorem dX7_takes_56 : decode cX7_takes 56 = .ok (.iload 6, 2) := by decide +kernel
theorem dX7_takes_58 : decode cX7_takes 58 = .ok (.iadd, 1) := by decide +kernel
theorem dX7_takes_59 : decode cX7_takes 59 = .ok (.bipush 46, 2) := by decide +kernel
theorem dX7_takes_61 : decode cX7_takes 61 = .ok (.castore, 1) := by decide +kernel
theorem dX7_takes_62 : decode cX7_takes 62 = .ok (.iinc 6 1, 3) := by decide +kernel
theorem dX7_takes_65 : decode cX7_takes 65 = .ok (.goto (-32), 3) := by decide +kernel
theorem dX7_takes_68 : decode cX7_takes 68 = .ok (.return_, 1) := by decide +kernel
theorem dX7_hasName_0 : decode cX7_hasName 0 = .ok (.aload_n 0, 1) := by decide +kernel
theorem dX7_hasName_1 : decode cX7_hasName 1 = .ok (.getfield 44, 3) := by decide +kernel
theorem dX7_hasName_4 : decode cX7_hasName 4 = .ok (.iload_n 1, 1) := by decide +kernel
theorem dX7_hasName_5 : decode cX7_hasName 5 = .ok (.iaload, 1) := by decide +kernel
theorem dX7_hasName_6 : decode cX7_hasName 6 = .ok (.iconst (-1), 1) := by decide +kernel
theorem dX7_hasName_7 : decode cX7_hasName 7 = .ok (.if_icmp .eq 20, 3) := by decide +kernel
theorem dX7_hasName_10 : decode cX7_hasName 10 = .ok (.aload_n 0, 1) := by decide +kernel
theorem dX7_hasName_11 : decode cX7_hasName 11 = .ok (.iload_n 1, 1) := by decide +kernel
theorem dX7_hasName_12 : decode cX7_hasName 12 = .ok (.aload_n 0, 1) := by decide +kernel
theorem dX7_hasName_13 : decode cX7_hasName 13 = .ok (.getfield 103, 3) := by decide +kernel
theorem dX7_hasName_16 : decode cX7_hasName 16 = .ok (.invokevirtual 106, 3) := by decide +kernel
theorem dX7_hasName_19 : decode cX7_hasName 19 = .ok (.iconst (-1), 1) := by decide +kernel
theorem dX7_hasName_20 : decode cX7_hasName 20 = .ok (.if_icmp .eq 7, 3) := by decide +kernel
theorem dX7_hasName_23 : decode cX7_hasName 23 = .ok (.iconst 1, 1) := by decide +kernel
theorem dX7_hasName_24 : decode cX7_hasName 24 = .ok (.goto 4, 3) := by decide +kernel
theorem dX7_hasName_27 : decode cX7_hasName 27 = .ok (.iconst 0, 1) := by decide +kernel
theorem dX7_hasName_28 : decode cX7_hasName 28 = .ok (.ireturn, 1) := by decide +kernel
theorem dX7_lays_0 : decode cX7_lays 0 = .ok (.aload_n 0, 1) := by decide +kernel
theorem dX7_lays_1 : decode cX7_lays 1 = .ok (.iload_n 1, 1) := by decide +kernel
theorem dX7_lays_2 : decode cX7_lays 2 = .ok (.aload_n 0, 1) := by decide +kernel
theorem dX7_lays_3 : decode cX7_lays 3 = .ok (.getfield 78, 3) := by decide +kernel
theorem dX7_lays_6 : decode cX7_lays 6 = .ok (.invokevirtual 131, 3) := by decide +kernel
theorem dX7_lays_9 : decode cX7_lays 9 = .ok (.iconst 5, 1) := by decide +kernel
theorem dX7_lays_10 : decode cX7_lays 10 = .ok (.istore_n 2, 1) := by decide +kernel
theorem dX7_lays_11 : decode cX7_lays 11 = .ok (.iload_n 2, 1) := by decide +kernel
theorem dX7_lays_12 : decode cX7_lays 12 = .ok (.ifCond .le 108, 3) := by decide +kernel
theorem dX7_lays_15 : decode cX7_lays 15 = .ok (.iconst 0, 1) := by decide +kernel
theorem dX7_lays_16 : decode cX7_lays 16 = .ok (.istore_n 3, 1) := by decide +kernel
theorem dX7_lays_17 : decode cX7_lays 17 = .ok (.iload_n 3, 1) := by decide +kernel
theorem dX7_lays_18 : decode cX7_lays 18 = .ok (.aload_n 0, 1) := by decide +kernel
theorem dX7_lays_19 : decode cX7_lays 19 = .ok (.getfield 78, 3) := by decide +kernel
theorem dX7_lays_22 : decode cX7_lays 22 = .ok (.if_icmp .ge 92, 3) := by decide +kernel
theorem dX7_lays_25 : decode cX7_lays 25 = .ok (.aload_n 0, 1) := by decide +kernel
theorem dX7_lays_26 : decode cX7_lays 26 = .ok (.getfield 20, 3) := by decide +kernel
theorem dX7_lays_29 : decode cX7_lays 29 = .ok (.iload_n 3, 1) := by decide +kernel
theorem dX7_lays_30 : decode cX7_lays 30 = .ok (.iaload, 1) := by decide +kernel
theorem dX7_lays_31 : decode cX7_lays 31 = .ok (.iload_n 2, 1) := by decide +kernel
theorem dX7_lays_32 : decode cX7_lays 32 = .ok (.if_icmp .ne 76, 3) := by decide +kernel
theorem dX7_lays_35 : decode cX7_lays 35 = .ok (.aload_n 0, 1) := by decide +kernel
theorem dX7_lays_36 : decode cX7_lays 36 = .ok (.iload_n 3, 1) := by decide +kernel
theorem dX7_lays_37 : decode cX7_lays 37 = .ok (.invokevirtual 135, 3) := by decide +kernel
theorem dX7_lays_40 : decode cX7_lays 40 = .ok (.ifCond .eq 68, 3) := by decide +kernel
theorem dX7_lays_43 : decode cX7_lays 43 = .ok (.aload_n 0, 1) := by decide +kernel
theorem dX7_lays_44 : decode cX7_lays 44 = .ok (.iload_n 3, 1) := by decide +kernel
theorem dX7_lays_45 : decode cX7_lays 45 = .ok (.aload_n 0, 1) := by decide +kernel
theorem dX7_lays_46 : decode cX7_lays 46 = .ok (.getfield 103, 3) := by decide +kernel
theorem dX7_lays_49 : decode cX7_lays 49 = .ok (.invokevirtual 106, 3) := by decide +kernel
theorem dX7_lays_52 : decode cX7_lays 52 = .ok (.istore 4, 2) := by decide +kernel
theorem dX7_lays_54 : decode cX7_lays 54 = .ok (.iconst 0, 1) := by decide +kernel
theorem dX7_lays_55 : decode cX7_lays 55 = .ok (.istore 5, 2) := by decide +kernel
theorem dX7_lays_57 : decode cX7_lays 57 = .ok (.iload 5, 2) := by decide +kernel
theorem dX7_lays_59 : decode cX7_lays 59 = .ok (.iconst 4, 1) := by decide +kernel
theorem dX7_lays_60 : decode cX7_lays 60 = .ok (.if_icmp .ge 48, 3) := by decide +kernel
theorem dX7_lays_63 : decode cX7_lays 63 = .ok (.aload_n 0, 1) := by decide +kernel
theorem dX7_lays_64 : decode cX7_lays 64 = .ok (.getfield 50, 3) := by decide +kernel
theorem dX7_lays_67 : decode cX7_lays 67 = .ok (.iload_n 3, 1) := by decide +kernel
theorem dX7_lays_68 : decode cX7_lays 68 = .ok (.iaload, 1) := by decide +kernel
theorem dX7_lays_69 : decode cX7_lays 69 = .ok (.iconst (-1), 1) := by decide +kernel
theorem dX7_lays_70 : decode cX7_lays 70 = .ok (.if_icmp .ne 38, 3) := by decide +kernel
theorem dX7_lays_73 : decode cX7_lays 73 = .ok (.aload_n 0, 1) := by decide +kernel
theorem dX7_lays_74 : decode cX7_lays 74 = .ok (.iload_n 3, 1) := by decide +kernel
theorem dX7_lays_75 : decode cX7_lays 75 = .ok (.iload 4, 2) := by decide +kernel
theorem dX7_lays_77 : decode cX7_lays 77 = .ok (.iload 5, 2) := by decide +kernel
theorem dX7_lays_79 : decode cX7_lays 79 = .ok (.invokevirtual 138, 3) := by decide +kernel
theorem dX7_lays_82 : decode cX7_lays 82 = .ok (.ifCond .eq 20, 3) := by decide +kernel
theorem dX7_lays_85 : decode cX7_lays 85 = .ok (.aload_n 0, 1) := by decide +kernel
theorem dX7_lays_86 : decode cX7_lays 86 = .ok (.iload_n 3, 1) := by decide +kernel
theorem dX7_lays_87 : decode cX7_lays 87 = .ok (.iload 4, 2) := by decide +kernel
theorem dX7_lays_89 : decode cX7_lays 89 = .ok (.iload 5, 2) := by decide +kernel
theorem dX7_lays_91 : decode cX7_lays 91 = .ok (.invokevirtual 141, 3) := by decide +kernel
theorem dX7_lays_94 : decode cX7_lays 94 = .ok (.aload_n 0, 1) := by decide +kernel
theorem dX7_lays_95 : decode cX7_lays 95 = .ok (.getfield 50, 3) := by decide +kernel
theorem dX7_lays_98 : decode cX7_lays 98 = .ok (.iload_n 3, 1) := by decide +kernel
theorem dX7_lays_99 : decode cX7_lays 99 = .ok (.iload 5, 2) := by decide +kernel
theorem dX7_lays_101 : decode cX7_lays 101 = .ok (.iastore, 1) := by decide +kernel
theorem dX7_lays_102 : decode cX7_lays 102 = .ok (.iinc 5 1, 3) := by decide +kernel
theorem dX7_lays_105 : decode cX7_lays 105 = .ok (.goto (-48), 3) := by decide +kernel
theorem dX7_lays_108 : decode cX7_lays 108 = .ok (.iinc 3 1, 3) := by decide +kernel
theorem dX7_lays_111 : decode cX7_lays 111 = .ok (.goto (-94), 3) := by decide +kernel
theorem dX7_lays_114 : decode cX7_lays 114 = .ok (.iinc 2 (-1), 3) := by decide +kernel
theorem dX7_lays_117 : decode cX7_lays 117 = .ok (.goto (-106), 3) := by decide +kernel
theorem dX7_lays_120 : decode cX7_lays 120 = .ok (.return_, 1) := by decide +kernel
theorem dX7_dot_0 : decode cX7_dot 0 = .ok (.aload_n 0, 1) := by decide +kernel
theorem dX7_dot_1 : decode cX7_dot 1 = .ok (.aload_n 0, 1) := by decide +kernel
theorem dX7_dot_2 : decode cX7_dot 2 = .ok (.iload_n 1, 1) := by decide +kernel
theorem dX7_dot_3 : decode cX7_dot 3 = .ok (.invokevirtual 145, 3) := by decide +kernel
theorem dX7_dot_6 : decode cX7_dot 6 = .ok (.ifCond .eq 15, 3) := by decide +kernel
theorem dX7_dot_9 : decode cX7_dot 9 = .ok (.aload_n 0, 1) := by decide +kernel
theorem dX7_dot_10 : decode cX7_dot 10 = .ok (.iload_n 2, 1) := by decide +kernel
theorem dX7_dot_11 : decode cX7_dot 11 = .ok (.invokevirtual 95, 3) := by decide +kernel
theorem dX7_dot_14 : decode cX7_dot 14 = .ok (.ifCond .eq 7, 3) := by decide +kernel
theorem dX7_dot_17 : decode cX7_dot 17 = .ok (.iconst 1, 1) := by decide +kernel
theorem dX7_dot_18 : decode cX7_dot 18 = .ok (.goto 4, 3) := by decide +kernel
theorem dX7_dot_21 : decode cX7_dot 21 = .ok (.iconst 0, 1) := by decide +kernel
theorem dX7_dot_22 : decode cX7_dot 22 = .ok (.iconst 1, 1) := by decide +kernel
theorem dX7_dot_23 : decode cX7_dot 23 = .ok (.iconst 1, 1) := by decide +kernel
theorem dX7_dot_24 : decode cX7_dot 24 = .ok (.invokevirtual 91, 3) := by decide +kernel
theorem dX7_dot_27 : decode cX7_dot 27 = .ok (.ifCond .ne 5, 3) := by decide +kernel
theorem dX7_dot_30 : decode cX7_dot 30 = .ok (.iconst 0, 1) := by decide +kernel
theorem dX7_dot_31 : decode cX7_dot 31 = .ok (.ireturn, 1) := by decide +kernel
theorem dX7_dot_32 : decode cX7_dot 32 = .ok (.aload_n 0, 1) := by decide +kernel
theorem dX7_dot_33 : decode cX7_dot 33 = .ok (.iload_n 1, 1) := by decide +kernel
theorem dX7_dot_34 : decode cX7_dot 34 = .ok (.iload_n 2, 1) := by decide +kernel
theorem dX7_dot_35 : decode cX7_dot 35 = .ok (.invokevirtual 114, 3) := by decide +kernel
theorem dX7_dot_38 : decode cX7_dot 38 = .ok (.ifCond .ne 7, 3) := by decide +kernel
theorem dX7_dot_41 : decode cX7_dot 41 = .ok (.iconst (-1), 1) := by decide +kernel
theorem dX7_dot_42 : decode cX7_dot 42 = .ok (.goto 22, 3) := by decide +kernel
theorem dX7_dot_45 : decode cX7_dot 45 = .ok (.iload_n 3, 1) := by decide +kernel
theorem dX7_dot_46 : decode cX7_dot 46 = .ok (.ifCond .eq 12, 3) := by decide +kernel
theorem dX7_dot_49 : decode cX7_dot 49 = .ok (.aload_n 0, 1) := by decide +kernel
theorem dX7_dot_50 : decode cX7_dot 50 = .ok (.iload_n 1, 1) := by decide +kernel
theorem dX7_dot_51 : decode cX7_dot 51 = .ok (.iload_n 2, 1) := by decide +kernel
theorem dX7_dot_52 : decode cX7_dot 52 = .ok (.invokevirtual 121, 3) := by decide +kernel
theorem dX7_dot_55 : decode cX7_dot 55 = .ok (.goto 9, 3) := by decide +kernel
theorem dX7_dot_58 : decode cX7_dot 58 = .ok (.aload_n 0, 1) := by decide +kernel
theorem dX7_dot_59 : decode cX7_dot 59 = .ok (.iload_n 1, 1) := by decide +kernel
theorem dX7_dot_60 : decode cX7_dot 60 = .ok (.iload_n 2, 1) := by decide +kernel
theorem dX7_dot_61 : decode cX7_dot 61 = .ok (.invokevirtual 118, 3) := by decide +kernel
theorem dX7_dot_64 : decode cX7_dot 64 = .ok (.ireturn, 1) := by decide +kernel
theorem dX7_side_0 : decode cX7_side 0 = .ok (.aload_n 0, 1) := by decide +kernel
theorem dX7_side_1 : decode cX7_side 1 = .ok (.aload_n 0, 1) := by decide +kernel
theorem dX7_side_2 : decode cX7_side 2 = .ok (.iload_n 1, 1) := by decide +kernel
theorem dX7_side_3 : decode cX7_side 3 = .ok (.invokevirtual 145, 3) := by decide +kernel
theorem dX7_side_6 : decode cX7_side 6 = .ok (.ifCond .eq 15, 3) := by decide +kernel
theorem dX7_side_9 : decode cX7_side 9 = .ok (.aload_n 0, 1) := by decide +kernel
theorem dX7_side_10 : decode cX7_side 10 = .ok (.iload_n 2, 1) := by decide +kernel
theorem dX7_side_11 : decode cX7_side 11 = .ok (.invokevirtual 95, 3) := by decide +kernel
theorem dX7_side_14 : decode cX7_side 14 = .ok (.ifCond .eq 7, 3) := by decide +kernel
theorem dX7_side_17 : decode cX7_side 17 = .ok (.iconst 1, 1) := by decide +kernel
theorem dX7_side_18 : decode cX7_side 18 = .ok (.goto 4, 3) := by decide +kernel
theorem dX7_side_21 : decode cX7_side 21 = .ok (.iconst 0, 1) := by decide +kernel
theorem dX7_side_22 : decode cX7_side 22 = .ok (.iconst 1, 1) := by decide +kernel
theorem dX7_side_23 : decode cX7_side 23 = .ok (.iconst 1, 1) := by decide +kernel
theorem dX7_side_24 : decode cX7_side 24 = .ok (.invokevirtual 91, 3) := by decide +kernel
theorem dX7_side_27 : decode cX7_side 27 = .ok (.ifCond .ne 5, 3) := by decide +kernel
theorem dX7_side_30 : decode cX7_side 30 = .ok (.iconst 0, 1) := by decide +kernel
theorem dX7_side_31 : decode cX7_side 31 = .ok (.ireturn, 1) := by decide +kernel
theorem dX7_side_32 : decode cX7_side 32 = .ok (.aload_n 0, 1) := by decide +kernel
theorem dX7_side_33 : decode cX7_side 33 = .ok (.iload_n 1, 1) := by decide +kernel
theorem dX7_side_34 : decode cX7_side 34 = .ok (.invokevirtual 99, 3) := by decide +kernel
theorem dX7_side_37 : decode cX7_side 37 = .ok (.aload_n 0, 1) := by decide +kernel
theorem dX7_side_38 : decode cX7_side 38 = .ok (.getfield 50, 3) := by decide +kernel
theorem dX7_side_41 : decode cX7_side 41 = .ok (.iload_n 2, 1) := by decide +kernel
theorem dX7_side_42 : decode cX7_side 42 = .ok (.iaload, 1) := by decide +kernel
theorem dX7_side_43 : decode cX7_side 43 = .ok (.ireturn, 1) := by decide +kernel
theorem dX7_isCell_0 : decode cX7_isCell 0 = .ok (.iload_n 0, 1) := by decide +kernel
theorem dX7_isCell_1 : decode cX7_isCell 1 = .ok (.iconst 0, 1) := by decide +kernel
theorem dX7_isCell_2 : decode cX7_isCell 2 = .ok (.bipush 23, 2) := by decide +kernel
theorem dX7_isCell_4 : decode cX7_isCell 4 = .ok (.invokestatic 81, 3) := by decide +kernel
theorem dX7_isCell_7 : decode cX7_isCell 7 = .ok (.ifCond .eq 17, 3) := by decide +kernel
theorem dX7_isCell_10 : decode cX7_isCell 10 = .ok (.iload_n 1, 1) := by decide +kernel
theorem dX7_isCell_11 : decode cX7_isCell 11 = .ok (.iconst 0, 1) := by decide +kernel
theorem dX7_isCell_12 : decode cX7_isCell 12 = .ok (.bipush 39, 2) := by decide +kernel
theorem dX7_isCell_14 : decode cX7_isCell 14 = .ok (.invokestatic 81, 3) := by decide +kernel
theorem dX7_isCell_17 : decode cX7_isCell 17 = .ok (.ifCond .eq 7, 3) := by decide +kernel
theorem dX7_isCell_20 : decode cX7_isCell 20 = .ok (.iconst 1, 1) := by decide +kernel
theorem dX7_isCell_21 : decode cX7_isCell 21 = .ok (.goto 4, 3) := by decide +kernel
theorem dX7_isCell_24 : decode cX7_isCell 24 = .ok (.iconst 0, 1) := by decide +kernel
theorem dX7_isCell_25 : decode cX7_isCell 25 = .ok (.ireturn, 1) := by decide +kernel
theorem dX7_drawn_0 : decode cX7_drawn 0 = .ok (.aload_n 0, 1) := by decide +kernel
theorem dX7_drawn_1 : decode cX7_drawn 1 = .ok (.aload_n 0, 1) := by decide +kernel
theorem dX7_drawn_2 : decode cX7_drawn 2 = .ok (.iload_n 1, 1) := by decide +kernel
theorem dX7_drawn_3 : decode cX7_drawn 3 = .ok (.invokevirtual 145, 3) := by decide +kernel
theorem dX7_drawn_6 : decode cX7_drawn 6 = .ok (.ifCond .eq 15, 3) := by decide +kernel
theorem dX7_drawn_9 : decode cX7_drawn 9 = .ok (.iload_n 2, 1) := by decide +kernel
theorem dX7_drawn_10 : decode cX7_drawn 10 = .ok (.iload_n 3, 1) := by decide +kernel
theorem dX7_drawn_11 : decode cX7_drawn 11 = .ok (.invokestatic 148, 3) := by decide +kernel
theorem dX7_drawn_14 : decode cX7_drawn 14 = .ok (.ifCond .eq 7, 3) := by decide +kernel
theorem dX7_drawn_17 : decode cX7_drawn 17 = .ok (.iconst 1, 1) := by decide +kernel
theorem dX7_drawn_18 : decode cX7_drawn 18 = .ok (.goto 4, 3) := by decide +kernel
theorem dX7_drawn_21 : decode cX7_drawn 21 = .ok (.iconst 0, 1) := by decide +kernel
theorem dX7_drawn_22 : decode cX7_drawn 22 = .ok (.iconst 1, 1) := by decide +kernel
theorem dX7_drawn_23 : decode cX7_drawn 23 = .ok (.iconst 1, 1) := by decide +kernel
theorem dX7_drawn_24 : decode cX7_drawn 24 = .ok (.invokevirtual 91, 3) := by decide +kernel
theorem dX7_drawn_27 : decode cX7_drawn 27 = .ok (.ifCond .ne 6, 3) := by decide +kernel
theorem dX7_drawn_30 : decode cX7_drawn 30 = .ok (.bipush 32, 2) := by decide +kernel
theorem dX7_drawn_32 : decode cX7_drawn 32 = .ok (.ireturn, 1) := by decide +kernel
theorem dX7_drawn_33 : decode cX7_drawn 33 = .ok (.aload_n 0, 1) := by decide +kernel
theorem dX7_drawn_34 : decode cX7_drawn 34 = .ok (.iload_n 1, 1) := by decide +kernel
theorem dX7_drawn_35 : decode cX7_drawn 35 = .ok (.invokevirtual 99, 3) := by decide +kernel
theorem dX7_drawn_38 : decode cX7_drawn 38 = .ok (.aload_n 0, 1) := by decide +kernel
theorem dX7_drawn_39 : decode cX7_drawn 39 = .ok (.getfield 53, 3) := by decide +kernel
theorem dX7_drawn_42 : decode cX7_drawn 42 = .ok (.bipush 40, 2) := by decide +kernel
theorem dX7_drawn_44 : decode cX7_drawn 44 = .ok (.iload_n 2, 1) := by decide +kernel
theorem dX7_drawn_45 : decode cX7_drawn 45 = .ok (.imul, 1) := by decide +kernel
theorem dX7_drawn_46 : decode cX7_drawn 46 = .ok (.iload_n 3, 1) := by decide +kernel
theorem dX7_drawn_47 : decode cX7_drawn 47 = .ok (.iadd, 1) := by decide +kernel
theorem dX7_drawn_48 : decode cX7_drawn 48 = .ok (.caload, 1) := by decide +kernel
theorem dX7_drawn_49 : decode cX7_drawn 49 = .ok (.ireturn, 1) := by decide +kernel
theorem dX7_worth_0 : decode cX7_worth 0 = .ok (.aload_n 0, 1) := by decide +kernel
theorem dX7_worth_1 : decode cX7_worth 1 = .ok (.aload_n 0, 1) := by decide +kernel
theorem dX7_worth_2 : decode cX7_worth 2 = .ok (.iload_n 1, 1) := by decide +kernel
theorem dX7_worth_3 : decode cX7_worth 3 = .ok (.invokevirtual 145, 3) := by decide +kernel
theorem dX7_worth_6 : decode cX7_worth 6 = .ok (.iconst 1, 1) := by decide +kernel
theorem dX7_worth_7 : decode cX7_worth 7 = .ok (.iconst 1, 1) := by decide +kernel
theorem dX7_worth_8 : decode cX7_worth 8 = .ok (.invokevirtual 91, 3) := by decide +kernel
theorem dX7_worth_11 : decode cX7_worth 11 = .ok (.ifCond .ne 5, 3) := by decide +kernel
theorem dX7_worth_14 : decode cX7_worth 14 = .ok (.iconst 0, 1) := by decide +kernel
theorem dX7_worth_15 : decode cX7_worth 15 = .ok (.ireturn, 1) := by decide +kernel
theorem dX7_worth_16 : decode cX7_worth 16 = .ok (.aload_n 0, 1) := by decide +kernel
theorem dX7_worth_17 : decode cX7_worth 17 = .ok (.iload_n 1, 1) := by decide +kernel
theorem dX7_worth_18 : decode cX7_worth 18 = .ok (.invokevirtual 99, 3) := by decide +kernel
theorem dX7_worth_21 : decode cX7_worth 21 = .ok (.iconst 0, 1) := by decide +kernel
theorem dX7_worth_22 : decode cX7_worth 22 = .ok (.istore_n 2, 1) := by decide +kernel
theorem dX7_worth_23 : decode cX7_worth 23 = .ok (.iconst 0, 1) := by decide +kernel
theorem dX7_worth_24 : decode cX7_worth 24 = .ok (.istore_n 3, 1) := by decide +kernel
theorem dX7_worth_25 : decode cX7_worth 25 = .ok (.iload_n 3, 1) := by decide +kernel
theorem dX7_worth_26 : decode cX7_worth 26 = .ok (.aload_n 0, 1) := by decide +kernel
theorem dX7_worth_27 : decode cX7_worth 27 = .ok (.getfield 78, 3) := by decide +kernel
theorem dX7_worth_30 : decode cX7_worth 30 = .ok (.if_icmp .ge 32, 3) := by decide +kernel
theorem dX7_worth_33 : decode cX7_worth 33 = .ok (.iload_n 2, 1) := by decide +kernel
theorem dX7_worth_34 : decode cX7_worth 34 = .ok (.aload_n 0, 1) := by decide +kernel
theorem dX7_worth_35 : decode cX7_worth 35 = .ok (.getfield 50, 3) := by decide +kernel
theorem dX7_worth_38 : decode cX7_worth 38 = .ok (.iload_n 3, 1) := by decide +kernel
theorem dX7_worth_39 : decode cX7_worth 39 = .ok (.iaload, 1) := by decide +kernel
theorem dX7_worth_40 : decode cX7_worth 40 = .ok (.iconst (-1), 1) := by decide +kernel
theorem dX7_worth_41 : decode cX7_worth 41 = .ok (.if_icmp .eq 12, 3) := by decide +kernel
theorem dX7_worth_44 : decode cX7_worth 44 = .ok (.aload_n 0, 1) := by decide +kernel
theorem dX7_worth_45 : decode cX7_worth 45 = .ok (.getfield 20, 3) := by decide +kernel
theorem dX7_worth_48 : decode cX7_worth 48 = .ok (.iload_n 3, 1) := by decide +kernel
theorem dX7_worth_49 : decode cX7_worth 49 = .ok (.iaload, 1) := by decide +kernel
theorem dX7_worth_50 : decode cX7_worth 50 = .ok (.goto 4, 3) := by decide +kernel
theorem dX7_worth_53 : decode cX7_worth 53 = .ok (.iconst 0, 1) := by decide +kernel
theorem dX7_worth_54 : decode cX7_worth 54 = .ok (.iadd, 1) := by decide +kernel
theorem dX7_worth_55 : decode cX7_worth 55 = .ok (.istore_n 2, 1) := by decide +kernel
theorem dX7_worth_56 : decode cX7_worth 56 = .ok (.iinc 3 1, 3) := by decide +kernel
theorem dX7_worth_59 : decode cX7_worth 59 = .ok (.goto (-34), 3) := by decide +kernel
theorem dX7_worth_62 : decode cX7_worth 62 = .ok (.iload_n 2, 1) := by decide +kernel
theorem dX7_worth_63 : decode cX7_worth 63 = .ok (.ireturn, 1) := by decide +kernel
theorem dX7_canTry_0 : decode cX7_canTry 0 = .ok (.aload_n 0, 1) := by decide +kernel
theorem dX7_canTry_1 : decode cX7_canTry 1 = .ok (.iload_n 1, 1) := by decide +kernel
theorem dX7_canTry_2 : decode cX7_canTry 2 = .ok (.aload_n 0, 1) := by decide +kernel
theorem dX7_canTry_3 : decode cX7_canTry 3 = .ok (.getfield 78, 3) := by decide +kernel
theorem dX7_canTry_6 : decode cX7_canTry 6 = .ok (.invokevirtual 131, 3) := by decide +kernel
theorem dX7_canTry_9 : decode cX7_canTry 9 = .ok (.aload_n 0, 1) := by decide +kernel
theorem dX7_canTry_10 : decode cX7_canTry 10 = .ok (.iconst 0, 1) := by decide +kernel
theorem dX7_canTry_11 : decode cX7_canTry 11 = .ok (.putfield 151, 3) := by decide +kernel
theorem dX7_canTry_14 : decode cX7_canTry 14 = .ok (.iconst 0, 1) := by decide +kernel
theorem dX7_canTry_15 : decode cX7_canTry 15 = .ok (.istore_n 2, 1) := by decide +kernel
theorem dX7_canTry_16 : decode cX7_canTry 16 = .ok (.iconst 0, 1) := by decide +kernel
theorem dX7_canTry_17 : decode cX7_canTry 17 = .ok (.istore_n 3, 1) := by decide +kernel
theorem dX7_canTry_18 : decode cX7_canTry 18 = .ok (.iload_n 3, 1) := by decide +kernel
theorem dX7_canTry_19 : decode cX7_canTry 19 = .ok (.aload_n 0, 1) := by decide +kernel
theorem dX7_canTry_20 : decode cX7_canTry 20 = .ok (.getfield 78, 3) := by decide +kernel
theorem dX7_canTry_23 : decode cX7_canTry 23 = .ok (.if_icmp .ge 42, 3) := by decide +kernel
theorem dX7_canTry_26 : decode cX7_canTry 26 = .ok (.aload_n 0, 1) := by decide +kernel
theorem dX7_canTry_27 : decode cX7_canTry 27 = .ok (.iload_n 3, 1) := by decide +kernel
theorem dX7_canTry_28 : decode cX7_canTry 28 = .ok (.invokevirtual 135, 3) := by decide +kernel
theorem dX7_canTry_31 : decode cX7_canTry 31 = .ok (.ifCond .eq 28, 3) := by decide +kernel
theorem dX7_canTry_34 : decode cX7_canTry 34 = .ok (.iload_n 2, 1) := by decide +kernel
theorem dX7_canTry_35 : decode cX7_canTry 35 = .ok (.iconst 4, 1) := by decide +kernel
theorem dX7_canTry_36 : decode cX7_canTry 36 = .ok (.if_icmp .ge 20, 3) := by decide +kernel
theorem dX7_canTry_39 : decode cX7_canTry 39 = .ok (.aload_n 0, 1) := by decide +kernel
theorem dX7_canTry_40 : decode cX7_canTry 40 = .ok (.getfield 59, 3) := by decide +kernel
theorem dX7_canTry_43 : decode cX7_canTry 43 = .ok (.iload_n 2, 1) := by decide +kernel
theorem dX7_canTry_44 : decode cX7_canTry 44 = .ok (.iload_n 3, 1) := by decide +kernel
theorem dX7_canTry_45 : decode cX7_canTry 45 = .ok (.iastore, 1) := by decide +kernel
theorem dX7_canTry_46 : decode cX7_canTry 46 = .ok (.aload_n 0, 1) := by decide +kernel
theorem dX7_canTry_47 : decode cX7_canTry 47 = .ok (.dup, 1) := by decide +kernel
theorem dX7_canTry_48 : decode cX7_canTry 48 = .ok (.getfield 151, 3) := by decide +kernel
theorem dX7_canTry_51 : decode cX7_canTry 51 = .ok (.iconst 1, 1) := by decide +kernel
theorem dX7_canTry_52 : decode cX7_canTry 52 = .ok (.iadd, 1) := by decide +kernel
theorem dX7_canTry_53 : decode cX7_canTry 53 = .ok (.putfield 151, 3) := by decide +kernel
theorem dX7_canTry_56 : decode cX7_canTry 56 = .ok (.iinc 2 1, 3) := by decide +kernel
theorem dX7_canTry_59 : decode cX7_canTry 59 = .ok (.iinc 3 1, 3) := by decide +kernel
theorem dX7_canTry_62 : decode cX7_canTry 62 = .ok (.goto (-44), 3) := by decide +kernel
theorem dX7_canTry_65 : decode cX7_canTry 65 = .ok (.iload_n 2, 1) := by decide +kernel
theorem dX7_canTry_66 : decode cX7_canTry 66 = .ok (.iconst 4, 1) := by decide +kernel
theorem dX7_canTry_67 : decode cX7_canTry 67 = .ok (.if_icmp .gt 7, 3) := by decide +kernel
theorem dX7_canTry_70 : decode cX7_canTry 70 = .ok (.iconst 1, 1) := by decide +kernel
theorem dX7_canTry_71 : decode cX7_canTry 71 = .ok (.goto 4, 3) := by decide +kernel
theorem dX7_canTry_74 : decode cX7_canTry 74 = .ok (.iconst 0, 1) := by decide +kernel
theorem dX7_canTry_75 : decode cX7_canTry 75 = .ok (.ireturn, 1) := by decide +kernel
theorem dX7_worthOf_0 : decode cX7_worthOf 0 = .ok (.iload_n 1, 1) := by decide +kernel
theorem dX7_worthOf_1 : decode cX7_worthOf 1 = .ok (.istore_n 2, 1) := by decide +kernel
theorem dX7_worthOf_2 : decode cX7_worthOf 2 = .ok (.iconst 0, 1) := by decide +kernel
theorem dX7_worthOf_3 : decode cX7_worthOf 3 = .ok (.istore_n 3, 1) := by decide +kernel
theorem dX7_worthOf_4 : decode cX7_worthOf 4 = .ok (.iconst 1, 1) := by decide +kernel
theorem dX7_worthOf_5 : decode cX7_worthOf 5 = .ok (.istore 4, 2) := by decide +kernel
theorem dX7_worthOf_7 : decode cX7_worthOf 7 = .ok (.iconst 0, 1) := by decide +kernel
theorem dX7_worthOf_8 : decode cX7_worthOf 8 = .ok (.istore 5, 2) := by decide +kernel
theorem dX7_worthOf_10 : decode cX7_worthOf 10 = .ok (.iload 5, 2) := by decide +kernel
theorem dX7_worthOf_12 : decode cX7_worthOf 12 = .ok (.aload_n 0, 1) := by decide +kernel
theorem dX7_worthOf_13 : decode cX7_worthOf 13 = .ok (.getfield 151, 3) := by decide +kernel
theorem dX7_worthOf_16 : decode cX7_worthOf 16 = .ok (.if_icmp .ge 125, 3) := by decide +kernel
theorem dX7_worthOf_19 : decode cX7_worthOf 19 = .ok (.iload_n 2, 1) := by decide +kernel
theorem dX7_worthOf_20 : decode cX7_worthOf 20 = .ok (.iconst 5, 1) := by decide +kernel
theorem dX7_worthOf_21 : decode cX7_worthOf 21 = .ok (.irem, 1) := by decide +kernel
theorem dX7_worthOf_22 : decode cX7_worthOf 22 = .ok (.istore 6, 2) := by decide +kernel
theorem dX7_worthOf_24 : decode cX7_worthOf 24 = .ok (.aload_n 0, 1) := by decide +kernel
theorem dX7_worthOf_25 : decode cX7_worthOf 25 = .ok (.aload_n 0, 1) := by decide +kernel
theorem dX7_worthOf_26 : decode cX7_worthOf 26 = .ok (.getfield 59, 3) := by decide +kernel
theorem dX7_worthOf_29 : decode cX7_worthOf 29 = .ok (.iload 5, 2) := by decide +kernel
theorem dX7_worthOf_31 : decode cX7_worthOf 31 = .ok (.iaload, 1) := by decide +kernel
theorem dX7_worthOf_32 : decode cX7_worthOf 32 = .ok (.aload_n 0, 1) := by decide +kernel
theorem dX7_worthOf_33 : decode cX7_worthOf 33 = .ok (.getfield 103, 3) := by decide +kernel
theorem dX7_worthOf_36 : decode cX7_worthOf 36 = .ok (.invokevirtual 106, 3) := by decide +kernel
theorem dX7_worthOf_39 : decode cX7_worthOf 39 = .ok (.istore 7, 2) := by decide +kernel
theorem dX7_worthOf_41 : decode cX7_worthOf 41 = .ok (.aload_n 0, 1) := by decide +kernel
theorem dX7_worthOf_42 : decode cX7_worthOf 42 = .ok (.getfield 50, 3) := by decide +kernel
theorem dX7_worthOf_45 : decode cX7_worthOf 45 = .ok (.aload_n 0, 1) := by decide +kernel
theorem dX7_worthOf_46 : decode cX7_worthOf 46 = .ok (.getfield 59, 3) := by decide +kernel
theorem dX7_worthOf_49 : decode cX7_worthOf 49 = .ok (.iload 5, 2) := by decide +kernel
theorem dX7_worthOf_51 : decode cX7_worthOf 51 = .ok (.iaload, 1) := by decide +kernel
theorem dX7_worthOf_52 : decode cX7_worthOf 52 = .ok (.iconst (-1), 1) := by decide +kernel
theorem dX7_worthOf_53 : decode cX7_worthOf 53 = .ok (.iastore, 1) := by decide +kernel
theorem dX7_worthOf_54 : decode cX7_worthOf 54 = .ok (.iload 6, 2) := by decide +kernel
theorem dX7_worthOf_56 : decode cX7_worthOf 56 = .ok (.iconst 4, 1) := by decide +kernel
theorem dX7_worthOf_57 : decode cX7_worthOf 57 = .ok (.if_icmp .ge 74, 3) := by decide +kernel
theorem dX7_worthOf_60 : decode cX7_worthOf 60 = .ok (.iload 4, 2) := by decide +kernel
theorem dX7_worthOf_62 : decode cX7_worthOf 62 = .ok (.ifCond .eq 69, 3) := by decide +kernel
theorem dX7_worthOf_65 : decode cX7_worthOf 65 = .ok (.aload_n 0, 1) := by decide +kernel
theorem dX7_worthOf_66 : decode cX7_worthOf 66 = .ok (.aload_n 0, 1) := by decide +kernel
theorem dX7_worthOf_67 : decode cX7_worthOf 67 = .ok (.getfield 59, 3) := by decide +kernel
theorem dX7_worthOf_70 : decode cX7_worthOf 70 = .ok (.iload 5, 2) := by decide +kernel
theorem dX7_worthOf_72 : decode cX7_worthOf 72 = .ok (.iaload, 1) := by decide +kernel
theorem dX7_worthOf_73 : decode cX7_worthOf 73 = .ok (.iload 7, 2) := by decide +kernel
theorem dX7_worthOf_75 : decode cX7_worthOf 75 = .ok (.iload 6, 2) := by decide +kernel
theorem dX7_worthOf_77 : decode cX7_worthOf 77 = .ok (.invokevirtual 138, 3) := by decide +kernel
theorem dX7_worthOf_80 : decode cX7_worthOf 80 = .ok (.istore 4, 2) := by decide +kernel
theorem dX7_worthOf_82 : decode cX7_worthOf 82 = .ok (.iload 4, 2) := by decide +kernel
theorem dX7_worthOf_84 : decode cX7_worthOf 84 = .ok (.ifCond .eq 47, 3) := by decide +kernel
theorem dX7_worthOf_87 : decode cX7_worthOf 87 = .ok (.aload_n 0, 1) := by decide +kernel
theorem dX7_worthOf_88 : decode cX7_worthOf 88 = .ok (.aload_n 0, 1) := by decide +kernel
theorem dX7_worthOf_89 : decode cX7_worthOf 89 = .ok (.getfield 59, 3) := by decide +kernel
theorem dX7_worthOf_92 : decode cX7_worthOf 92 = .ok (.iload 5, 2) := by decide +kernel
theorem dX7_worthOf_94 : decode cX7_worthOf 94 = .ok (.iaload, 1) := by decide +kernel
theorem dX7_worthOf_95 : decode cX7_worthOf 95 = .ok (.iload 7, 2) := by decide +kernel
theorem dX7_worthOf_97 : decode cX7_worthOf 97 = .ok (.iload 6, 2) := by decide +kernel
theorem dX7_worthOf_99 : decode cX7_worthOf 99 = .ok (.invokevirtual 141, 3) := by decide +kernel
theorem dX7_worthOf_102 : decode cX7_worthOf 102 = .ok (.aload_n 0, 1) := by decide +kernel
theorem dX7_worthOf_103 : decode cX7_worthOf 103 = .ok (.getfield 50, 3) := by decide +kernel
theorem dX7_worthOf_106 : decode cX7_worthOf 106 = .ok (.aload_n 0, 1) := by decide +kernel
theorem dX7_worthOf_107 : decode cX7_worthOf 107 = .ok (.getfield 59, 3) := by decide +kernel
theorem dX7_worthOf_110 : decode cX7_worthOf 110 = .ok (.iload 5, 2) := by decide +kernel
theorem dX7_worthOf_112 : decode cX7_worthOf 112 = .ok (.iaload, 1) := by decide +kernel
theorem dX7_worthOf_113 : decode cX7_worthOf 113 = .ok (.iload 6, 2) := by decide +kernel
theorem dX7_worthOf_115 : decode cX7_worthOf 115 = .ok (.iastore, 1) := by decide +kernel
theorem dX7_worthOf_116 : decode cX7_worthOf 116 = .ok (.iload_n 3, 1) := by decide +kernel
theorem dX7_worthOf_117 : decode cX7_worthOf 117 = .ok (.aload_n 0, 1) := by decide +kernel
theorem dX7_worthOf_118 : decode cX7_worthOf 118 = .ok (.getfield 20, 3) := by decide +kernel
theorem dX7_worthOf_121 : decode cX7_worthOf 121 = .ok (.aload_n 0, 1) := by decide +kernel
theorem dX7_worthOf_122 : decode cX7_worthOf 122 = .ok (.getfield 59, 3) := by decide +kernel
theorem dX7_worthOf_125 : decode cX7_worthOf 125 = .ok (.iload 5, 2) := by decide +kernel
theorem dX7_worthOf_127 : decode cX7_worthOf 127 = .ok (.iaload, 1) := by decide +kernel
theorem dX7_worthOf_128 : decode cX7_worthOf 128 = .ok (.iaload, 1) := by decide +kernel
theorem dX7_worthOf_129 : decode cX7_worthOf 129 = .ok (.iadd, 1) := by decide +kernel
theorem dX7_worthOf_130 : decode cX7_worthOf 130 = .ok (.istore_n 3, 1) := by decide +kernel
theorem dX7_worthOf_131 : decode cX7_worthOf 131 = .ok (.iload_n 2, 1) := by decide +kernel
theorem dX7_worthOf_132 : decode cX7_worthOf 132 = .ok (.iconst 5, 1) := by decide +kernel
theorem dX7_worthOf_133 : decode cX7_worthOf 133 = .ok (.idiv, 1) := by decide +kernel
theorem dX7_worthOf_134 : decode cX7_worthOf 134 = .ok (.istore_n 2, 1) := by decide +kernel
theorem dX7_worthOf_135 : decode cX7_worthOf 135 = .ok (.iinc 5 1, 3) := by decide +kernel
theorem dX7_worthOf_138 : decode cX7_worthOf 138 = .ok (.goto (-128), 3) := by decide +kernel
theorem dX7_worthOf_141 : decode cX7_worthOf 141 = .ok (.iconst 0, 1) := by decide +kernel
theorem dX7_worthOf_142 : decode cX7_worthOf 142 = .ok (.istore 5, 2) := by decide +kernel
theorem dX7_worthOf_144 : decode cX7_worthOf 144 = .ok (.iload 5, 2) := by decide +kernel
theorem dX7_worthOf_146 : decode cX7_worthOf 146 = .ok (.aload_n 0, 1) := by decide +kernel
theorem dX7_worthOf_147 : decode cX7_worthOf 147 = .ok (.getfield 151, 3) := by decide +kernel
theorem dX7_worthOf_150 : decode cX7_worthOf 150 = .ok (.if_icmp .ge 63, 3) := by decide +kernel
theorem dX7_worthOf_153 : decode cX7_worthOf 153 = .ok (.aload_n 0, 1) := by decide +kernel
theorem dX7_worthOf_154 : decode cX7_worthOf 154 = .ok (.getfield 50, 3) := by decide +kernel
theorem dX7_worthOf_157 : decode cX7_worthOf 157 = .ok (.aload_n 0, 1) := by decide +kernel
theorem dX7_worthOf_158 : decode cX7_worthOf 158 = .ok (.getfield 59, 3) := by decide +kernel
theorem dX7_worthOf_161 : decode cX7_worthOf 161 = .ok (.iload 5, 2) := by decide +kernel
theorem dX7_worthOf_163 : decode cX7_worthOf 163 = .ok (.iaload, 1) := by decide +kernel
theorem dX7_worthOf_164 : decode cX7_worthOf 164 = .ok (.iaload, 1) := by decide +kernel
theorem dX7_worthOf_165 : decode cX7_worthOf 165 = .ok (.iconst (-1), 1) := by decide +kernel
theorem dX7_worthOf_166 : decode cX7_worthOf 166 = .ok (.if_icmp .eq 41, 3) := by decide +kernel
theorem dX7_worthOf_169 : decode cX7_worthOf 169 = .ok (.aload_n 0, 1) := by decide +kernel
theorem dX7_worthOf_170 : decode cX7_worthOf 170 = .ok (.aload_n 0, 1) := by decide +kernel
theorem dX7_worthOf_171 : decode cX7_worthOf 171 = .ok (.getfield 59, 3) := by decide +kernel
theorem dX7_worthOf_174 : decode cX7_worthOf 174 = .ok (.iload 5, 2) := by decide +kernel
theorem dX7_worthOf_176 : decode cX7_worthOf 176 = .ok (.iaload, 1) := by decide +kernel
theorem dX7_worthOf_177 : decode cX7_worthOf 177 = .ok (.aload_n 0, 1) := by decide +kernel
theorem dX7_worthOf_178 : decode cX7_worthOf 178 = .ok (.aload_n 0, 1) := by decide +kernel
theorem dX7_worthOf_179 : decode cX7_worthOf 179 = .ok (.getfield 59, 3) := by decide +kernel
theorem dX7_worthOf_182 : decode cX7_worthOf 182 = .ok (.iload 5, 2) := by decide +kernel
theorem dX7_worthOf_184 : decode cX7_worthOf 184 = .ok (.iaload, 1) := by decide +kernel
theorem dX7_worthOf_185 : decode cX7_worthOf 185 = .ok (.aload_n 0, 1) := by decide +kernel
theorem dX7_worthOf_186 : decode cX7_worthOf 186 = .ok (.getfield 103, 3) := by decide +kernel
theorem dX7_worthOf_189 : decode cX7_worthOf 189 = .ok (.invokevirtual 106, 3) := by decide +kernel
theorem dX7_worthOf_192 : decode cX7_worthOf 192 = .ok (.aload_n 0, 1) := by decide +kernel
theorem dX7_worthOf_193 : decode cX7_worthOf 193 = .ok (.getfield 50, 3) := by decide +kernel
theorem dX7_worthOf_196 : decode cX7_worthOf 196 = .ok (.aload_n 0, 1) := by decide +kernel
theorem dX7_worthOf_197 : decode cX7_worthOf 197 = .ok (.getfield 59, 3) := by decide +kernel
theorem dX7_worthOf_200 : decode cX7_worthOf 200 = .ok (.iload 5, 2) := by decide +kernel
theorem dX7_worthOf_202 : decode cX7_worthOf 202 = .ok (.iaload, 1) := by decide +kernel
theorem dX7_worthOf_203 : decode cX7_worthOf 203 = .ok (.iaload, 1) := by decide +kernel
theorem dX7_worthOf_204 : decode cX7_worthOf 204 = .ok (.invokevirtual 154, 3) := by decide +kernel
theorem dX7_worthOf_207 : decode cX7_worthOf 207 = .ok (.iinc 5 1, 3) := by decide +kernel
theorem dX7_worthOf_210 : decode cX7_worthOf 210 = .ok (.goto (-66), 3) := by decide +kernel
theorem dX7_worthOf_213 : decode cX7_worthOf 213 = .ok (.iload 4, 2) := by decide +kernel
theorem dX7_worthOf_215 : decode cX7_worthOf 215 = .ok (.ifCond .eq 7, 3) := by decide +kernel
theorem dX7_worthOf_218 : decode cX7_worthOf 218 = .ok (.iload_n 3, 1) := by decide +kernel
theorem dX7_worthOf_219 : decode cX7_worthOf 219 = .ok (.goto 4, 3) := by decide +kernel
theorem dX7_worthOf_222 : decode cX7_worthOf 222 = .ok (.iconst (-1), 1) := by decide +kernel
theorem dX7_worthOf_223 : decode cX7_worthOf 223 = .ok (.ireturn, 1) := by decide +kernel
theorem dX7_best_0 : decode cX7_best 0 = .ok (.aload_n 0, 1) := by decide +kernel
theorem dX7_best_1 : decode cX7_best 1 = .ok (.aload_n 0, 1) := by decide +kernel
theorem dX7_best_2 : decode cX7_best 2 = .ok (.iload_n 1, 1) := by decide +kernel
theorem dX7_best_3 : decode cX7_best 3 = .ok (.invokevirtual 145, 3) := by decide +kernel
theorem dX7_best_6 : decode cX7_best 6 = .ok (.aload_n 0, 1) := by decide +kernel
theorem dX7_best_7 : decode cX7_best 7 = .ok (.iload_n 1, 1) := by decide +kernel
theorem dX7_best_8 : decode cX7_best 8 = .ok (.invokevirtual 145, 3) := by decide +kernel
theorem dX7_best_11 : decode cX7_best 11 = .ok (.ifCond .eq 15, 3) := by decide +kernel
theorem dX7_best_14 : decode cX7_best 14 = .ok (.aload_n 0, 1) := by decide +kernel
theorem dX7_best_15 : decode cX7_best 15 = .ok (.iload_n 1, 1) := by decide +kernel
theorem dX7_best_16 : decode cX7_best 16 = .ok (.invokevirtual 157, 3) := by decide +kernel
theorem dX7_best_19 : decode cX7_best 19 = .ok (.ifCond .eq 7, 3) := by decide +kernel
theorem dX7_best_22 : decode cX7_best 22 = .ok (.iconst 1, 1) := by decide +kernel
theorem dX7_best_23 : decode cX7_best 23 = .ok (.goto 4, 3) := by decide +kernel
theorem dX7_best_26 : decode cX7_best 26 = .ok (.iconst 0, 1) := by decide +kernel
theorem dX7_best_27 : decode cX7_best 27 = .ok (.iconst 1, 1) := by decide +kernel
theorem dX7_best_28 : decode cX7_best 28 = .ok (.invokevirtual 91, 3) := by decide +kernel
theorem dX7_best_31 : decode cX7_best 31 = .ok (.ifCond .ne 5, 3) := by decide +kernel
theorem dX7_best_34 : decode cX7_best 34 = .ok (.iconst 0, 1) := by decide +kernel
theorem dX7_best_35 : decode cX7_best 35 = .ok (.ireturn, 1) := by decide +kernel
theorem dX7_best_36 : decode cX7_best 36 = .ok (.iconst 1, 1) := by decide +kernel
theorem dX7_best_37 : decode cX7_best 37 = .ok (.istore_n 2, 1) := by decide +kernel
theorem dX7_best_38 : decode cX7_best 38 = .ok (.iconst 0, 1) := by decide +kernel
theorem dX7_best_39 : decode cX7_best 39 = .ok (.istore_n 3, 1) := by decide +kernel
theorem dX7_best_40 : decode cX7_best 40 = .ok (.iload_n 3, 1) := by decide +kernel
theorem dX7_best_41 : decode cX7_best 41 = .ok (.aload_n 0, 1) := by decide +kernel
theorem dX7_best_42 : decode cX7_best 42 = .ok (.getfield 151, 3) := by decide +kernel
theorem dX7_best_45 : decode cX7_best 45 = .ok (.if_icmp .ge 13, 3) := by decide +kernel
theorem dX7_best_48 : decode cX7_best 48 = .ok (.iload_n 2, 1) := by decide +kernel
theorem dX7_best_49 : decode cX7_best 49 = .ok (.iconst 5, 1) := by decide +kernel
theorem dX7_best_50 : decode cX7_best 50 = .ok (.imul, 1) := by decide +kernel
theorem dX7_best_51 : decode cX7_best 51 = .ok (.istore_n 2, 1) := by decide +kernel
theorem dX7_best_52 : decode cX7_best 52 = .ok (.iinc 3 1, 3) := by decide +kernel
theorem dX7_best_55 : decode cX7_best 55 = .ok (.goto (-15), 3) := by decide +kernel
theorem dX7_best_58 : decode cX7_best 58 = .ok (.iconst 0, 1) := by decide +kernel
theorem dX7_best_59 : decode cX7_best 59 = .ok (.istore_n 3, 1) := by decide +kernel
theorem dX7_best_60 : decode cX7_best 60 = .ok (.iconst 0, 1) := by decide +kernel
theorem dX7_best_61 : decode cX7_best 61 = .ok (.istore 4, 2) := by decide +kernel
theorem dX7_best_63 : decode cX7_best 63 = .ok (.iload 4, 2) := by decide +kernel
theorem dX7_best_65 : decode cX7_best 65 = .ok (.iload_n 2, 1) := by decide +kernel
theorem dX7_best_66 : decode cX7_best 66 = .ok (.if_icmp .ge 30, 3) := by decide +kernel
theorem dX7_best_69 : decode cX7_best 69 = .ok (.aload_n 0, 1) := by decide +kernel
theorem dX7_best_70 : decode cX7_best 70 = .ok (.iload 4, 2) := by decide +kernel
theorem dX7_best_72 : decode cX7_best 72 = .ok (.invokevirtual 160, 3) := by decide +kernel
theorem dX7_best_75 : decode cX7_best 75 = .ok (.istore 5, 2) := by decide +kernel
theorem dX7_best_77 : decode cX7_best 77 = .ok (.iload 5, 2) := by decide +kernel
theorem dX7_best_79 : decode cX7_best 79 = .ok (.iload_n 3, 1) := by decide +kernel
theorem dX7_best_80 : decode cX7_best 80 = .ok (.if_icmp .le 8, 3) := by decide +kernel
theorem dX7_best_83 : decode cX7_best 83 = .ok (.iload 5, 2) := by decide +kernel
theorem dX7_best_85 : decode cX7_best 85 = .ok (.goto 4, 3) := by decide +kernel
theorem dX7_best_88 : decode cX7_best 88 = .ok (.iload_n 3, 1) := by decide +kernel
theorem dX7_best_89 : decode cX7_best 89 = .ok (.istore_n 3, 1) := by decide +kernel
theorem dX7_best_90 : decode cX7_best 90 = .ok (.iinc 4 1, 3) := by decide +kernel
theorem dX7_best_93 : decode cX7_best 93 = .ok (.goto (-30), 3) := by decide +kernel
theorem dX7_best_96 : decode cX7_best 96 = .ok (.iload_n 3, 1) := by decide +kernel
theorem dX7_best_97 : decode cX7_best 97 = .ok (.ireturn, 1) := by decide +kernel
theorem dX7_print_0 : decode cX7_print 0 = .ok (.aload_n 0, 1) := by decide +kernel
theorem dX7_print_1 : decode cX7_print 1 = .ok (.aload_n 0, 1) := by decide +kernel
theorem dX7_print_2 : decode cX7_print 2 = .ok (.getfield 164, 3) := by decide +kernel
theorem dX7_print_5 : decode cX7_print 5 = .ok (.iconst 5, 1) := by decide +kernel
theorem dX7_print_6 : decode cX7_print 6 = .ok (.if_icmp .ge 7, 3) := by decide +kernel
theorem dX7_print_9 : decode cX7_print 9 = .ok (.iconst 1, 1) := by decide +kernel
theorem dX7_print_10 : decode cX7_print 10 = .ok (.goto 4, 3) := by decide +kernel
theorem dX7_print_13 : decode cX7_print 13 = .ok (.iconst 0, 1) := by decide +kernel
theorem dX7_print_14 : decode cX7_print 14 = .ok (.iconst 1, 1) := by decide +kernel
theorem dX7_print_15 : decode cX7_print 15 = .ok (.iconst 1, 1) := by decide +kernel
theorem dX7_print_16 : decode cX7_print 16 = .ok (.invokevirtual 91, 3) := by decide +kernel
theorem dX7_print_19 : decode cX7_print 19 = .ok (.ifCond .ne 5, 3) := by decide +kernel
theorem dX7_print_22 : decode cX7_print 22 = .ok (.iconst 0, 1) := by decide +kernel
theorem dX7_print_23 : decode cX7_print 23 = .ok (.ireturn, 1) := by decide +kernel
theorem dX7_print_24 : decode cX7_print 24 = .ok (.aload_n 0, 1) := by decide +kernel
theorem dX7_print_25 : decode cX7_print 25 = .ok (.getfield 62, 3) := by decide +kernel
theorem dX7_print_28 : decode cX7_print 28 = .ok (.aload_n 0, 1) := by decide +kernel
theorem dX7_print_29 : decode cX7_print 29 = .ok (.getfield 164, 3) := by decide +kernel
theorem dX7_print_32 : decode cX7_print 32 = .ok (.aload_n 0, 1) := by decide +kernel
theorem dX7_print_33 : decode cX7_print 33 = .ok (.getfield 78, 3) := by decide +kernel
theorem dX7_print_36 : decode cX7_print 36 = .ok (.iastore, 1) := by decide +kernel
theorem dX7_print_37 : decode cX7_print 37 = .ok (.aload_n 0, 1) := by decide +kernel
theorem dX7_print_38 : decode cX7_print 38 = .ok (.getfield 65, 3) := by decide +kernel
theorem dX7_print_41 : decode cX7_print 41 = .ok (.aload_n 0, 1) := by decide +kernel
theorem dX7_print_42 : decode cX7_print 42 = .ok (.getfield 164, 3) := by decide +kernel
theorem dX7_print_45 : decode cX7_print 45 = .ok (.aload_n 0, 1) := by decide +kernel
theorem dX7_print_46 : decode cX7_print 46 = .ok (.getfield 85, 3) := by decide +kernel
theorem dX7_print_49 : decode cX7_print 49 = .ok (.iastore, 1) := by decide +kernel
theorem dX7_print_50 : decode cX7_print 50 = .ok (.iconst 0, 1) := by decide +kernel
theorem dX7_print_51 : decode cX7_print 51 = .ok (.istore_n 1, 1) := by decide +kernel
theorem dX7_print_52 : decode cX7_print 52 = .ok (.iload_n 1, 1) := by decide +kernel
theorem dX7_print_53 : decode cX7_print 53 = .ok (.aload_n 0, 1) := by decide +kernel
theorem dX7_print_54 : decode cX7_print 54 = .ok (.getfield 78, 3) := by decide +kernel
theorem dX7_print_57 : decode cX7_print 57 = .ok (.if_icmp .ge 32, 3) := by decide +kernel
theorem dX7_print_60 : decode cX7_print 60 = .ok (.aload_n 0, 1) := by decide +kernel
theorem dX7_print_61 : decode cX7_print 61 = .ok (.getfield 68, 3) := by decide +kernel
theorem dX7_print_64 : decode cX7_print 64 = .ok (.bipush 14, 2) := by decide +kernel
theorem dX7_print_66 : decode cX7_print 66 = .ok (.aload_n 0, 1) := by decide +kernel
theorem dX7_print_67 : decode cX7_print 67 = .ok (.getfield 164, 3) := by decide +kernel
theorem dX7_print_70 : decode cX7_print 70 = .ok (.imul, 1) := by decide +kernel
theorem dX7_print_71 : decode cX7_print 71 = .ok (.iload_n 1, 1) := by decide +kernel
theorem dX7_print_72 : decode cX7_print 72 = .ok (.iadd, 1) := by decide +kernel
theorem dX7_print_73 : decode cX7_print 73 = .ok (.aload_n 0, 1) := by decide +kernel
theorem dX7_print_74 : decode cX7_print 74 = .ok (.iload_n 1, 1) := by decide +kernel
theorem dX7_print_75 : decode cX7_print 75 = .ok (.aload_n 0, 1) := by decide +kernel
theorem dX7_print_76 : decode cX7_print 76 = .ok (.getfield 103, 3) := by decide +kernel
theorem dX7_print_79 : decode cX7_print 79 = .ok (.invokevirtual 106, 3) := by decide +kernel
theorem dX7_print_82 : decode cX7_print 82 = .ok (.iastore, 1) := by decide +kernel
theorem dX7_print_83 : decode cX7_print 83 = .ok (.iinc 1 1, 3) := by decide +kernel
theorem dX7_print_86 : decode cX7_print 86 = .ok (.goto (-34), 3) := by decide +kernel
theorem dX7_print_89 : decode cX7_print 89 = .ok (.iconst 0, 1) := by decide +kernel
theorem dX7_print_90 : decode cX7_print 90 = .ok (.istore_n 1, 1) := by decide +kernel
theorem dX7_print_91 : decode cX7_print 91 = .ok (.iload_n 1, 1) := by decide +kernel
theorem dX7_print_92 : decode cX7_print 92 = .ok (.aload_n 0, 1) := by decide +kernel
theorem dX7_print_93 : decode cX7_print 93 = .ok (.getfield 85, 3) := by decide +kernel
theorem dX7_print_96 : decode cX7_print 96 = .ok (.if_icmp .ge 54, 3) := by decide +kernel
theorem dX7_print_99 : decode cX7_print 99 = .ok (.aload_n 0, 1) := by decide +kernel
theorem dX7_print_100 : decode cX7_print 100 = .ok (.iload_n 1, 1) := by decide +kernel
theorem dX7_print_101 : decode cX7_print 101 = .ok (.invokevirtual 99, 3) := by decide +kernel
theorem dX7_print_104 : decode cX7_print 104 = .ok (.iconst 0, 1) := by decide +kernel
theorem dX7_print_105 : decode cX7_print 105 = .ok (.istore_n 2, 1) := by decide +kernel
theorem dX7_print_106 : decode cX7_print 106 = .ok (.iload_n 2, 1) := by decide +kernel
theorem dX7_print_107 : decode cX7_print 107 = .ok (.aload_n 0, 1) := by decide +kernel
theorem dX7_print_108 : decode cX7_print 108 = .ok (.getfield 78, 3) := by decide +kernel
theorem dX7_print_111 : decode cX7_print 111 = .ok (.if_icmp .ge 33, 3) := by decide +kernel
theorem dX7_print_114 : decode cX7_print 114 = .ok (.aload_n 0, 1) := by decide +kernel
theorem dX7_print_115 : decode cX7_print 115 = .ok (.getfield 71, 3) := by decide +kernel
theorem dX7_print_118 : decode cX7_print 118 = .ok (.bipush 14, 2) := by decide +kernel
theorem dX7_print_120 : decode cX7_print 120 = .ok (.iconst 4, 1) := by decide +kernel
theorem dX7_print_121 : decode cX7_print 121 = .ok (.aload_n 0, 1) := by decide +kernel
theorem dX7_print_122 : decode cX7_print 122 = .ok (.getfield 164, 3) := by decide +kernel
theorem dX7_print_125 : decode cX7_print 125 = .ok (.imul, 1) := by decide +kernel
theorem dX7_print_126 : decode cX7_print 126 = .ok (.iload_n 1, 1) := by decide +kernel
theorem dX7_print_127 : decode cX7_print 127 = .ok (.iadd, 1) := by decide +kernel
theorem dX7_print_128 : decode cX7_print 128 = .ok (.imul, 1) := by decide +kernel
theorem dX7_print_129 : decode cX7_print 129 = .ok (.iload_n 2, 1) := by decide +kernel
theorem dX7_print_130 : decode cX7_print 130 = .ok (.iadd, 1) := by decide +kernel
theorem dX7_print_131 : decode cX7_print 131 = .ok (.aload_n 0, 1) := by decide +kernel
theorem dX7_print_132 : decode cX7_print 132 = .ok (.getfield 50, 3) := by decide +kernel
theorem dX7_print_135 : decode cX7_print 135 = .ok (.iload_n 2, 1) := by decide +kernel
theorem dX7_print_136 : decode cX7_print 136 = .ok (.iaload, 1) := by decide +kernel
theorem dX7_print_137 : decode cX7_print 137 = .ok (.iastore, 1) := by decide +kernel
theorem dX7_print_138 : decode cX7_print 138 = .ok (.iinc 2 1, 3) := by decide +kernel
theorem dX7_print_141 : decode cX7_print 141 = .ok (.goto (-35), 3) := by decide +kernel
theorem dX7_print_144 : decode cX7_print 144 = .ok (.iinc 1 1, 3) := by decide +kernel
theorem dX7_print_147 : decode cX7_print 147 = .ok (.goto (-56), 3) := by decide +kernel
theorem dX7_print_150 : decode cX7_print 150 = .ok (.aload_n 0, 1) := by decide +kernel
theorem dX7_print_151 : decode cX7_print 151 = .ok (.dup, 1) := by decide +kernel
theorem dX7_print_152 : decode cX7_print 152 = .ok (.getfield 164, 3) := by decide +kernel
theorem dX7_print_155 : decode cX7_print 155 = .ok (.iconst 1, 1) := by decide +kernel
theorem dX7_print_156 : decode cX7_print 156 = .ok (.iadd, 1) := by decide +kernel
theorem dX7_print_157 : decode cX7_print 157 = .ok (.putfield 164, 3) := by decide +kernel
theorem dX7_print_160 : decode cX7_print 160 = .ok (.aload_n 0, 1) := by decide +kernel
theorem dX7_print_161 : decode cX7_print 161 = .ok (.getfield 164, 3) := by decide +kernel
theorem dX7_print_164 : decode cX7_print 164 = .ok (.iconst 1, 1) := by decide +kernel
theorem dX7_print_165 : decode cX7_print 165 = .ok (.isub, 1) := by decide +kernel
theorem dX7_print_166 : decode cX7_print 166 = .ok (.ireturn, 1) := by decide +kernel
theorem dX7_printed_0 : decode cX7_printed 0 = .ok (.aload_n 0, 1) := by decide +kernel
theorem dX7_printed_1 : decode cX7_printed 1 = .ok (.iload_n 1, 1) := by decide +kernel
theorem dX7_printed_2 : decode cX7_printed 2 = .ok (.iconst 0, 1) := by decide +kernel
theorem dX7_printed_3 : decode cX7_printed 3 = .ok (.aload_n 0, 1) := by decide +kernel
theorem dX7_printed_4 : decode cX7_printed 4 = .ok (.getfield 164, 3) := by decide +kernel
theorem dX7_printed_7 : decode cX7_printed 7 = .ok (.iconst 1, 1) := by decide +kernel
theorem dX7_printed_8 : decode cX7_printed 8 = .ok (.isub, 1) := by decide +kernel
theorem dX7_printed_9 : decode cX7_printed 9 = .ok (.invokestatic 81, 3) := by decide +kernel
theorem dX7_printed_12 : decode cX7_printed 12 = .ok (.ifCond .eq 24, 3) := by decide +kernel
theorem dX7_printed_15 : decode cX7_printed 15 = .ok (.aload_n 0, 1) := by decide +kernel
theorem dX7_printed_16 : decode cX7_printed 16 = .ok (.iload_n 2, 1) := by decide +kernel
theorem dX7_printed_17 : decode cX7_printed 17 = .ok (.invokevirtual 145, 3) := by decide +kernel
theorem dX7_printed_20 : decode cX7_printed 20 = .ok (.ifCond .eq 16, 3) := by decide +kernel
theorem dX7_printed_23 : decode cX7_printed 23 = .ok (.iload_n 3, 1) := by decide +kernel
theorem dX7_printed_24 : decode cX7_printed 24 = .ok (.iload 4, 2) := by decide +kernel
theorem dX7_printed_26 : decode cX7_printed 26 = .ok (.invokestatic 148, 3) := by decide +kernel
theorem dX7_printed_29 : decode cX7_printed 29 = .ok (.ifCond .eq 7, 3) := by decide +kernel
theorem dX7_printed_32 : decode cX7_printed 32 = .ok (.iconst 1, 1) := by decide +kernel
theorem dX7_printed_33 : decode cX7_printed 33 = .ok (.goto 4, 3) := by decide +kernel
theorem dX7_printed_36 : decode cX7_printed 36 = .ok (.iconst 0, 1) := by decide +kernel
theorem dX7_printed_37 : decode cX7_printed 37 = .ok (.iconst 1, 1) := by decide +kernel
theorem dX7_printed_38 : decode cX7_printed 38 = .ok (.iconst 1, 1) := by decide +kernel
theorem dX7_printed_39 : decode cX7_printed 39 = .ok (.invokevirtual 91, 3) := by decide +kernel
theorem dX7_printed_42 : decode cX7_printed 42 = .ok (.ifCond .ne 6, 3) := by decide +kernel
theorem dX7_printed_45 : decode cX7_printed 45 = .ok (.bipush 32, 2) := by decide +kernel
theorem dX7_printed_47 : decode cX7_printed 47 = .ok (.ireturn, 1) := by decide +kernel
theorem dX7_printed_48 : decode cX7_printed 48 = .ok (.iload_n 2, 1) := by decide +kernel
theorem dX7_printed_49 : decode cX7_printed 49 = .ok (.aload_n 0, 1) := by decide +kernel
theorem dX7_printed_50 : decode cX7_printed 50 = .ok (.getfield 65, 3) := by decide +kernel
theorem dX7_printed_53 : decode cX7_printed 53 = .ok (.iload_n 1, 1) := by decide +kernel
theorem dX7_printed_54 : decode cX7_printed 54 = .ok (.iaload, 1) := by decide +kernel
theorem dX7_printed_55 : decode cX7_printed 55 = .ok (.if_icmp .lt 6, 3) := by decide +kernel
theorem dX7_printed_58 : decode cX7_printed 58 = .ok (.bipush 32, 2) := by decide +kernel
theorem dX7_printed_60 : decode cX7_printed 60 = .ok (.ireturn, 1) := by decide +kernel
theorem dX7_printed_61 : decode cX7_printed 61 = .ok (.aload_n 0, 1) := by decide +kernel
theorem dX7_printed_62 : decode cX7_printed 62 = .ok (.iload_n 2, 1) := by decide +kernel
theorem dX7_printed_63 : decode cX7_printed 63 = .ok (.aload_n 0, 1) := by decide +kernel
theorem dX7_printed_64 : decode cX7_printed 64 = .ok (.getfield 62, 3) := by decide +kernel
theorem dX7_printed_67 : decode cX7_printed 67 = .ok (.iload_n 1, 1) := by decide +kernel
theorem dX7_printed_68 : decode cX7_printed 68 = .ok (.iaload, 1) := by decide +kernel
theorem dX7_printed_69 : decode cX7_printed 69 = .ok (.invokevirtual 131, 3) := by decide +kernel
theorem dX7_printed_72 : decode cX7_printed 72 = .ok (.iconst 0, 1) := by decide +kernel
theorem dX7_printed_73 : decode cX7_printed 73 = .ok (.istore 5, 2) := by decide +kernel
theorem dX7_printed_75 : decode cX7_printed 75 = .ok (.iload 5, 2) := by decide +kernel
theorem dX7_printed_77 : decode cX7_printed 77 = .ok (.aload_n 0, 1) := by decide +kernel
theorem dX7_printed_78 : decode cX7_printed 78 = .ok (.getfield 62, 3) := by decide +kernel
theorem dX7_printed_81 : decode cX7_printed 81 = .ok (.iload_n 1, 1) := by decide +kernel
theorem dX7_printed_82 : decode cX7_printed 82 = .ok (.iaload, 1) := by decide +kernel
theorem dX7_printed_83 : decode cX7_printed 83 = .ok (.if_icmp .ge 53, 3) := by decide +kernel
theorem dX7_printed_86 : decode cX7_printed 86 = .ok (.aload_n 0, 1) := by decide +kernel
theorem dX7_printed_87 : decode cX7_printed 87 = .ok (.getfield 71, 3) := by decide +kernel
theorem dX7_printed_90 : decode cX7_printed 90 = .ok (.bipush 14, 2) := by decide +kernel
theorem dX7_printed_92 : decode cX7_printed 92 = .ok (.iconst 4, 1) := by decide +kernel
theorem dX7_printed_93 : decode cX7_printed 93 = .ok (.iload_n 1, 1) := by decide +kernel
theorem dX7_printed_94 : decode cX7_printed 94 = .ok (.imul, 1) := by decide +kernel
theorem dX7_printed_95 : decode cX7_printed 95 = .ok (.iload_n 2, 1) := by decide +kernel
theorem dX7_printed_96 : decode cX7_printed 96 = .ok (.iadd, 1) := by decide +kernel
theorem dX7_printed_97 : decode cX7_printed 97 = .ok (.imul, 1) := by decide +kernel
theorem dX7_printed_98 : decode cX7_printed 98 = .ok (.iload 5, 2) := by decide +kernel
theorem dX7_printed_100 : decode cX7_printed 100 = .ok (.iadd, 1) := by decide +kernel
theorem dX7_printed_101 : decode cX7_printed 101 = .ok (.iaload, 1) := by decide +kernel
theorem dX7_printed_102 : decode cX7_printed 102 = .ok (.istore 6, 2) := by decide +kernel
theorem dX7_printed_104 : decode cX7_printed 104 = .ok (.iload 6, 2) := by decide +kernel
theorem dX7_printed_106 : decode cX7_printed 106 = .ok (.iconst (-1), 1) := by decide +kernel
theorem dX7_printed_107 : decode cX7_printed 107 = .ok (.if_icmp .eq 23, 3) := by decide +kernel
theorem dX7_printed_110 : decode cX7_printed 110 = .ok (.aload_n 0, 1) := by decide +kernel
theorem dX7_printed_111 : decode cX7_printed 111 = .ok (.iload 5, 2) := by decide +kernel
theorem dX7_printed_113 : decode cX7_printed 113 = .ok (.aload_n 0, 1) := by decide +kernel
theorem dX7_printed_114 : decode cX7_printed 114 = .ok (.getfield 68, 3) := by decide +kernel
theorem dX7_printed_117 : decode cX7_printed 117 = .ok (.bipush 14, 2) := by decide +kernel
theorem dX7_printed_119 : decode cX7_printed 119 = .ok (.iload_n 1, 1) := by decide +kernel
theorem dX7_printed_120 : decode cX7_printed 120 = .ok (.imul, 1) := by decide +kernel
theorem dX7_printed_121 : decode cX7_printed 121 = .ok (.iload 5, 2) := by decide +kernel
theorem dX7_printed_123 : decode cX7_printed 123 = .ok (.iadd, 1) := by decide +kernel
theorem dX7_printed_124 : decode cX7_printed 124 = .ok (.iaload, 1) := by decide +kernel
theorem dX7_printed_125 : decode cX7_printed 125 = .ok (.iload 6, 2) := by decide +kernel
theorem dX7_printed_127 : decode cX7_printed 127 = .ok (.invokevirtual 141, 3) := by decide +kernel
theorem dX7_printed_130 : decode cX7_printed 130 = .ok (.iinc 5 1, 3) := by decide +kernel
theorem dX7_printed_133 : decode cX7_printed 133 = .ok (.goto (-58), 3) := by decide +kernel
theorem dX7_printed_136 : decode cX7_printed 136 = .ok (.aload_n 0, 1) := by decide +kernel
theorem dX7_printed_137 : decode cX7_printed 137 = .ok (.getfield 53, 3) := by decide +kernel
theorem dX7_printed_140 : decode cX7_printed 140 = .ok (.bipush 40, 2) := by decide +kernel
theorem dX7_printed_142 : decode cX7_printed 142 = .ok (.iload_n 3, 1) := by decide +kernel
theorem dX7_printed_143 : decode cX7_printed 143 = .ok (.imul, 1) := by decide +kernel
theorem dX7_printed_144 : decode cX7_printed 144 = .ok (.iload 4, 2) := by decide +kernel
theorem dX7_printed_146 : decode cX7_printed 146 = .ok (.iadd, 1) := by decide +kernel
theorem dX7_printed_147 : decode cX7_printed 147 = .ok (.caload, 1) := by decide +kernel
theorem dX7_printed_148 : decode cX7_printed 148 = .ok (.ireturn, 1) := by decide +kernel
theorem dL_letter_0 : decode cL_letter 0 = .ok (.aload_n 2, 1) := by decide +kernel
theorem dL_letter_1 : decode cL_letter 1 = .ok (.iconst 0, 1) := by decide +kernel
theorem dL_letter_2 : decode cL_letter 2 = .ok (.aload_n 0, 1) := by decide +kernel
theorem dL_letter_3 : decode cL_letter 3 = .ok (.iload_n 1, 1) := by decide +kernel
theorem dL_letter_4 : decode cL_letter 4 = .ok (.invokevirtual 7, 3) := by decide +kernel
theorem dL_letter_7 : decode cL_letter 7 = .ok (.i2l, 1) := by decide +kernel
theorem dL_letter_8 : decode cL_letter 8 = .ok (.lastore, 1) := by decide +kernel
theorem dL_letter_9 : decode cL_letter 9 = .ok (.goto 9, 3) := by decide +kernel
theorem dL_letter_12 : decode cL_letter 12 = .ok (.astore_n 3, 1) := by decide +kernel
theorem dL_letter_13 : decode cL_letter 13 = .ok (.iconst 1, 1) := by decide +kernel
theorem dL_letter_14 : decode cL_letter 14 = .ok (.ireturn, 1) := by decide +kernel
theorem dL_letter_15 : decode cL_letter 15 = .ok (.astore_n 3, 1) := by decide +kernel
theorem dL_letter_16 : decode cL_letter 16 = .ok (.iconst 2, 1) := by decide +kernel
theorem dL_letter_17 : decode cL_letter 17 = .ok (.ireturn, 1) := by decide +kernel
theorem dL_letter_18 : decode cL_letter 18 = .ok (.iconst 0, 1) := by decide +kernel
theorem dL_letter_19 : decode cL_letter 19 = .ok (.ireturn, 1) := by decide +kernel
theorem dL_place_0 : decode cL_place 0 = .ok (.aload 4, 2) := by decide +kernel
theorem dL_place_2 : decode cL_place 2 = .ok (.iconst 0, 1) := by decide +kernel
theorem dL_place_3 : decode cL_place 3 = .ok (.aload_n 0, 1) := by decide +kernel
theorem dL_place_4 : decode cL_place 4 = .ok (.iload_n 1, 1) := by decide +kernel
theorem dL_place_5 : decode cL_place 5 = .ok (.iload_n 2, 1) := by decide +kernel
theorem dL_place_6 : decode cL_place 6 = .ok (.iload_n 3, 1) := by decide +kernel
theorem dL_place_7 : decode cL_place 7 = .ok (.invokevirtual 17, 3) := by decide +kernel
theorem dL_place_10 : decode cL_place 10 = .ok (.i2l, 1) := by decide +kernel
theorem dL_place_11 : decode cL_place 11 = .ok (.lastore, 1) := by decide +kernel
theorem dL_place_12 : decode cL_place 12 = .ok (.goto 11, 3) := by decide +kernel
theorem dL_place_15 : decode cL_place 15 = .ok (.astore 5, 2) := by decide +kernel
theorem dL_place_17 : decode cL_place 17 = .ok (.iconst 1, 1) := by decide +kernel
theorem dL_place_18 : decode cL_place 18 = .ok (.ireturn, 1) := by decide +kernel
theorem dL_place_19 : decode cL_place 19 = .ok (.astore 5, 2) := by decide +kernel
theorem dL_place_21 : decode cL_place 21 = .ok (.iconst 2, 1) := by decide +kernel
theorem dL_place_22 : decode cL_place 22 = .ok (.ireturn, 1) := by decide +kernel
theorem dL_place_23 : decode cL_place 23 = .ok (.iconst 0, 1) := by decide +kernel
theorem dL_place_24 : decode cL_place 24 = .ok (.ireturn, 1) := by decide +kernel
theorem dL_name_0 : decode cL_name 0 = .ok (.aload_n 2, 1) := by decide +kernel
theorem dL_name_1 : decode cL_name 1 = .ok (.iconst 0, 1) := by decide +kernel
theorem dL_name_2 : decode cL_name 2 = .ok (.aload_n 0, 1) := by decide +kernel
theorem dL_name_3 : decode cL_name 3 = .ok (.iload_n 1, 1) := by decide +kernel
theorem dL_name_4 : decode cL_name 4 = .ok (.invokevirtual 21, 3) := by decide +kernel
theorem dL_name_7 : decode cL_name 7 = .ok (.i2l, 1) := by decide +kernel
theorem dL_name_8 : decode cL_name 8 = .ok (.lastore, 1) := by decide +kernel
theorem dL_name_9 : decode cL_name 9 = .ok (.goto 9, 3) := by decide +kernel
theorem dL_name_12 : decode cL_name 12 = .ok (.astore_n 3, 1) := by decide +kernel
theorem dL_name_13 : decode cL_name 13 = .ok (.iconst 1, 1) := by decide +kernel
theorem dL_name_14 : decode cL_name 14 = .ok (.ireturn, 1) := by decide +kernel
theorem dL_name_15 : decode cL_name 15 = .ok (.astore_n 3, 1) := by decide +kernel
theorem dL_name_16 : decode cL_name 16 = .ok (.iconst 2, 1) := by decide +kernel
theorem dL_name_17 : decode cL_name 17 = .ok (.ireturn, 1) := by decide +kernel
theorem dL_name_18 : decode cL_name 18 = .ok (.iconst 0, 1) := by decide +kernel
theorem dL_name_19 : decode cL_name 19 = .ok (.ireturn, 1) := by decide +kernel
theorem dL_spelled_0 : decode cL_spelled 0 = .ok (.aload 4, 2) := by decide +kernel
theorem dL_spelled_2 : decode cL_spelled 2 = .ok (.iconst 0, 1) := by decide +kernel
theorem dL_spelled_3 : decode cL_spelled 3 = .ok (.aload_n 0, 1) := by decide +kernel
theorem dL_spelled_4 : decode cL_spelled 4 = .ok (.iload_n 1, 1) := by decide +kernel
theorem dL_spelled_5 : decode cL_spelled 5 = .ok (.iload_n 2, 1) := by decide +kernel
theorem dL_spelled_6 : decode cL_spelled 6 = .ok (.iload_n 3, 1) := by decide +kernel
theorem dL_spelled_7 : decode cL_spelled 7 = .ok (.invokevirtual 27, 3) := by decide +kernel
theorem dL_spelled_10 : decode cL_spelled 10 = .ok (.i2l, 1) := by decide +kernel
theorem dL_spelled_11 : decode cL_spelled 11 = .ok (.lastore, 1) := by decide +kernel
theorem dL_spelled_12 : decode cL_spelled 12 = .ok (.goto 11, 3) := by decide +kernel
theorem dL_spelled_15 : decode cL_spelled 15 = .ok (.astore 5, 2) := by decide +kernel
theorem dL_spelled_17 : decode cL_spelled 17 = .ok (.iconst 1, 1) := by decide +kernel
theorem dL_spelled_18 : decode cL_spelled 18 = .ok (.ireturn, 1) := by decide +kernel
theorem dL_spelled_19 : decode cL_spelled 19 = .ok (.astore 5, 2) := by decide +kernel
theorem dL_spelled_21 : decode cL_spelled 21 = .ok (.iconst 2, 1) := by decide +kernel
theorem dL_spelled_22 : decode cL_spelled 22 = .ok (.ireturn, 1) := by decide +kernel
theorem dL_spelled_23 : decode cL_spelled 23 = .ok (.iconst 0, 1) := by decide +kernel
theorem dL_spelled_24 : decode cL_spelled 24 = .ok (.ireturn, 1) := by decide +kernel
theorem dL_pass_0 : decode cL_pass 0 = .ok (.aload_n 2, 1) := by decide +kernel
theorem dL_pass_1 : decode cL_pass 1 = .ok (.iconst 0, 1) := by decide +kernel
theorem dL_pass_2 : decode cL_pass 2 = .ok (.aload_n 0, 1) := by decide +kernel
theorem dL_pass_3 : decode cL_pass 3 = .ok (.iload_n 1, 1) := by decide +kernel
theorem dL_pass_4 : decode cL_pass 4 = .ok (.invokevirtual 31, 3) := by decide +kernel
theorem dL_pass_7 : decode cL_pass 7 = .ok (.i2l, 1) := by decide +kernel
theorem dL_pass_8 : decode cL_pass 8 = .ok (.lastore, 1) := by decide +kernel
theorem dL_pass_9 : decode cL_pass 9 = .ok (.goto 9, 3) := by decide +kernel
theorem dL_pass_12 : decode cL_pass 12 = .ok (.astore_n 3, 1) := by decide +kernel
theorem dL_pass_13 : decode cL_pass 13 = .ok (.iconst 1, 1) := by decide +kernel
theorem dL_pass_14 : decode cL_pass 14 = .ok (.ireturn, 1) := by decide +kernel
theorem dL_pass_15 : decode cL_pass 15 = .ok (.astore_n 3, 1) := by decide +kernel
theorem dL_pass_16 : decode cL_pass 16 = .ok (.iconst 2, 1) := by decide +kernel
theorem dL_pass_17 : decode cL_pass 17 = .ok (.ireturn, 1) := by decide +kernel
theorem dL_pass_18 : decode cL_pass 18 = .ok (.iconst 0, 1) := by decide +kernel
theorem dL_pass_19 : decode cL_pass 19 = .ok (.ireturn, 1) := by decide +kernel
theorem dL_sheet_0 : decode cL_sheet 0 = .ok (.aload 4, 2) := by decide +kernel
theorem dL_sheet_2 : decode cL_sheet 2 = .ok (.iconst 0, 1) := by decide +kernel
theorem dL_sheet_3 : decode cL_sheet 3 = .ok (.aload_n 0, 1) := by decide +kernel
theorem dL_sheet_4 : decode cL_sheet 4 = .ok (.iload_n 1, 1) := by decide +kernel
theorem dL_sheet_5 : decode cL_sheet 5 = .ok (.iload_n 2, 1) := by decide +kernel
theorem dL_sheet_6 : decode cL_sheet 6 = .ok (.iload_n 3, 1) := by decide +kernel
theorem dL_sheet_7 : decode cL_sheet 7 = .ok (.invokevirtual 34, 3) := by decide +kernel
theorem dL_sheet_10 : decode cL_sheet 10 = .ok (.i2l, 1) := by decide +kernel
theorem dL_sheet_11 : decode cL_sheet 11 = .ok (.lastore, 1) := by decide +kernel
theorem dL_sheet_12 : decode cL_sheet 12 = .ok (.goto 11, 3) := by decide +kernel
theorem dL_sheet_15 : decode cL_sheet 15 = .ok (.astore 5, 2) := by decide +kernel
theorem dL_sheet_17 : decode cL_sheet 17 = .ok (.iconst 1, 1) := by decide +kernel
theorem dL_sheet_18 : decode cL_sheet 18 = .ok (.ireturn, 1) := by decide +kernel
theorem dL_sheet_19 : decode cL_sheet 19 = .ok (.astore 5, 2) := by decide +kernel
theorem dL_sheet_21 : decode cL_sheet 21 = .ok (.iconst 2, 1) := by decide +kernel
theorem dL_sheet_22 : decode cL_sheet 22 = .ok (.ireturn, 1) := by decide +kernel
theorem dL_sheet_23 : decode cL_sheet 23 = .ok (.iconst 0, 1) := by decide +kernel
theorem dL_sheet_24 : decode cL_sheet 24 = .ok (.ireturn, 1) := by decide +kernel
theorem dL_dot_0 : decode cL_dot 0 = .ok (.aload 4, 2) := by decide +kernel
theorem dL_dot_2 : decode cL_dot 2 = .ok (.iconst 0, 1) := by decide +kernel
theorem dL_dot_3 : decode cL_dot 3 = .ok (.aload_n 0, 1) := by decide +kernel
theorem dL_dot_4 : decode cL_dot 4 = .ok (.iload_n 1, 1) := by decide +kernel
theorem dL_dot_5 : decode cL_dot 5 = .ok (.iload_n 2, 1) := by decide +kernel
theorem dL_dot_6 : decode cL_dot 6 = .ok (.iload_n 3, 1) := by decide +kernel
theorem dL_dot_7 : decode cL_dot 7 = .ok (.invokevirtual 37, 3) := by decide +kernel
theorem dL_dot_10 : decode cL_dot 10 = .ok (.i2l, 1) := by decide +kernel
theorem dL_dot_11 : decode cL_dot 11 = .ok (.lastore, 1) := by decide +kernel
theorem dL_dot_12 : decode cL_dot 12 = .ok (.goto 7, 3) := by decide +kernel
theorem dL_dot_15 : decode cL_dot 15 = .ok (.astore 5, 2) := by decide +kernel
theorem dL_dot_17 : decode cL_dot 17 = .ok (.iconst 1, 1) := by decide +kernel
theorem dL_dot_18 : decode cL_dot 18 = .ok (.ireturn, 1) := by decide +kernel
theorem dL_dot_19 : decode cL_dot 19 = .ok (.iconst 0, 1) := by decide +kernel
theorem dL_dot_20 : decode cL_dot 20 = .ok (.ireturn, 1) := by decide +kernel
theorem dL_side_0 : decode cL_side 0 = .ok (.aload_n 3, 1) := by decide +kernel
theorem dL_side_1 : decode cL_side 1 = .ok (.iconst 0, 1) := by decide +kernel
theorem dL_side_2 : decode cL_side 2 = .ok (.aload_n 0, 1) := by decide +kernel
theorem dL_side_3 : decode cL_side 3 = .ok (.iload_n 1, 1) := by decide +kernel
theorem dL_side_4 : decode cL_side 4 = .ok (.iload_n 2, 1) := by decide +kernel
theorem dL_side_5 : decode cL_side 5 = .ok (.invokevirtual 41, 3) := by decide +kernel
theorem dL_side_8 : decode cL_side 8 = .ok (.i2l, 1) := by decide +kernel
theorem dL_side_9 : decode cL_side 9 = .ok (.lastore, 1) := by decide +kernel
theorem dL_side_10 : decode cL_side 10 = .ok (.goto 7, 3) := by decide +kernel
theorem dL_side_13 : decode cL_side 13 = .ok (.astore 4, 2) := by decide +kernel
theorem dL_side_15 : decode cL_side 15 = .ok (.iconst 1, 1) := by decide +kernel
theorem dL_side_16 : decode cL_side 16 = .ok (.ireturn, 1) := by decide +kernel
theorem dL_side_17 : decode cL_side 17 = .ok (.iconst 0, 1) := by decide +kernel
theorem dL_side_18 : decode cL_side 18 = .ok (.ireturn, 1) := by decide +kernel
theorem dL_drawn_0 : decode cL_drawn 0 = .ok (.aload 4, 2) := by decide +kernel
theorem dL_drawn_2 : decode cL_drawn 2 = .ok (.iconst 0, 1) := by decide +kernel
theorem dL_drawn_3 : decode cL_drawn 3 = .ok (.aload_n 0, 1) := by decide +kernel
theorem dL_drawn_4 : decode cL_drawn 4 = .ok (.iload_n 1, 1) := by decide +kernel
theorem dL_drawn_5 : decode cL_drawn 5 = .ok (.iload_n 2, 1) := by decide +kernel
theorem dL_drawn_6 : decode cL_drawn 6 = .ok (.iload_n 3, 1) := by decide +kernel
theorem dL_drawn_7 : decode cL_drawn 7 = .ok (.invokevirtual 45, 3) := by decide +kernel
theorem dL_drawn_10 : decode cL_drawn 10 = .ok (.i2l, 1) := by decide +kernel
theorem dL_drawn_11 : decode cL_drawn 11 = .ok (.lastore, 1) := by decide +kernel
theorem dL_drawn_12 : decode cL_drawn 12 = .ok (.goto 7, 3) := by decide +kernel
theorem dL_drawn_15 : decode cL_drawn 15 = .ok (.astore 5, 2) := by decide +kernel
theorem dL_drawn_17 : decode cL_drawn 17 = .ok (.iconst 1, 1) := by decide +kernel
theorem dL_drawn_18 : decode cL_drawn 18 = .ok (.ireturn, 1) := by decide +kernel
theorem dL_drawn_19 : decode cL_drawn 19 = .ok (.iconst 0, 1) := by decide +kernel
theorem dL_drawn_20 : decode cL_drawn 20 = .ok (.ireturn, 1) := by decide +kernel
theorem dL_worth_0 : decode cL_worth 0 = .ok (.aload_n 2, 1) := by decide +kernel
theorem dL_worth_1 : decode cL_worth 1 = .ok (.iconst 0, 1) := by decide +kernel
theorem dL_worth_2 : decode cL_worth 2 = .ok (.aload_n 0, 1) := by decide +kernel
theorem dL_worth_3 : decode cL_worth 3 = .ok (.iload_n 1, 1) := by decide +kernel
theorem dL_worth_4 : decode cL_worth 4 = .ok (.invokevirtual 48, 3) := by decide +kernel
theorem dL_worth_7 : decode cL_worth 7 = .ok (.i2l, 1) := by decide +kernel
theorem dL_worth_8 : decode cL_worth 8 = .ok (.lastore, 1) := by decide +kernel
theorem dL_worth_9 : decode cL_worth 9 = .ok (.goto 6, 3) := by decide +kernel
theorem dL_worth_12 : decode cL_worth 12 = .ok (.astore_n 3, 1) := by decide +kernel
theorem dL_worth_13 : decode cL_worth 13 = .ok (.iconst 1, 1) := by decide +kernel
theorem dL_worth_14 : decode cL_worth 14 = .ok (.ireturn, 1) := by decide +kernel
theorem dL_worth_15 : decode cL_worth 15 = .ok (.iconst 0, 1) := by decide +kernel
theorem dL_worth_16 : decode cL_worth 16 = .ok (.ireturn, 1) := by decide +kernel
theorem dL_best_0 : decode cL_best 0 = .ok (.aload_n 2, 1) := by decide +kernel
theorem dL_best_1 : decode cL_best 1 = .ok (.iconst 0, 1) := by decide +kernel
theorem dL_best_2 : decode cL_best 2 = .ok (.aload_n 0, 1) := by decide +kernel
theorem dL_best_3 : decode cL_best 3 = .ok (.iload_n 1, 1) := by decide +kernel
theorem dL_best_4 : decode cL_best 4 = .ok (.invokevirtual 51, 3) := by decide +kernel
theorem dL_best_7 : decode cL_best 7 = .ok (.i2l, 1) := by decide +kernel
theorem dL_best_8 : decode cL_best 8 = .ok (.lastore, 1) := by decide +kernel
theorem dL_best_9 : decode cL_best 9 = .ok (.goto 9, 3) := by decide +kernel
theorem dL_best_12 : decode cL_best 12 = .ok (.astore_n 3, 1) := by decide +kernel
theorem dL_best_13 : decode cL_best 13 = .ok (.iconst 1, 1) := by decide +kernel
theorem dL_best_14 : decode cL_best 14 = .ok (.ireturn, 1) := by decide +kernel
theorem dL_best_15 : decode cL_best 15 = .ok (.astore_n 3, 1) := by decide +kernel
theorem dL_best_16 : decode cL_best 16 = .ok (.iconst 2, 1) := by decide +kernel
theorem dL_best_17 : decode cL_best 17 = .ok (.ireturn, 1) := by decide +kernel
theorem dL_best_18 : decode cL_best 18 = .ok (.iconst 0, 1) := by decide +kernel
theorem dL_best_19 : decode cL_best 19 = .ok (.ireturn, 1) := by decide +kernel
theorem dL_print_0 : decode cL_print 0 = .ok (.aload_n 1, 1) := by decide +kernel
theorem dL_print_1 : decode cL_print 1 = .ok (.iconst 0, 1) := by decide +kernel
theorem dL_print_2 : decode cL_print 2 = .ok (.aload_n 0, 1) := by decide +kernel
theorem dL_print_3 : decode cL_print 3 = .ok (.invokevirtual 54, 3) := by decide +kernel
theorem dL_print_6 : decode cL_print 6 = .ok (.i2l, 1) := by decide +kernel
theorem dL_print_7 : decode cL_print 7 = .ok (.lastore, 1) := by decide +kernel
theorem dL_print_8 : decode cL_print 8 = .ok (.goto 6, 3) := by decide +kernel
theorem dL_print_11 : decode cL_print 11 = .ok (.astore_n 2, 1) := by decide +kernel
theorem dL_print_12 : decode cL_print 12 = .ok (.iconst 1, 1) := by decide +kernel
theorem dL_print_13 : decode cL_print 13 = .ok (.ireturn, 1) := by decide +kernel
theorem dL_print_14 : decode cL_print 14 = .ok (.iconst 0, 1) := by decide +kernel
theorem dL_print_15 : decode cL_print 15 = .ok (.ireturn, 1) := by decide +kernel
theorem dL_printed_0 : decode cL_printed 0 = .ok (.aload 5, 2) := by decide +kernel
theorem dL_printed_2 : decode cL_printed 2 = .ok (.iconst 0, 1) := by decide +kernel
theorem dL_printed_3 : decode cL_printed 3 = .ok (.aload_n 0, 1) := by decide +kernel
theorem dL_printed_4 : decode cL_printed 4 = .ok (.iload_n 1, 1) := by decide +kernel
theorem dL_printed_5 : decode cL_printed 5 = .ok (.iload_n 2, 1) := by decide +kernel
theorem dL_printed_6 : decode cL_printed 6 = .ok (.iload_n 3, 1) := by decide +kernel
theorem dL_printed_7 : decode cL_printed 7 = .ok (.iload 4, 2) := by decide +kernel
theorem dL_printed_9 : decode cL_printed 9 = .ok (.invokevirtual 58, 3) := by decide +kernel
theorem dL_printed_12 : decode cL_printed 12 = .ok (.i2l, 1) := by decide +kernel
theorem dL_printed_13 : decode cL_printed 13 = .ok (.lastore, 1) := by decide +kernel
theorem dL_printed_14 : decode cL_printed 14 = .ok (.goto 7, 3) := by decide +kernel
theorem dL_printed_17 : decode cL_printed 17 = .ok (.astore 6, 2) := by decide +kernel
theorem dL_printed_19 : decode cL_printed 19 = .ok (.iconst 1, 1) := by decide +kernel
theorem dL_printed_20 : decode cL_printed 20 = .ok (.ireturn, 1) := by decide +kernel
theorem dL_printed_21 : decode cL_printed 21 = .ok (.iconst 0, 1) := by decide +kernel
theorem dL_printed_22 : decode cL_printed 22 = .ok (.ireturn, 1) := by decide +kernel
theorem dL_law_0 : decode cL_law 0 = .ok (.new 8, 3) := by decide +kernel
theorem dL_law_3 : decode cL_law 3 = .ok (.dup, 1) := by decide +kernel
theorem dL_law_4 : decode cL_law 4 = .ok (.invokespecial 62, 3) := by decide +kernel
theorem dL_law_7 : decode cL_law 7 = .ok (.astore_n 1, 1) := by decide +kernel
theorem dL_law_8 : decode cL_law 8 = .ok (.new 63, 3) := by decide +kernel
theorem dL_law_11 : decode cL_law 11 = .ok (.dup, 1) := by decide +kernel
theorem dL_law_12 : decode cL_law 12 = .ok (.invokespecial 65, 3) := by decide +kernel
theorem dL_law_15 : decode cL_law 15 = .ok (.astore_n 2, 1) := by decide +kernel
theorem dL_law_16 : decode cL_law 16 = .ok (.iconst 1, 1) := by decide +kernel
theorem dL_law_17 : decode cL_law 17 = .ok (.newarray .long, 2) := by decide +kernel
theorem dL_law_19 : decode cL_law 19 = .ok (.astore_n 3, 1) := by decide +kernel
theorem dL_law_20 : decode cL_law 20 = .ok (.iconst 0, 1) := by decide +kernel
theorem dL_law_21 : decode cL_law 21 = .ok (.istore 4, 2) := by decide +kernel
theorem dL_law_23 : decode cL_law 23 = .ok (.iload 4, 2) := by decide +kernel
theorem dL_law_25 : decode cL_law 25 = .ok (.aload_n 0, 1) := by decide +kernel
theorem dL_law_26 : decode cL_law 26 = .ok (.arraylength, 1) := by decide +kernel
theorem dL_law_27 : decode cL_law 27 = .ok (.iconst 5, 1) := by decide +kernel
theorem dL_law_28 : decode cL_law 28 = .ok (.isub, 1) := by decide +kernel
theorem dL_law_29 : decode cL_law 29 = .ok (.if_icmp .gt 983, 3) := by decide +kernel
theorem dL_law_32 : decode cL_law 32 = .ok (.aload_n 0, 1) := by decide +kernel
theorem dL_law_33 : decode cL_law 33 = .ok (.iload 4, 2) := by decide +kernel
theorem dL_law_35 : decode cL_law 35 = .ok (.iaload, 1) := by decide +kernel
theorem dL_law_36 : decode cL_law 36 = .ok (.bipush 15, 2) := by decide +kernel
theorem dL_law_38 : decode cL_law 38 = .ok (.iand, 1) := by decide +kernel
theorem dL_law_39 : decode cL_law 39 = .ok (.tableswitch 967 0 12 #[65, 123, 203, 259, 339, 395, 475, 571, 639, 719, 775, 831, 875], 65) := by decide +kernel
theorem dL_law_104 : decode cL_law 104 = .ok (.aload_n 1, 1) := by decide +kernel
theorem dL_law_105 : decode cL_law 105 = .ok (.aload_n 0, 1) := by decide +kernel
theorem dL_law_106 : decode cL_law 106 = .ok (.iload 4, 2) := by decide +kernel
theorem dL_law_108 : decode cL_law 108 = .ok (.iconst 1, 1) := by decide +kernel
theorem dL_law_109 : decode cL_law 109 = .ok (.iadd, 1) := by decide +kernel
theorem dL_law_110 : decode cL_law 110 = .ok (.iaload, 1) := by decide +kernel
theorem dL_law_111 : decode cL_law 111 = .ok (.i2c, 1) := by decide +kernel
theorem dL_law_112 : decode cL_law 112 = .ok (.aload_n 3, 1) := by decide +kernel
theorem dL_law_113 : decode cL_law 113 = .ok (.invokestatic 66, 3) := by decide +kernel
theorem dL_law_116 : decode cL_law 116 = .ok (.istore 5, 2) := by decide +kernel
theorem dL_law_118 : decode cL_law 118 = .ok (.aload_n 2, 1) := by decide +kernel
theorem dL_law_119 : decode cL_law 119 = .ok (.aload_n 0, 1) := by decide +kernel
theorem dL_law_120 : decode cL_law 120 = .ok (.iload 4, 2) := by decide +kernel
theorem dL_law_122 : decode cL_law 122 = .ok (.iconst 1, 1) := by decide +kernel
theorem dL_law_123 : decode cL_law 123 = .ok (.iadd, 1) := by decide +kernel
theorem dL_law_124 : decode cL_law 124 = .ok (.iaload, 1) := by decide +kernel
theorem dL_law_125 : decode cL_law 125 = .ok (.i2c, 1) := by decide +kernel
theorem dL_law_126 : decode cL_law 126 = .ok (.invokevirtual 71, 3) := by decide +kernel
theorem dL_law_129 : decode cL_law 129 = .ok (.istore 6, 2) := by decide +kernel
theorem dL_law_131 : decode cL_law 131 = .ok (.aload_n 2, 1) := by decide +kernel
theorem dL_law_132 : decode cL_law 132 = .ok (.invokevirtual 72, 3) := by decide +kernel
theorem dL_law_135 : decode cL_law 135 = .ok (.iload 5, 2) := by decide +kernel
theorem dL_law_137 : decode cL_law 137 = .ok (.if_icmp .eq 5, 3) := by decide +kernel
theorem dL_law_140 : decode cL_law 140 = .ok (.iconst 0, 1) := by decide +kernel
theorem dL_law_141 : decode cL_law 141 = .ok (.ireturn, 1) := by decide +kernel
theorem dL_law_142 : decode cL_law 142 = .ok (.iload 5, 2) := by decide +kernel
theorem dL_law_144 : decode cL_law 144 = .ok (.ifCond .ne 15, 3) := by decide +kernel
theorem dL_law_147 : decode cL_law 147 = .ok (.aload_n 3, 1) := by decide +kernel
theorem dL_law_148 : decode cL_law 148 = .ok (.iconst 0, 1) := by decide +kernel
theorem dL_law_149 : decode cL_law 149 = .ok (.laload, 1) := by decide +kernel
theorem dL_law_150 : decode cL_law 150 = .ok (.iload 6, 2) := by decide +kernel
theorem dL_law_152 : decode cL_law 152 = .ok (.i2l, 1) := by decide +kernel
theorem dL_law_153 : decode cL_law 153 = .ok (.lcmp, 1) := by decide +kernel
theorem dL_law_154 : decode cL_law 154 = .ok (.ifCond .eq 5, 3) := by decide +kernel
theorem dL_law_157 : decode cL_law 157 = .ok (.iconst 0, 1) := by decide +kernel
theorem dL_law_158 : decode cL_law 158 = .ok (.ireturn, 1) := by decide +kernel
theorem dL_law_159 : decode cL_law 159 = .ok (.goto 847, 3) := by decide +kernel
theorem dL_law_162 : decode cL_law 162 = .ok (.aload_n 1, 1) := by decide +kernel
theorem dL_law_163 : decode cL_law 163 = .ok (.aload_n 0, 1) := by decide +kernel
theorem dL_law_164 : decode cL_law 164 = .ok (.iload 4, 2) := by decide +kernel
theorem dL_law_166 : decode cL_law 166 = .ok (.iconst 1, 1) := by decide +kernel
theorem dL_law_167 : decode cL_law 167 = .ok (.iadd, 1) := by decide +kernel
theorem dL_law_168 : decode cL_law 168 = .ok (.iaload, 1) := by decide +kernel
theorem dL_law_169 : decode cL_law 169 = .ok (.aload_n 0, 1) := by decide +kernel
theorem dL_law_170 : decode cL_law 170 = .ok (.iload 4, 2) := by decide +kernel
theorem dL_law_172 : decode cL_law 172 = .ok (.iconst 2, 1) := by decide +kernel
theorem dL_law_173 : decode cL_law 173 = .ok (.iadd, 1) := by decide +kernel
theorem dL_law_174 : decode cL_law 174 = .ok (.iaload, 1) := by decide +kernel
theorem dL_law_175 : decode cL_law 175 = .ok (.aload_n 0, 1) := by decide +kernel
theorem dL_law_176 : decode cL_law 176 = .ok (.iload 4, 2) := by decide +kernel
theorem dL_law_178 : decode cL_law 178 = .ok (.iconst 3, 1) := by decide +kernel
theorem dL_law_179 : decode cL_law 179 = .ok (.iadd, 1) := by decide +kernel
theorem dL_law_180 : decode cL_law 180 = .ok (.iaload, 1) := by decide +kernel
theorem dL_law_181 : decode cL_law 181 = .ok (.aload_n 3, 1) := by decide +kernel
theorem dL_law_182 : decode cL_law 182 = .ok (.invokestatic 75, 3) := by decide +kernel
theorem dL_law_185 : decode cL_law 185 = .ok (.istore 5, 2) := by decide +kernel
theorem dL_law_187 : decode cL_law 187 = .ok (.aload_n 2, 1) := by decide +kernel
theorem dL_law_188 : decode cL_law 188 = .ok (.aload_n 0, 1) := by decide +kernel
theorem dL_law_189 : decode cL_law 189 = .ok (.iload 4, 2) := by decide +kernel
theorem dL_law_191 : decode cL_law 191 = .ok (.iconst 1, 1) := by decide +kernel
theorem dL_law_192 : decode cL_law 192 = .ok (.iadd, 1) := by decide +kernel
theorem dL_law_193 : decode cL_law 193 = .ok (.iaload, 1) := by decide +kernel
theorem dL_law_194 : decode cL_law 194 = .ok (.aload_n 0, 1) := by decide +kernel
theorem dL_law_195 : decode cL_law 195 = .ok (.iload 4, 2) := by decide +kernel
theorem dL_law_197 : decode cL_law 197 = .ok (.iconst 2, 1) := by decide +kernel
theorem dL_law_198 : decode cL_law 198 = .ok (.iadd, 1) := by decide +kernel
theorem dL_law_199 : decode cL_law 199 = .ok (.iaload, 1) := by decide +kernel
theorem dL_law_200 : decode cL_law 200 = .ok (.aload_n 0, 1) := by decide +kernel
theorem dL_law_201 : decode cL_law 201 = .ok (.iload 4, 2) := by decide +kernel
theorem dL_law_203 : decode cL_law 203 = .ok (.iconst 3, 1) := by decide +kernel
theorem dL_law_204 : decode cL_law 204 = .ok (.iadd, 1) := by decide +kernel
theorem dL_law_205 : decode cL_law 205 = .ok (.iaload, 1) := by decide +kernel
theorem dL_law_206 : decode cL_law 206 = .ok (.invokevirtual 78, 3) := by decide +kernel
theorem dL_law_209 : decode cL_law 209 = .ok (.istore 6, 2) := by decide +kernel
theorem dL_law_211 : decode cL_law 211 = .ok (.aload_n 2, 1) := by decide +kernel
theorem dL_law_212 : decode cL_law 212 = .ok (.invokevirtual 72, 3) := by decide +kernel
theorem dL_law_215 : decode cL_law 215 = .ok (.iload 5, 2) := by decide +kernel
theorem dL_law_217 : decode cL_law 217 = .ok (.if_icmp .eq 5, 3) := by decide +kernel
theorem dL_law_220 : decode cL_law 220 = .ok (.iconst 0, 1) := by decide +kernel
theorem dL_law_221 : decode cL_law 221 = .ok (.ireturn, 1) := by decide +kernel
theorem dL_law_222 : decode cL_law 222 = .ok (.iload 5, 2) := by decide +kernel
theorem dL_law_224 : decode cL_law 224 = .ok (.ifCond .ne 15, 3) := by decide +kernel
theorem dL_law_227 : decode cL_law 227 = .ok (.aload_n 3, 1) := by decide +kernel
theorem dL_law_228 : decode cL_law 228 = .ok (.iconst 0, 1) := by decide +kernel
theorem dL_law_229 : decode cL_law 229 = .ok (.laload, 1) := by decide +kernel
theorem dL_law_230 : decode cL_law 230 = .ok (.iload 6, 2) := by decide +kernel
theorem dL_law_232 : decode cL_law 232 = .ok (.i2l, 1) := by decide +kernel
theorem dL_law_233 : decode cL_law 233 = .ok (.lcmp, 1) := by decide +kernel
theorem dL_law_234 : decode cL_law 234 = .ok (.ifCond .eq 5, 3) := by decide +kernel
theorem dL_law_237 : decode cL_law 237 = .ok (.iconst 0, 1) := by decide +kernel
theorem dL_law_238 : decode cL_law 238 = .ok (.ireturn, 1) := by decide +kernel
theorem dL_law_239 : decode cL_law 239 = .ok (.goto 767, 3) := by decide +kernel
theorem dL_law_242 : decode cL_law 242 = .ok (.aload_n 1, 1) := by decide +kernel
theorem dL_law_243 : decode cL_law 243 = .ok (.aload_n 0, 1) := by decide +kernel
theorem dL_law_244 : decode cL_law 244 = .ok (.iload 4, 2) := by decide +kernel
theorem dL_law_246 : decode cL_law 246 = .ok (.iconst 1, 1) := by decide +kernel
theorem dL_law_247 : decode cL_law 247 = .ok (.iadd, 1) := by decide +kernel
theorem dL_law_248 : decode cL_law 248 = .ok (.iaload, 1) := by decide +kernel
theorem dL_law_249 : decode cL_law 249 = .ok (.aload_n 3, 1) := by decide +kernel
theorem dL_law_250 : decode cL_law 250 = .ok (.invokestatic 79, 3) := by decide +kernel
theorem dL_law_253 : decode cL_law 253 = .ok (.istore 5, 2) := by decide +kernel
theorem dL_law_255 : decode cL_law 255 = .ok (.aload_n 2, 1) := by decide +kernel
theorem dL_law_256 : decode cL_law 256 = .ok (.aload_n 0, 1) := by decide +kernel
theorem dL_law_257 : decode cL_law 257 = .ok (.iload 4, 2) := by decide +kernel
theorem dL_law_259 : decode cL_law 259 = .ok (.iconst 1, 1) := by decide +kernel
theorem dL_law_260 : decode cL_law 260 = .ok (.iadd, 1) := by decide +kernel
theorem dL_law_261 : decode cL_law 261 = .ok (.iaload, 1) := by decide +kernel
theorem dL_law_262 : decode cL_law 262 = .ok (.invokevirtual 82, 3) := by decide +kernel
theorem dL_law_265 : decode cL_law 265 = .ok (.istore 6, 2) := by decide +kernel
theorem dL_law_267 : decode cL_law 267 = .ok (.aload_n 2, 1) := by decide +kernel
theorem dL_law_268 : decode cL_law 268 = .ok (.invokevirtual 72, 3) := by decide +kernel
theorem dL_law_271 : decode cL_law 271 = .ok (.iload 5, 2) := by decide +kernel
theorem dL_law_273 : decode cL_law 273 = .ok (.if_icmp .eq 5, 3) := by decide +kernel
theorem dL_law_276 : decode cL_law 276 = .ok (.iconst 0, 1) := by decide +kernel
theorem dL_law_277 : decode cL_law 277 = .ok (.ireturn, 1) := by decide +kernel
theorem dL_law_278 : decode cL_law 278 = .ok (.iload 5, 2) := by decide +kernel
theorem dL_law_280 : decode cL_law 280 = .ok (.ifCond .ne 15, 3) := by decide +kernel
theorem dL_law_283 : decode cL_law 283 = .ok (.aload_n 3, 1) := by decide +kernel
theorem dL_law_284 : decode cL_law 284 = .ok (.iconst 0, 1) := by decide +kernel
theorem dL_law_285 : decode cL_law 285 = .ok (.laload, 1) := by decide +kernel
theorem dL_law_286 : decode cL_law 286 = .ok (.iload 6, 2) := by decide +kernel
theorem dL_law_288 : decode cL_law 288 = .ok (.i2l, 1) := by decide +kernel
theorem dL_law_289 : decode cL_law 289 = .ok (.lcmp, 1) := by decide +kernel
theorem dL_law_290 : decode cL_law 290 = .ok (.ifCond .eq 5, 3) := by decide +kernel
theorem dL_law_293 : decode cL_law 293 = .ok (.iconst 0, 1) := by decide +kernel
theorem dL_law_294 : decode cL_law 294 = .ok (.ireturn, 1) := by decide +kernel
theorem dL_law_295 : decode cL_law 295 = .ok (.goto 711, 3) := by decide +kernel
theorem dL_law_298 : decode cL_law 298 = .ok (.aload_n 1, 1) := by decide +kernel
theorem dL_law_299 : decode cL_law 299 = .ok (.aload_n 0, 1) := by decide +kernel
theorem dL_law_300 : decode cL_law 300 = .ok (.iload 4, 2) := by decide +kernel
theorem dL_law_302 : decode cL_law 302 = .ok (.iconst 1, 1) := by decide +kernel
theorem dL_law_303 : decode cL_law 303 = .ok (.iadd, 1) := by decide +kernel
theorem dL_law_304 : decode cL_law 304 = .ok (.iaload, 1) := by decide +kernel
theorem dL_law_305 : decode cL_law 305 = .ok (.aload_n 0, 1) := by decide +kernel
theorem dL_law_306 : decode cL_law 306 = .ok (.iload 4, 2) := by decide +kernel
theorem dL_law_308 : decode cL_law 308 = .ok (.iconst 2, 1) := by decide +kernel
theorem dL_law_309 : decode cL_law 309 = .ok (.iadd, 1) := by decide +kernel
theorem dL_law_310 : decode cL_law 310 = .ok (.iaload, 1) := by decide +kernel
theorem dL_law_311 : decode cL_law 311 = .ok (.aload_n 0, 1) := by decide +kernel
theorem dL_law_312 : decode cL_law 312 = .ok (.iload 4, 2) := by decide +kernel
theorem dL_law_314 : decode cL_law 314 = .ok (.iconst 3, 1) := by decide +kernel
theorem dL_law_315 : decode cL_law 315 = .ok (.iadd, 1) := by decide +kernel
theorem dL_law_316 : decode cL_law 316 = .ok (.iaload, 1) := by decide +kernel
theorem dL_law_317 : decode cL_law 317 = .ok (.aload_n 3, 1) := by decide +kernel
theorem dL_law_318 : decode cL_law 318 = .ok (.invokestatic 83, 3) := by decide +kernel
theorem dL_law_321 : decode cL_law 321 = .ok (.istore 5, 2) := by decide +kernel
theorem dL_law_323 : decode cL_law 323 = .ok (.aload_n 2, 1) := by decide +kernel
theorem dL_law_324 : decode cL_law 324 = .ok (.aload_n 0, 1) := by decide +kernel
theorem dL_law_325 : decode cL_law 325 = .ok (.iload 4, 2) := by decide +kernel
theorem dL_law_327 : decode cL_law 327 = .ok (.iconst 1, 1) := by decide +kernel
theorem dL_law_328 : decode cL_law 328 = .ok (.iadd, 1) := by decide +kernel
theorem dL_law_329 : decode cL_law 329 = .ok (.iaload, 1) := by decide +kernel
theorem dL_law_330 : decode cL_law 330 = .ok (.aload_n 0, 1) := by decide +kernel
theorem dL_law_331 : decode cL_law 331 = .ok (.iload 4, 2) := by decide +kernel
theorem dL_law_333 : decode cL_law 333 = .ok (.iconst 2, 1) := by decide +kernel
theorem dL_law_334 : decode cL_law 334 = .ok (.iadd, 1) := by decide +kernel
theorem dL_law_335 : decode cL_law 335 = .ok (.iaload, 1) := by decide +kernel
theorem dL_law_336 : decode cL_law 336 = .ok (.aload_n 0, 1) := by decide +kernel
theorem dL_law_337 : decode cL_law 337 = .ok (.iload 4, 2) := by decide +kernel
theorem dL_law_339 : decode cL_law 339 = .ok (.iconst 3, 1) := by decide +kernel
theorem dL_law_340 : decode cL_law 340 = .ok (.iadd, 1) := by decide +kernel
theorem dL_law_341 : decode cL_law 341 = .ok (.iaload, 1) := by decide +kernel
theorem dL_law_342 : decode cL_law 342 = .ok (.invokevirtual 85, 3) := by decide +kernel
theorem dL_law_345 : decode cL_law 345 = .ok (.istore 6, 2) := by decide +kernel
theorem dL_law_347 : decode cL_law 347 = .ok (.aload_n 2, 1) := by decide +kernel
theorem dL_law_348 : decode cL_law 348 = .ok (.invokevirtual 72, 3) := by decide +kernel
theorem dL_law_351 : decode cL_law 351 = .ok (.iload 5, 2) := by decide +kernel
theorem dL_law_353 : decode cL_law 353 = .ok (.if_icmp .eq 5, 3) := by decide +kernel
theorem dL_law_356 : decode cL_law 356 = .ok (.iconst 0, 1) := by decide +kernel
theorem dL_law_357 : decode cL_law 357 = .ok (.ireturn, 1) := by decide +kernel
theorem dL_law_358 : decode cL_law 358 = .ok (.iload 5, 2) := by decide +kernel
theorem dL_law_360 : decode cL_law 360 = .ok (.ifCond .ne 15, 3) := by decide +kernel
theorem dL_law_363 : decode cL_law 363 = .ok (.aload_n 3, 1) := by decide +kernel
theorem dL_law_364 : decode cL_law 364 = .ok (.iconst 0, 1) := by decide +kernel
theorem dL_law_365 : decode cL_law 365 = .ok (.laload, 1) := by decide +kernel
theorem dL_law_366 : decode cL_law 366 = .ok (.iload 6, 2) := by decide +kernel
theorem dL_law_368 : decode cL_law 368 = .ok (.i2l, 1) := by decide +kernel
theorem dL_law_369 : decode cL_law 369 = .ok (.lcmp, 1) := by decide +kernel
theorem dL_law_370 : decode cL_law 370 = .ok (.ifCond .eq 5, 3) := by decide +kernel
theorem dL_law_373 : decode cL_law 373 = .ok (.iconst 0, 1) := by decide +kernel
theorem dL_law_374 : decode cL_law 374 = .ok (.ireturn, 1) := by decide +kernel
theorem dL_law_375 : decode cL_law 375 = .ok (.goto 631, 3) := by decide +kernel
theorem dL_law_378 : decode cL_law 378 = .ok (.aload_n 1, 1) := by decide +kernel
theorem dL_law_379 : decode cL_law 379 = .ok (.aload_n 0, 1) := by decide +kernel
theorem dL_law_380 : decode cL_law 380 = .ok (.iload 4, 2) := by decide +kernel
theorem dL_law_382 : decode cL_law 382 = .ok (.iconst 1, 1) := by decide +kernel
theorem dL_law_383 : decode cL_law 383 = .ok (.iadd, 1) := by decide +kernel
theorem dL_law_384 : decode cL_law 384 = .ok (.iaload, 1) := by decide +kernel
theorem dL_law_385 : decode cL_law 385 = .ok (.aload_n 3, 1) := by decide +kernel
theorem dL_law_386 : decode cL_law 386 = .ok (.invokestatic 86, 3) := by decide +kernel
theorem dL_law_389 : decode cL_law 389 = .ok (.istore 5, 2) := by decide +kernel
theorem dL_law_391 : decode cL_law 391 = .ok (.aload_n 2, 1) := by decide +kernel
theorem dL_law_392 : decode cL_law 392 = .ok (.aload_n 0, 1) := by decide +kernel
theorem dL_law_393 : decode cL_law 393 = .ok (.iload 4, 2) := by decide +kernel
theorem dL_law_395 : decode cL_law 395 = .ok (.iconst 1, 1) := by decide +kernel
theorem dL_law_396 : decode cL_law 396 = .ok (.iadd, 1) := by decide +kernel
theorem dL_law_397 : decode cL_law 397 = .ok (.iaload, 1) := by decide +kernel
theorem dL_law_398 : decode cL_law 398 = .ok (.invokevirtual 88, 3) := by decide +kernel
theorem dL_law_401 : decode cL_law 401 = .ok (.istore 6, 2) := by decide +kernel
theorem dL_law_403 : decode cL_law 403 = .ok (.aload_n 2, 1) := by decide +kernel
theorem dL_law_404 : decode cL_law 404 = .ok (.invokevirtual 72, 3) := by decide +kernel
theorem dL_law_407 : decode cL_law 407 = .ok (.iload 5, 2) := by decide +kernel
theorem dL_law_409 : decode cL_law 409 = .ok (.if_icmp .eq 5, 3) := by decide +kernel
theorem dL_law_412 : decode cL_law 412 = .ok (.iconst 0, 1) := by decide +kernel
theorem dL_law_413 : decode cL_law 413 = .ok (.ireturn, 1) := by decide +kernel
theorem dL_law_414 : decode cL_law 414 = .ok (.iload 5, 2) := by decide +kernel
theorem dL_law_416 : decode cL_law 416 = .ok (.ifCond .ne 15, 3) := by decide +kernel
theorem dL_law_419 : decode cL_law 419 = .ok (.aload_n 3, 1) := by decide +kernel
theorem dL_law_420 : decode cL_law 420 = .ok (.iconst 0, 1) := by decide +kernel
theorem dL_law_421 : decode cL_law 421 = .ok (.laload, 1) := by decide +kernel
theorem dL_law_422 : decode cL_law 422 = .ok (.iload 6, 2) := by decide +kernel
theorem dL_law_424 : decode cL_law 424 = .ok (.i2l, 1) := by decide +kernel
theorem dL_law_425 : decode cL_law 425 = .ok (.lcmp, 1) := by decide +kernel
theorem dL_law_426 : decode cL_law 426 = .ok (.ifCond .eq 5, 3) := by decide +kernel
theorem dL_law_429 : decode cL_law 429 = .ok (.iconst 0, 1) := by decide +kernel
theorem dL_law_430 : decode cL_law 430 = .ok (.ireturn, 1) := by decide +kernel
theorem dL_law_431 : decode cL_law 431 = .ok (.goto 575, 3) := by decide +kernel
theorem dL_law_434 : decode cL_law 434 = .ok (.aload_n 1, 1) := by decide +kernel
theorem dL_law_435 : decode cL_law 435 = .ok (.aload_n 0, 1) := by decide +kernel
theorem dL_law_436 : decode cL_law 436 = .ok (.iload 4, 2) := by decide +kernel
theorem dL_law_438 : decode cL_law 438 = .ok (.iconst 1, 1) := by decide +kernel
theorem dL_law_439 : decode cL_law 439 = .ok (.iadd, 1) := by decide +kernel
theorem dL_law_440 : decode cL_law 440 = .ok (.iaload, 1) := by decide +kernel
theorem dL_law_441 : decode cL_law 441 = .ok (.aload_n 0, 1) := by decide +kernel
theorem dL_law_442 : decode cL_law 442 = .ok (.iload 4, 2) := by decide +kernel
theorem dL_law_444 : decode cL_law 444 = .ok (.iconst 2, 1) := by decide +kernel
theorem dL_law_445 : decode cL_law 445 = .ok (.iadd, 1) := by decide +kernel
theorem dL_law_446 : decode cL_law 446 = .ok (.iaload, 1) := by decide +kernel
theorem dL_law_447 : decode cL_law 447 = .ok (.aload_n 0, 1) := by decide +kernel
theorem dL_law_448 : decode cL_law 448 = .ok (.iload 4, 2) := by decide +kernel
theorem dL_law_450 : decode cL_law 450 = .ok (.iconst 3, 1) := by decide +kernel
theorem dL_law_451 : decode cL_law 451 = .ok (.iadd, 1) := by decide +kernel
theorem dL_law_452 : decode cL_law 452 = .ok (.iaload, 1) := by decide +kernel
theorem dL_law_453 : decode cL_law 453 = .ok (.aload_n 3, 1) := by decide +kernel
theorem dL_law_454 : decode cL_law 454 = .ok (.invokestatic 89, 3) := by decide +kernel
theorem dL_law_457 : decode cL_law 457 = .ok (.istore 5, 2) := by decide +kernel
theorem dL_law_459 : decode cL_law 459 = .ok (.aload_n 2, 1) := by decide +kernel
theorem dL_law_460 : decode cL_law 460 = .ok (.aload_n 0, 1) := by decide +kernel
theorem dL_law_461 : decode cL_law 461 = .ok (.iload 4, 2) := by decide +kernel
theorem dL_law_463 : decode cL_law 463 = .ok (.iconst 1, 1) := by decide +kernel
theorem dL_law_464 : decode cL_law 464 = .ok (.iadd, 1) := by decide +kernel
theorem dL_law_465 : decode cL_law 465 = .ok (.iaload, 1) := by decide +kernel
theorem dL_law_466 : decode cL_law 466 = .ok (.aload_n 0, 1) := by decide +kernel
theorem dL_law_467 : decode cL_law 467 = .ok (.iload 4, 2) := by decide +kernel
theorem dL_law_469 : decode cL_law 469 = .ok (.iconst 2, 1) := by decide +kernel
theorem dL_law_470 : decode cL_law 470 = .ok (.iadd, 1) := by decide +kernel
theorem dL_law_471 : decode cL_law 471 = .ok (.iaload, 1) := by decide +kernel
theorem dL_law_472 : decode cL_law 472 = .ok (.aload_n 0, 1) := by decide +kernel
theorem dL_law_473 : decode cL_law 473 = .ok (.iload 4, 2) := by decide +kernel
theorem dL_law_475 : decode cL_law 475 = .ok (.iconst 3, 1) := by decide +kernel
theorem dL_law_476 : decode cL_law 476 = .ok (.iadd, 1) := by decide +kernel
theorem dL_law_477 : decode cL_law 477 = .ok (.iaload, 1) := by decide +kernel
theorem dL_law_478 : decode cL_law 478 = .ok (.invokevirtual 91, 3) := by decide +kernel
theorem dL_law_481 : decode cL_law 481 = .ok (.istore 6, 2) := by decide +kernel
theorem dL_law_483 : decode cL_law 483 = .ok (.aload_n 2, 1) := by decide +kernel
theorem dL_law_484 : decode cL_law 484 = .ok (.invokevirtual 72, 3) := by decide +kernel
theorem dL_law_487 : decode cL_law 487 = .ok (.iload 5, 2) := by decide +kernel
theorem dL_law_489 : decode cL_law 489 = .ok (.if_icmp .eq 5, 3) := by decide +kernel
theorem dL_law_492 : decode cL_law 492 = .ok (.iconst 0, 1) := by decide +kernel
theorem dL_law_493 : decode cL_law 493 = .ok (.ireturn, 1) := by decide +kernel
theorem dL_law_494 : decode cL_law 494 = .ok (.iload 5, 2) := by decide +kernel
theorem dL_law_496 : decode cL_law 496 = .ok (.ifCond .ne 15, 3) := by decide +kernel
theorem dL_law_499 : decode cL_law 499 = .ok (.aload_n 3, 1) := by decide +kernel
theorem dL_law_500 : decode cL_law 500 = .ok (.iconst 0, 1) := by decide +kernel
theorem dL_law_501 : decode cL_law 501 = .ok (.laload, 1) := by decide +kernel
theorem dL_law_502 : decode cL_law 502 = .ok (.iload 6, 2) := by decide +kernel
theorem dL_law_504 : decode cL_law 504 = .ok (.i2l, 1) := by decide +kernel
theorem dL_law_505 : decode cL_law 505 = .ok (.lcmp, 1) := by decide +kernel
theorem dL_law_506 : decode cL_law 506 = .ok (.ifCond .eq 5, 3) := by decide +kernel
theorem dL_law_509 : decode cL_law 509 = .ok (.iconst 0, 1) := by decide +kernel
theorem dL_law_510 : decode cL_law 510 = .ok (.ireturn, 1) := by decide +kernel
theorem dL_law_511 : decode cL_law 511 = .ok (.goto 495, 3) := by decide +kernel
theorem dL_law_514 : decode cL_law 514 = .ok (.aload_n 1, 1) := by decide +kernel
theorem dL_law_515 : decode cL_law 515 = .ok (.aload_n 0, 1) := by decide +kernel
theorem dL_law_516 : decode cL_law 516 = .ok (.iload 4, 2) := by decide +kernel
theorem dL_law_518 : decode cL_law 518 = .ok (.iconst 1, 1) := by decide +kernel
theorem dL_law_519 : decode cL_law 519 = .ok (.iadd, 1) := by decide +kernel
theorem dL_law_520 : decode cL_law 520 = .ok (.iaload, 1) := by decide +kernel
theorem dL_law_521 : decode cL_law 521 = .ok (.aload_n 0, 1) := by decide +kernel
theorem dL_law_522 : decode cL_law 522 = .ok (.iload 4, 2) := by decide +kernel
theorem dL_law_524 : decode cL_law 524 = .ok (.iconst 2, 1) := by decide +kernel
theorem dL_law_525 : decode cL_law 525 = .ok (.iadd, 1) := by decide +kernel
theorem dL_law_526 : decode cL_law 526 = .ok (.iaload, 1) := by decide +kernel
theorem dL_law_527 : decode cL_law 527 = .ok (.aload_n 0, 1) := by decide +kernel
theorem dL_law_528 : decode cL_law 528 = .ok (.iload 4, 2) := by decide +kernel
theorem dL_law_530 : decode cL_law 530 = .ok (.iconst 3, 1) := by decide +kernel
theorem dL_law_531 : decode cL_law 531 = .ok (.iadd, 1) := by decide +kernel
theorem dL_law_532 : decode cL_law 532 = .ok (.iaload, 1) := by decide +kernel
theorem dL_law_533 : decode cL_law 533 = .ok (.ifCond .eq 7, 3) := by decide +kernel
theorem dL_law_536 : decode cL_law 536 = .ok (.iconst 1, 1) := by decide +kernel
theorem dL_law_537 : decode cL_law 537 = .ok (.goto 4, 3) := by decide +kernel
theorem dL_law_540 : decode cL_law 540 = .ok (.iconst 0, 1) := by decide +kernel
theorem dL_law_541 : decode cL_law 541 = .ok (.aload_n 3, 1) := by decide +kernel
theorem dL_law_542 : decode cL_law 542 = .ok (.invokestatic 92, 3) := by decide +kernel
theorem dL_law_545 : decode cL_law 545 = .ok (.istore 5, 2) := by decide +kernel
theorem dL_law_547 : decode cL_law 547 = .ok (.aload_n 2, 1) := by decide +kernel
theorem dL_law_548 : decode cL_law 548 = .ok (.aload_n 0, 1) := by decide +kernel
theorem dL_law_549 : decode cL_law 549 = .ok (.iload 4, 2) := by decide +kernel
theorem dL_law_551 : decode cL_law 551 = .ok (.iconst 1, 1) := by decide +kernel
theorem dL_law_552 : decode cL_law 552 = .ok (.iadd, 1) := by decide +kernel
theorem dL_law_553 : decode cL_law 553 = .ok (.iaload, 1) := by decide +kernel
theorem dL_law_554 : decode cL_law 554 = .ok (.aload_n 0, 1) := by decide +kernel
theorem dL_law_555 : decode cL_law 555 = .ok (.iload 4, 2) := by decide +kernel
theorem dL_law_557 : decode cL_law 557 = .ok (.iconst 2, 1) := by decide +kernel
theorem dL_law_558 : decode cL_law 558 = .ok (.iadd, 1) := by decide +kernel
theorem dL_law_559 : decode cL_law 559 = .ok (.iaload, 1) := by decide +kernel
theorem dL_law_560 : decode cL_law 560 = .ok (.aload_n 0, 1) := by decide +kernel
theorem dL_law_561 : decode cL_law 561 = .ok (.iload 4, 2) := by decide +kernel
theorem dL_law_563 : decode cL_law 563 = .ok (.iconst 3, 1) := by decide +kernel
theorem dL_law_564 : decode cL_law 564 = .ok (.iadd, 1) := by decide +kernel
theorem dL_law_565 : decode cL_law 565 = .ok (.iaload, 1) := by decide +kernel
theorem dL_law_566 : decode cL_law 566 = .ok (.ifCond .eq 7, 3) := by decide +kernel
theorem dL_law_569 : decode cL_law 569 = .ok (.iconst 1, 1) := by decide +kernel
theorem dL_law_570 : decode cL_law 570 = .ok (.goto 4, 3) := by decide +kernel
theorem dL_law_573 : decode cL_law 573 = .ok (.iconst 0, 1) := by decide +kernel
theorem dL_law_574 : decode cL_law 574 = .ok (.invokevirtual 95, 3) := by decide +kernel
theorem dL_law_577 : decode cL_law 577 = .ok (.istore 6, 2) := by decide +kernel
theorem dL_law_579 : decode cL_law 579 = .ok (.aload_n 2, 1) := by decide +kernel
theorem dL_law_580 : decode cL_law 580 = .ok (.invokevirtual 72, 3) := by decide +kernel
theorem dL_law_583 : decode cL_law 583 = .ok (.iload 5, 2) := by decide +kernel
theorem dL_law_585 : decode cL_law 585 = .ok (.if_icmp .eq 5, 3) := by decide +kernel
theorem dL_law_588 : decode cL_law 588 = .ok (.iconst 0, 1) := by decide +kernel
theorem dL_law_589 : decode cL_law 589 = .ok (.ireturn, 1) := by decide +kernel
theorem dL_law_590 : decode cL_law 590 = .ok (.iload 5, 2) := by decide +kernel
theorem dL_law_592 : decode cL_law 592 = .ok (.ifCond .ne 15, 3) := by decide +kernel
theorem dL_law_595 : decode cL_law 595 = .ok (.aload_n 3, 1) := by decide +kernel
theorem dL_law_596 : decode cL_law 596 = .ok (.iconst 0, 1) := by decide +kernel
theorem dL_law_597 : decode cL_law 597 = .ok (.laload, 1) := by decide +kernel
theorem dL_law_598 : decode cL_law 598 = .ok (.iload 6, 2) := by decide +kernel
theorem dL_law_600 : decode cL_law 600 = .ok (.i2l, 1) := by decide +kernel
theorem dL_law_601 : decode cL_law 601 = .ok (.lcmp, 1) := by decide +kernel
theorem dL_law_602 : decode cL_law 602 = .ok (.ifCond .eq 5, 3) := by decide +kernel
theorem dL_law_605 : decode cL_law 605 = .ok (.iconst 0, 1) := by decide +kernel
theorem dL_law_606 : decode cL_law 606 = .ok (.ireturn, 1) := by decide +kernel
theorem dL_law_607 : decode cL_law 607 = .ok (.goto 399, 3) := by decide +kernel
theorem dL_law_610 : decode cL_law 610 = .ok (.aload_n 1, 1) := by decide +kernel
theorem dL_law_611 : decode cL_law 611 = .ok (.aload_n 0, 1) := by decide +kernel
theorem dL_law_612 : decode cL_law 612 = .ok (.iload 4, 2) := by decide +kernel
theorem dL_law_614 : decode cL_law 614 = .ok (.iconst 1, 1) := by decide +kernel
theorem dL_law_615 : decode cL_law 615 = .ok (.iadd, 1) := by decide +kernel
theorem dL_law_616 : decode cL_law 616 = .ok (.iaload, 1) := by decide +kernel
theorem dL_law_617 : decode cL_law 617 = .ok (.aload_n 0, 1) := by decide +kernel
theorem dL_law_618 : decode cL_law 618 = .ok (.iload 4, 2) := by decide +kernel
theorem dL_law_620 : decode cL_law 620 = .ok (.iconst 2, 1) := by decide +kernel
theorem dL_law_621 : decode cL_law 621 = .ok (.iadd, 1) := by decide +kernel
theorem dL_law_622 : decode cL_law 622 = .ok (.iaload, 1) := by decide +kernel
theorem dL_law_623 : decode cL_law 623 = .ok (.aload_n 3, 1) := by decide +kernel
theorem dL_law_624 : decode cL_law 624 = .ok (.invokestatic 96, 3) := by decide +kernel
theorem dL_law_627 : decode cL_law 627 = .ok (.istore 5, 2) := by decide +kernel
theorem dL_law_629 : decode cL_law 629 = .ok (.aload_n 2, 1) := by decide +kernel
theorem dL_law_630 : decode cL_law 630 = .ok (.aload_n 0, 1) := by decide +kernel
theorem dL_law_631 : decode cL_law 631 = .ok (.iload 4, 2) := by decide +kernel
theorem dL_law_633 : decode cL_law 633 = .ok (.iconst 1, 1) := by decide +kernel
theorem dL_law_634 : decode cL_law 634 = .ok (.iadd, 1) := by decide +kernel
theorem dL_law_635 : decode cL_law 635 = .ok (.iaload, 1) := by decide +kernel
theorem dL_law_636 : decode cL_law 636 = .ok (.aload_n 0, 1) := by decide +kernel
theorem dL_law_637 : decode cL_law 637 = .ok (.iload 4, 2) := by decide +kernel
theorem dL_law_639 : decode cL_law 639 = .ok (.iconst 2, 1) := by decide +kernel
theorem dL_law_640 : decode cL_law 640 = .ok (.iadd, 1) := by decide +kernel
theorem dL_law_641 : decode cL_law 641 = .ok (.iaload, 1) := by decide +kernel
theorem dL_law_642 : decode cL_law 642 = .ok (.invokevirtual 99, 3) := by decide +kernel
theorem dL_law_645 : decode cL_law 645 = .ok (.istore 6, 2) := by decide +kernel
theorem dL_law_647 : decode cL_law 647 = .ok (.aload_n 2, 1) := by decide +kernel
theorem dL_law_648 : decode cL_law 648 = .ok (.invokevirtual 72, 3) := by decide +kernel
theorem dL_law_651 : decode cL_law 651 = .ok (.iload 5, 2) := by decide +kernel
theorem dL_law_653 : decode cL_law 653 = .ok (.if_icmp .eq 5, 3) := by decide +kernel
theorem dL_law_656 : decode cL_law 656 = .ok (.iconst 0, 1) := by decide +kernel
theorem dL_law_657 : decode cL_law 657 = .ok (.ireturn, 1) := by decide +kernel
theorem dL_law_658 : decode cL_law 658 = .ok (.iload 5, 2) := by decide +kernel
theorem dL_law_660 : decode cL_law 660 = .ok (.ifCond .ne 15, 3) := by decide +kernel
theorem dL_law_663 : decode cL_law 663 = .ok (.aload_n 3, 1) := by decide +kernel
theorem dL_law_664 : decode cL_law 664 = .ok (.iconst 0, 1) := by decide +kernel
theorem dL_law_665 : decode cL_law 665 = .ok (.laload, 1) := by decide +kernel
theorem dL_law_666 : decode cL_law 666 = .ok (.iload 6, 2) := by decide +kernel
theorem dL_law_668 : decode cL_law 668 = .ok (.i2l, 1) := by decide +kernel
theorem dL_law_669 : decode cL_law 669 = .ok (.lcmp, 1) := by decide +kernel
theorem dL_law_670 : decode cL_law 670 = .ok (.ifCond .eq 5, 3) := by decide +kernel
theorem dL_law_673 : decode cL_law 673 = .ok (.iconst 0, 1) := by decide +kernel
theorem dL_law_674 : decode cL_law 674 = .ok (.ireturn, 1) := by decide +kernel
theorem dL_law_675 : decode cL_law 675 = .ok (.goto 331, 3) := by decide +kernel
theorem dL_law_678 : decode cL_law 678 = .ok (.aload_n 1, 1) := by decide +kernel
theorem dL_law_679 : decode cL_law 679 = .ok (.aload_n 0, 1) := by decide +kernel
theorem dL_law_680 : decode cL_law 680 = .ok (.iload 4, 2) := by decide +kernel
theorem dL_law_682 : decode cL_law 682 = .ok (.iconst 1, 1) := by decide +kernel
theorem dL_law_683 : decode cL_law 683 = .ok (.iadd, 1) := by decide +kernel
theorem dL_law_684 : decode cL_law 684 = .ok (.iaload, 1) := by decide +kernel
theorem dL_law_685 : decode cL_law 685 = .ok (.aload_n 0, 1) := by decide +kernel
theorem dL_law_686 : decode cL_law 686 = .ok (.iload 4, 2) := by decide +kernel
theorem dL_law_688 : decode cL_law 688 = .ok (.iconst 2, 1) := by decide +kernel
theorem dL_law_689 : decode cL_law 689 = .ok (.iadd, 1) := by decide +kernel
theorem dL_law_690 : decode cL_law 690 = .ok (.iaload, 1) := by decide +kernel
theorem dL_law_691 : decode cL_law 691 = .ok (.aload_n 0, 1) := by decide +kernel
theorem dL_law_692 : decode cL_law 692 = .ok (.iload 4, 2) := by decide +kernel
theorem dL_law_694 : decode cL_law 694 = .ok (.iconst 3, 1) := by decide +kernel
theorem dL_law_695 : decode cL_law 695 = .ok (.iadd, 1) := by decide +kernel
theorem dL_law_696 : decode cL_law 696 = .ok (.iaload, 1) := by decide +kernel
theorem dL_law_697 : decode cL_law 697 = .ok (.aload_n 3, 1) := by decide +kernel
theorem dL_law_698 : decode cL_law 698 = .ok (.invokestatic 100, 3) := by decide +kernel
theorem dL_law_701 : decode cL_law 701 = .ok (.istore 5, 2) := by decide +kernel
theorem dL_law_703 : decode cL_law 703 = .ok (.aload_n 2, 1) := by decide +kernel
theorem dL_law_704 : decode cL_law 704 = .ok (.aload_n 0, 1) := by decide +kernel
theorem dL_law_705 : decode cL_law 705 = .ok (.iload 4, 2) := by decide +kernel
theorem dL_law_707 : decode cL_law 707 = .ok (.iconst 1, 1) := by decide +kernel
theorem dL_law_708 : decode cL_law 708 = .ok (.iadd, 1) := by decide +kernel
theorem dL_law_709 : decode cL_law 709 = .ok (.iaload, 1) := by decide +kernel
theorem dL_law_710 : decode cL_law 710 = .ok (.aload_n 0, 1) := by decide +kernel
theorem dL_law_711 : decode cL_law 711 = .ok (.iload 4, 2) := by decide +kernel
theorem dL_law_713 : decode cL_law 713 = .ok (.iconst 2, 1) := by decide +kernel
theorem dL_law_714 : decode cL_law 714 = .ok (.iadd, 1) := by decide +kernel
theorem dL_law_715 : decode cL_law 715 = .ok (.iaload, 1) := by decide +kernel
theorem dL_law_716 : decode cL_law 716 = .ok (.aload_n 0, 1) := by decide +kernel
theorem dL_law_717 : decode cL_law 717 = .ok (.iload 4, 2) := by decide +kernel
theorem dL_law_719 : decode cL_law 719 = .ok (.iconst 3, 1) := by decide +kernel
theorem dL_law_720 : decode cL_law 720 = .ok (.iadd, 1) := by decide +kernel
theorem dL_law_721 : decode cL_law 721 = .ok (.iaload, 1) := by decide +kernel
theorem dL_law_722 : decode cL_law 722 = .ok (.invokevirtual 102, 3) := by decide +kernel
theorem dL_law_725 : decode cL_law 725 = .ok (.istore 6, 2) := by decide +kernel
theorem dL_law_727 : decode cL_law 727 = .ok (.aload_n 2, 1) := by decide +kernel
theorem dL_law_728 : decode cL_law 728 = .ok (.invokevirtual 72, 3) := by decide +kernel
theorem dL_law_731 : decode cL_law 731 = .ok (.iload 5, 2) := by decide +kernel
theorem dL_law_733 : decode cL_law 733 = .ok (.if_icmp .eq 5, 3) := by decide +kernel
theorem dL_law_736 : decode cL_law 736 = .ok (.iconst 0, 1) := by decide +kernel
theorem dL_law_737 : decode cL_law 737 = .ok (.ireturn, 1) := by decide +kernel
theorem dL_law_738 : decode cL_law 738 = .ok (.iload 5, 2) := by decide +kernel
theorem dL_law_740 : decode cL_law 740 = .ok (.ifCond .ne 15, 3) := by decide +kernel
theorem dL_law_743 : decode cL_law 743 = .ok (.aload_n 3, 1) := by decide +kernel
theorem dL_law_744 : decode cL_law 744 = .ok (.iconst 0, 1) := by decide +kernel
theorem dL_law_745 : decode cL_law 745 = .ok (.laload, 1) := by decide +kernel
theorem dL_law_746 : decode cL_law 746 = .ok (.iload 6, 2) := by decide +kernel
theorem dL_law_748 : decode cL_law 748 = .ok (.i2l, 1) := by decide +kernel
theorem dL_law_749 : decode cL_law 749 = .ok (.lcmp, 1) := by decide +kernel
theorem dL_law_750 : decode cL_law 750 = .ok (.ifCond .eq 5, 3) := by decide +kernel
theorem dL_law_753 : decode cL_law 753 = .ok (.iconst 0, 1) := by decide +kernel
theorem dL_law_754 : decode cL_law 754 = .ok (.ireturn, 1) := by decide +kernel
theorem dL_law_755 : decode cL_law 755 = .ok (.goto 251, 3) := by decide +kernel
theorem dL_law_758 : decode cL_law 758 = .ok (.aload_n 1, 1) := by decide +kernel
theorem dL_law_759 : decode cL_law 759 = .ok (.aload_n 0, 1) := by decide +kernel
theorem dL_law_760 : decode cL_law 760 = .ok (.iload 4, 2) := by decide +kernel
theorem dL_law_762 : decode cL_law 762 = .ok (.iconst 1, 1) := by decide +kernel
theorem dL_law_763 : decode cL_law 763 = .ok (.iadd, 1) := by decide +kernel
theorem dL_law_764 : decode cL_law 764 = .ok (.iaload, 1) := by decide +kernel
theorem dL_law_765 : decode cL_law 765 = .ok (.aload_n 3, 1) := by decide +kernel
theorem dL_law_766 : decode cL_law 766 = .ok (.invokestatic 103, 3) := by decide +kernel
theorem dL_law_769 : decode cL_law 769 = .ok (.istore 5, 2) := by decide +kernel
theorem dL_law_771 : decode cL_law 771 = .ok (.aload_n 2, 1) := by decide +kernel
theorem dL_law_772 : decode cL_law 772 = .ok (.aload_n 0, 1) := by decide +kernel
theorem dL_law_773 : decode cL_law 773 = .ok (.iload 4, 2) := by decide +kernel
theorem dL_law_775 : decode cL_law 775 = .ok (.iconst 1, 1) := by decide +kernel
theorem dL_law_776 : decode cL_law 776 = .ok (.iadd, 1) := by decide +kernel
theorem dL_law_777 : decode cL_law 777 = .ok (.iaload, 1) := by decide +kernel
theorem dL_law_778 : decode cL_law 778 = .ok (.invokevirtual 105, 3) := by decide +kernel
theorem dL_law_781 : decode cL_law 781 = .ok (.istore 6, 2) := by decide +kernel
theorem dL_law_783 : decode cL_law 783 = .ok (.aload_n 2, 1) := by decide +kernel
theorem dL_law_784 : decode cL_law 784 = .ok (.invokevirtual 72, 3) := by decide +kernel
theorem dL_law_787 : decode cL_law 787 = .ok (.iload 5, 2) := by decide +kernel
theorem dL_law_789 : decode cL_law 789 = .ok (.if_icmp .eq 5, 3) := by decide +kernel
theorem dL_law_792 : decode cL_law 792 = .ok (.iconst 0, 1) := by decide +kernel
theorem dL_law_793 : decode cL_law 793 = .ok (.ireturn, 1) := by decide +kernel
theorem dL_law_794 : decode cL_law 794 = .ok (.iload 5, 2) := by decide +kernel
theorem dL_law_796 : decode cL_law 796 = .ok (.ifCond .ne 15, 3) := by decide +kernel
theorem dL_law_799 : decode cL_law 799 = .ok (.aload_n 3, 1) := by decide +kernel
theorem dL_law_800 : decode cL_law 800 = .ok (.iconst 0, 1) := by decide +kernel
theorem dL_law_801 : decode cL_law 801 = .ok (.laload, 1) := by decide +kernel
theorem dL_law_802 : decode cL_law 802 = .ok (.iload 6, 2) := by decide +kernel
theorem dL_law_804 : decode cL_law 804 = .ok (.i2l, 1) := by decide +kernel
theorem dL_law_805 : decode cL_law 805 = .ok (.lcmp, 1) := by decide +kernel
theorem dL_law_806 : decode cL_law 806 = .ok (.ifCond .eq 5, 3) := by decide +kernel
theorem dL_law_809 : decode cL_law 809 = .ok (.iconst 0, 1) := by decide +kernel
theorem dL_law_810 : decode cL_law 810 = .ok (.ireturn, 1) := by decide +kernel
theorem dL_law_811 : decode cL_law 811 = .ok (.goto 195, 3) := by decide +kernel
theorem dL_law_814 : decode cL_law 814 = .ok (.aload_n 1, 1) := by decide +kernel
theorem dL_law_815 : decode cL_law 815 = .ok (.aload_n 0, 1) := by decide +kernel
theorem dL_law_816 : decode cL_law 816 = .ok (.iload 4, 2) := by decide +kernel
theorem dL_law_818 : decode cL_law 818 = .ok (.iconst 1, 1) := by decide +kernel
theorem dL_law_819 : decode cL_law 819 = .ok (.iadd, 1) := by decide +kernel
theorem dL_law_820 : decode cL_law 820 = .ok (.iaload, 1) := by decide +kernel
theorem dL_law_821 : decode cL_law 821 = .ok (.aload_n 3, 1) := by decide +kernel
theorem dL_law_822 : decode cL_law 822 = .ok (.invokestatic 106, 3) := by decide +kernel
theorem dL_law_825 : decode cL_law 825 = .ok (.istore 5, 2) := by decide +kernel
theorem dL_law_827 : decode cL_law 827 = .ok (.aload_n 2, 1) := by decide +kernel
theorem dL_law_828 : decode cL_law 828 = .ok (.aload_n 0, 1) := by decide +kernel
theorem dL_law_829 : decode cL_law 829 = .ok (.iload 4, 2) := by decide +kernel
theorem dL_law_831 : decode cL_law 831 = .ok (.iconst 1, 1) := by decide +kernel
theorem dL_law_832 : decode cL_law 832 = .ok (.iadd, 1) := by decide +kernel
theorem dL_law_833 : decode cL_law 833 = .ok (.iaload, 1) := by decide +kernel
theorem dL_law_834 : decode cL_law 834 = .ok (.invokevirtual 108, 3) := by decide +kernel
theorem dL_law_837 : decode cL_law 837 = .ok (.istore 6, 2) := by decide +kernel
theorem dL_law_839 : decode cL_law 839 = .ok (.aload_n 2, 1) := by decide +kernel
theorem dL_law_840 : decode cL_law 840 = .ok (.invokevirtual 72, 3) := by decide +kernel
theorem dL_law_843 : decode cL_law 843 = .ok (.iload 5, 2) := by decide +kernel
theorem dL_law_845 : decode cL_law 845 = .ok (.if_icmp .eq 5, 3) := by decide +kernel
theorem dL_law_848 : decode cL_law 848 = .ok (.iconst 0, 1) := by decide +kernel
theorem dL_law_849 : decode cL_law 849 = .ok (.ireturn, 1) := by decide +kernel
theorem dL_law_850 : decode cL_law 850 = .ok (.iload 5, 2) := by decide +kernel
theorem dL_law_852 : decode cL_law 852 = .ok (.ifCond .ne 15, 3) := by decide +kernel
theorem dL_law_855 : decode cL_law 855 = .ok (.aload_n 3, 1) := by decide +kernel
theorem dL_law_856 : decode cL_law 856 = .ok (.iconst 0, 1) := by decide +kernel
theorem dL_law_857 : decode cL_law 857 = .ok (.laload, 1) := by decide +kernel
theorem dL_law_858 : decode cL_law 858 = .ok (.iload 6, 2) := by decide +kernel
theorem dL_law_860 : decode cL_law 860 = .ok (.i2l, 1) := by decide +kernel
theorem dL_law_861 : decode cL_law 861 = .ok (.lcmp, 1) := by decide +kernel
theorem dL_law_862 : decode cL_law 862 = .ok (.ifCond .eq 5, 3) := by decide +kernel
theorem dL_law_865 : decode cL_law 865 = .ok (.iconst 0, 1) := by decide +kernel
theorem dL_law_866 : decode cL_law 866 = .ok (.ireturn, 1) := by decide +kernel
theorem dL_law_867 : decode cL_law 867 = .ok (.goto 139, 3) := by decide +kernel
theorem dL_law_870 : decode cL_law 870 = .ok (.aload_n 1, 1) := by decide +kernel
theorem dL_law_871 : decode cL_law 871 = .ok (.aload_n 3, 1) := by decide +kernel
theorem dL_law_872 : decode cL_law 872 = .ok (.invokestatic 109, 3) := by decide +kernel
theorem dL_law_875 : decode cL_law 875 = .ok (.istore 5, 2) := by decide +kernel
theorem dL_law_877 : decode cL_law 877 = .ok (.aload_n 2, 1) := by decide +kernel
theorem dL_law_878 : decode cL_law 878 = .ok (.invokevirtual 112, 3) := by decide +kernel
theorem dL_law_881 : decode cL_law 881 = .ok (.istore 6, 2) := by decide +kernel
theorem dL_law_883 : decode cL_law 883 = .ok (.aload_n 2, 1) := by decide +kernel
theorem dL_law_884 : decode cL_law 884 = .ok (.invokevirtual 72, 3) := by decide +kernel
theorem dL_law_887 : decode cL_law 887 = .ok (.iload 5, 2) := by decide +kernel
theorem dL_law_889 : decode cL_law 889 = .ok (.if_icmp .eq 5, 3) := by decide +kernel
theorem dL_law_892 : decode cL_law 892 = .ok (.iconst 0, 1) := by decide +kernel
theorem dL_law_893 : decode cL_law 893 = .ok (.ireturn, 1) := by decide +kernel
theorem dL_law_894 : decode cL_law 894 = .ok (.iload 5, 2) := by decide +kernel
theorem dL_law_896 : decode cL_law 896 = .ok (.ifCond .ne 15, 3) := by decide +kernel
theorem dL_law_899 : decode cL_law 899 = .ok (.aload_n 3, 1) := by decide +kernel
theorem dL_law_900 : decode cL_law 900 = .ok (.iconst 0, 1) := by decide +kernel
theorem dL_law_901 : decode cL_law 901 = .ok (.laload, 1) := by decide +kernel
theorem dL_law_902 : decode cL_law 902 = .ok (.iload 6, 2) := by decide +kernel
theorem dL_law_904 : decode cL_law 904 = .ok (.i2l, 1) := by decide +kernel
theorem dL_law_905 : decode cL_law 905 = .ok (.lcmp, 1) := by decide +kernel
theorem dL_law_906 : decode cL_law 906 = .ok (.ifCond .eq 5, 3) := by decide +kernel
theorem dL_law_909 : decode cL_law 909 = .ok (.iconst 0, 1) := by decide +kernel
theorem dL_law_910 : decode cL_law 910 = .ok (.ireturn, 1) := by decide +kernel
theorem dL_law_911 : decode cL_law 911 = .ok (.goto 95, 3) := by decide +kernel
theorem dL_law_914 : decode cL_law 914 = .ok (.aload_n 1, 1) := by decide +kernel
theorem dL_law_915 : decode cL_law 915 = .ok (.aload_n 0, 1) := by decide +kernel
theorem dL_law_916 : decode cL_law 916 = .ok (.iload 4, 2) := by decide +kernel
theorem dL_law_918 : decode cL_law 918 = .ok (.iconst 1, 1) := by decide +kernel
theorem dL_law_919 : decode cL_law 919 = .ok (.iadd, 1) := by decide +kernel
theorem dL_law_920 : decode cL_law 920 = .ok (.iaload, 1) := by decide +kernel
theorem dL_law_921 : decode cL_law 921 = .ok (.aload_n 0, 1) := by decide +kernel
theorem dL_law_922 : decode cL_law 922 = .ok (.iload 4, 2) := by decide +kernel
theorem dL_law_924 : decode cL_law 924 = .ok (.iconst 2, 1) := by decide +kernel
theorem dL_law_925 : decode cL_law 925 = .ok (.iadd, 1) := by decide +kernel
theorem dL_law_926 : decode cL_law 926 = .ok (.iaload, 1) := by decide +kernel
theorem dL_law_927 : decode cL_law 927 = .ok (.aload_n 0, 1) := by decide +kernel
theorem dL_law_928 : decode cL_law 928 = .ok (.iload 4, 2) := by decide +kernel
theorem dL_law_930 : decode cL_law 930 = .ok (.iconst 3, 1) := by decide +kernel
theorem dL_law_931 : decode cL_law 931 = .ok (.iadd, 1) := by decide +kernel
theorem dL_law_932 : decode cL_law 932 = .ok (.iaload, 1) := by decide +kernel
theorem dL_law_933 : decode cL_law 933 = .ok (.aload_n 0, 1) := by decide +kernel
theorem dL_law_934 : decode cL_law 934 = .ok (.iload 4, 2) := by decide +kernel
theorem dL_law_936 : decode cL_law 936 = .ok (.iconst 4, 1) := by decide +kernel
theorem dL_law_937 : decode cL_law 937 = .ok (.iadd, 1) := by decide +kernel
theorem dL_law_938 : decode cL_law 938 = .ok (.iaload, 1) := by decide +kernel
theorem dL_law_939 : decode cL_law 939 = .ok (.aload_n 3, 1) := by decide +kernel
theorem dL_law_940 : decode cL_law 940 = .ok (.invokestatic 113, 3) := by decide +kernel
theorem dL_law_943 : decode cL_law 943 = .ok (.istore 5, 2) := by decide +kernel
theorem dL_law_945 : decode cL_law 945 = .ok (.aload_n 2, 1) := by decide +kernel
theorem dL_law_946 : decode cL_law 946 = .ok (.aload_n 0, 1) := by decide +kernel
theorem dL_law_947 : decode cL_law 947 = .ok (.iload 4, 2) := by decide +kernel
theorem dL_law_949 : decode cL_law 949 = .ok (.iconst 1, 1) := by decide +kernel
theorem dL_law_950 : decode cL_law 950 = .ok (.iadd, 1) := by decide +kernel
theorem dL_law_951 : decode cL_law 951 = .ok (.iaload, 1) := by decide +kernel
theorem dL_law_952 : decode cL_law 952 = .ok (.aload_n 0, 1) := by decide +kernel
theorem dL_law_953 : decode cL_law 953 = .ok (.iload 4, 2) := by decide +kernel
theorem dL_law_955 : decode cL_law 955 = .ok (.iconst 2, 1) := by decide +kernel
theorem dL_law_956 : decode cL_law 956 = .ok (.iadd, 1) := by decide +kernel
theorem dL_law_957 : decode cL_law 957 = .ok (.iaload, 1) := by decide +kernel
theorem dL_law_958 : decode cL_law 958 = .ok (.aload_n 0, 1) := by decide +kernel
theorem dL_law_959 : decode cL_law 959 = .ok (.iload 4, 2) := by decide +kernel
theorem dL_law_961 : decode cL_law 961 = .ok (.iconst 3, 1) := by decide +kernel
theorem dL_law_962 : decode cL_law 962 = .ok (.iadd, 1) := by decide +kernel
theorem dL_law_963 : decode cL_law 963 = .ok (.iaload, 1) := by decide +kernel
theorem dL_law_964 : decode cL_law 964 = .ok (.aload_n 0, 1) := by decide +kernel
theorem dL_law_965 : decode cL_law 965 = .ok (.iload 4, 2) := by decide +kernel
theorem dL_law_967 : decode cL_law 967 = .ok (.iconst 4, 1) := by decide +kernel
theorem dL_law_968 : decode cL_law 968 = .ok (.iadd, 1) := by decide +kernel
theorem dL_law_969 : decode cL_law 969 = .ok (.iaload, 1) := by decide +kernel
theorem dL_law_970 : decode cL_law 970 = .ok (.invokevirtual 116, 3) := by decide +kernel
theorem dL_law_973 : decode cL_law 973 = .ok (.istore 6, 2) := by decide +kernel
theorem dL_law_975 : decode cL_law 975 = .ok (.aload_n 2, 1) := by decide +kernel
theorem dL_law_976 : decode cL_law 976 = .ok (.invokevirtual 72, 3) := by decide +kernel
theorem dL_law_979 : decode cL_law 979 = .ok (.iload 5, 2) := by decide +kernel
theorem dL_law_981 : decode cL_law 981 = .ok (.if_icmp .eq 5, 3) := by decide +kernel
theorem dL_law_984 : decode cL_law 984 = .ok (.iconst 0, 1) := by decide +kernel
theorem dL_law_985 : decode cL_law 985 = .ok (.ireturn, 1) := by decide +kernel
theorem dL_law_986 : decode cL_law 986 = .ok (.iload 5, 2) := by decide +kernel
theorem dL_law_988 : decode cL_law 988 = .ok (.ifCond .ne 15, 3) := by decide +kernel
theorem dL_law_991 : decode cL_law 991 = .ok (.aload_n 3, 1) := by decide +kernel
theorem dL_law_992 : decode cL_law 992 = .ok (.iconst 0, 1) := by decide +kernel
theorem dL_law_993 : decode cL_law 993 = .ok (.laload, 1) := by decide +kernel
theorem dL_law_994 : decode cL_law 994 = .ok (.iload 6, 2) := by decide +kernel
theorem dL_law_996 : decode cL_law 996 = .ok (.i2l, 1) := by decide +kernel
theorem dL_law_997 : decode cL_law 997 = .ok (.lcmp, 1) := by decide +kernel
theorem dL_law_998 : decode cL_law 998 = .ok (.ifCond .eq 5, 3) := by decide +kernel
theorem dL_law_1001 : decode cL_law 1001 = .ok (.iconst 0, 1) := by decide +kernel
theorem dL_law_1002 : decode cL_law 1002 = .ok (.ireturn, 1) := by decide +kernel
theorem dL_law_1003 : decode cL_law 1003 = .ok (.goto 3, 3) := by decide +kernel
theorem dL_law_1006 : decode cL_law 1006 = .ok (.iinc 4 5, 3) := by decide +kernel
theorem dL_law_1009 : decode cL_law 1009 = .ok (.goto (-986), 3) := by decide +kernel
theorem dL_law_1012 : decode cL_law 1012 = .ok (.iconst 1, 1) := by decide +kernel
theorem dL_law_1013 : decode cL_law 1013 = .ok (.ireturn, 1) := by decide +kernel
end
section
/-! rows with plain references, rows with an index as a natural number; the reference's own layer: its object mo, its int fields z, its rows F -/
section GE
variable {x : gX} {l : Launch} {D : gD} {base nL : Nat} {own : String} {cc : ByteArray} {rm : Room} {pc : Nat} {lv : List (Option Value)} {st : List Value} {gh : gH} {cells slots : Nat}
theorem g_ald_n (hC : gK x l D base nL own cc rm) {i : Fin 4} {a : Nat} (hd : decode cc pc = .ok (.aload_n i, 1)) (hv : lv[(i : Nat)]? = some (some (.ref a))) (k : gV x D base nL (pc + 1) lv (.ref a :: st) gh cells slots) : gV x D base nL pc lv st gh cells slots := g_aload_n (v := some a) hC hd hv k
theorem g_ald (hC : gK x l D base nL own cc rm) {i : Nat} {a : Nat} (hd : decode cc pc = .ok (.aload i, 2)) (hv : lv[i]? = some (some (.ref a))) (k : gV x D base nL (pc + 2) lv (.ref a :: st) gh cells slots) : gV x D base nL pc lv st gh cells slots := g_aload (v := some a) hC hd hv k
theorem g_ast_n (hC : gK x l D base nL own cc rm) {i : Fin 4} {a : Nat} {lv' : List (Option Value)} (hd : decode cc pc = .ok (.astore_n i, 1)) (hi : (i : Nat) < nL) (he : lv.set (i : Nat) (some (.ref a)) = lv') (k : gV x D base nL (pc + 1) lv' st gh cells slots) : gV x D base nL pc lv (.ref a :: st) gh cells slots := g_astore_n (v := some a) hC hd hi he k
theorem g_ast (hC : gK x l D base nL own cc rm) {i : Nat} {a : Nat} {lv' : List (Option Value)} (hd : decode cc pc = .ok (.astore i, 2)) (hi : i < nL) (he : lv.set i (some (.ref a)) = lv') (k : gV x D base nL (pc + 2) lv' st gh cells slots) : gV x D base nL pc lv (.ref a :: st) gh cells slots := g_astore (v := some a) hC hd hi he k
theorem g_ifnull_r (hC : gK x l D base nL own cc rm) {a : Nat} {off : Int} (hd : decode cc pc = .ok (.ifnull off, 3)) (k : gV x D base nL (pc + 3) lv st gh cells slots) : gV x D base nL pc lv (.ref a :: st) gh cells slots := by
  obtain ⟨p, l', e, R, s, m, args, below, meth, c, Q⟩ := x
  obtain ⟨hx, hb, -⟩ := hC
  intro H locs ls hG hS hl
  exact lv_ifnull hx hb hd (k H locs ls hG hS hl)
theorem g_ifnonnull_r (hC : gK x l D base nL own cc rm) {a : Nat} {off : Int} {tgt : Nat} (hd : decode cc pc = .ok (.ifnonnull off, 3)) (ht : (pc : Int) + off = (tgt : Int)) (k : gV x D base nL tgt lv st gh cells slots) : gV x D base nL pc lv (.ref a :: st) gh cells slots := by
  obtain ⟨p, l', e, R, s, m, args, below, meth, c, Q⟩ := x
  obtain ⟨hx, hb, -⟩ := hC
  intro H locs ls hG hS hl
  exact lv_ifnonnull hx hb hd ht (k H locs ls hG hS hl)

theorem g_ialdK (hC : gK x l D base nL own cc rm) {a n : Nat} {F : Nat → Int} {i : Int} (j : Nat) (hd : decode cc pc = .ok (.iaload, 1)) (ha : gh a = some (gI 1 n F)) (hi : i = (j : Int)) (hj : j < n) (hn : n < 2147483648)
    (kk : gV x D base nL (pc + 1) lv (vi (F j) :: st) gh cells slots) : gV x D base nL pc lv (vi i :: .ref a :: st) gh cells slots := by
  subst hi
  exact g_iald hC hd ha (by omega) hn (by rw [Int.toNat_natCast]) kk
theorem g_baldK (hC : gK x l D base nL own cc rm) {a n : Nat} {F : Nat → Int} {i : Int} (j : Nat) (hd : decode cc pc = .ok (.baload, 1)) (ha : gh a = some (gI 2 n F)) (hi : i = (j : Int)) (hj : j < n) (hn : n < 2147483648)
    (kk : gV x D base nL (pc + 1) lv (vi (F j) :: st) gh cells slots) : gV x D base nL pc lv (vi i :: .ref a :: st) gh cells slots := by
  subst hi
  exact g_bald hC hd ha (by omega) hn (by rw [Int.toNat_natCast]) kk
theorem g_caldK (hC : gK x l D base nL own cc rm) {a n : Nat} {F : Nat → Int} {i : Int} (j : Nat) (hd : decode cc pc = .ok (.caload, 1)) (ha : gh a = some (gI 0 n F)) (hi : i = (j : Int)) (hj : j < n) (hn : n < 2147483648)
    (kk : gV x D base nL (pc + 1) lv (vi (F j) :: st) gh cells slots) : gV x D base nL pc lv (vi i :: .ref a :: st) gh cells slots := by
  subst hi
  exact g_cald hC hd ha (by omega) hn (by rw [Int.toNat_natCast]) kk
theorem g_iastK (hC : gK x l D base nL own cc rm) {a n : Nat} {F : Nat → Int} {i z : Int} (j : Nat) (hd : decode cc pc = .ok (.iastore, 1)) (ha : gh a = some (gI 1 n F)) (hi : i = (j : Int)) (hj : j < n) (hn : n < 2147483648)
    (kk : gV x D base nL (pc + 1) lv st (gset gh a (gI 1 n (gup F j z))) cells slots) : gV x D base nL pc lv (vi z :: vi i :: .ref a :: st) gh cells slots := by
  subst hi
  exact g_iast hC hd ha (by omega) hn (by rw [Int.toNat_natCast]; exact kk)
theorem g_castK (hC : gK x l D base nL own cc rm) {a n : Nat} {F : Nat → Int} {i z : Int} (j : Nat) (hd : decode cc pc = .ok (.castore, 1)) (ha : gh a = some (gI 0 n F)) (hi : i = (j : Int)) (hj : j < n) (hn : n < 2147483648) (hz : 0 ≤ z ∧ z < 65536)
    (kk : gV x D base nL (pc + 1) lv st (gset gh a (gI 0 n (gup F j z))) cells slots) : gV x D base nL pc lv (vi z :: vi i :: .ref a :: st) gh cells slots := by
  subst hi
  exact g_cast hC hd ha (by omega) hn hz (by rw [Int.toNat_natCast]; exact kk)
theorem g_bastK (hC : gK x l D base nL own cc rm) {a n : Nat} {F : Nat → Int} {i z : Int} (j : Nat) (hd : decode cc pc = .ok (.bastore, 1)) (ha : gh a = some (gI 2 n F)) (hi : i = (j : Int)) (hj : j < n) (hn : n < 2147483648) (hz : -128 ≤ z ∧ z < 128)
    (kk : gV x D base nL (pc + 1) lv st (gset gh a (gI 2 n (gup F j z))) cells slots) : gV x D base nL pc lv (vi z :: vi i :: .ref a :: st) gh cells slots := by
  subst hi
  exact g_bast hC hd ha (by omega) hn hz (by rw [Int.toNat_natCast]; exact kk)
theorem g_aaldK (hC : gK x l D base nL own cc rm) {a n kd : Nat} {F : Nat → Option Nat} {i : Int} (j : Nat) {C : String} (hd : decode cc pc = .ok (.aaload, 1)) (ha : gh a = some (gR kd n F)) (hk : kd < 10) (hC2 : gty kd = .object C) (hi : i = (j : Int)) (hj : j < n) (hn : n < 2147483648) {v : Option Nat} (hv : F j = v)
    (kk : gV x D base nL (pc + 1) lv (va_rf v :: st) gh cells slots) : gV x D base nL pc lv (vi i :: .ref a :: st) gh cells slots := by
  subst hi
  exact g_aald hC hd ha hk hC2 (by omega) hn (by rw [Int.toNat_natCast]; exact hv) kk
theorem g_aastK (hC : gK x l D base nL own cc rm) {a n kd ci v : Nat} {F : Nat → Option Nat} {i : Int} (j : Nat) {r : vw_C} {vs : List Value} (hd : decode cc pc = .ok (.aastore, 1)) (ha : gh a = some (gR kd n F)) (hk : kd < 10) (hC2 : gty kd = .object r.1) (hv : gh v = some (gO ci vs)) (hr : vwCl[ci]? = some r) (hi : i = (j : Int)) (hj : j < n) (hn : n < 2147483648)
    (kk : gV x D base nL (pc + 1) lv st (gset gh a (gR kd n (gup F j (some v)))) cells slots) : gV x D base nL pc lv (.ref v :: vi i :: .ref a :: st) gh cells slots := by
  subst hi
  exact g_aast hC hd ha hk hC2 hv hr (by omega) hn (by rw [Int.toNat_natCast]; exact kk)
end GE
theorem g_for {P : Nat → Prop} (N : Nat) (hs : ∀ k, k < N → P (k + 1) → P k) (h0 : P N) : ∀ k, k ≤ N → P k := by
  intro k hk
  obtain ⟨n, hn⟩ : ∃ n, N = k + n := ⟨N - k, by omega⟩
  induction n generalizing k with
  | zero => rw [show k = N by omega]; exact h0
  | succ n ih => exact hs k (by omega) (ih (k + 1) (by omega) (by omega))
-- ===== the reference's object =====
def mIs (k : Nat) : Bool := !(k == 0 || k == 1 || k == 3 || k == 11 || k == 20 || k == 22 || k == 27)
def mK : Nat → Nat × Nat
  | 2 => (0, 8) | 8 => (1, 84) | 9 => (1, 84) | 10 => (0, 672) | 12 => (1, 4) | 13 => (1, 4) | 14 => (1, 4) | 18 => (0, 960) | 19 => (1, 56) | 21 => (1, 4) | 23 => (1, 5) | 24 => (1, 5) | 25 => (1, 70) | 26 => (1, 280) | _ => (1, 14)
def mU (ad : Nat → Nat) (z : Nat → Int) (k : Nat) : Value := if mIs k = true then .ref (ad k) else vi (z k)
def mFs (ad : Nat → Nat) (z : Nat → Int) : List Value := (List.range 28).map (mU ad z)
theorem mFs_get {ad : Nat → Nat} {z : Nat → Int} {k : Nat} (h : k < 28) : (mFs ad z)[k]? = some (mU ad z k) := by
  unfold mFs
  rw [List.getElem?_map, List.getElem?_range h]
  rfl
theorem mFs_set {ad : Nat → Nat} {z : Nat → Int} {k : Nat} {v : Int} (hi : mIs k = false) : (mFs ad z).set k (vi v) = mFs ad (gup z k v) := by
  unfold mFs
  apply List.ext_getElem?
  intro i
  rw [List.getElem?_map]
  by_cases h : i = k
  · subst h
    by_cases hl : i < 28
    · rw [List.getElem?_set_self (by simp; exact hl), List.getElem?_range hl]
      show some (vi v) = some (mU ad (gup z i v) i)
      unfold mU
      rw [if_neg (by rw [hi]; decide), gup_eq]
    · rw [List.getElem?_eq_none (by simp; omega), List.getElem?_eq_none (by simp; omega)]
      rfl
  · rw [List.getElem?_set_ne (Ne.symm h), List.getElem?_map]
    cases e : (List.range 28)[i]? with
    | none => rfl
    | some j =>
      have hj : j = i := by
        have := List.getElem?_eq_some_iff.mp e
        obtain ⟨h1, h2⟩ := this
        rw [List.getElem_range] at h2
        omega
      subst hj
      show some (mU ad z j) = some (mU ad (gup z k v) j)
      unfold mU
      rw [gup_ne h]
def mRep (mo : Nat) (ad : Nat → Nat) (z : Nat → Int) (F : Nat → Nat → Int) (gh : gH) : Prop := gh mo = some (gO 11 (mFs ad z)) ∧ (∀ k, k < 28 → mIs k = true → gh (ad k) = some (gI (mK k).1 (mK k).2 (F k))) ∧ ∀ j k, j < 28 → k < 28 → mIs j = true → mIs k = true → ad j = ad k → j = k
def mFr (mo : Nat) (ad : Nat → Nat) (gh0 gh : gH) : Prop := ∀ q, q ≠ mo → (∀ k, k < 28 → mIs k = true → q ≠ ad k) → gh q = gh0 q
theorem mFr.rf {mo : Nat} {ad : Nat → Nat} {gh : gH} : mFr mo ad gh gh := fun _ _ _ => rfl
theorem mFr.tr {mo : Nat} {ad : Nat → Nat} {g0 g1 g2 : gH} (h1 : mFr mo ad g0 g1) (h2 : mFr mo ad g1 g2) : mFr mo ad g0 g2 := fun q a b => (h2 q a b).trans (h1 q a b)
theorem mRep.putI {mo : Nat} {ad : Nat → Nat} {z : Nat → Int} {F : Nat → Nat → Int} {gh : gH} (h : mRep mo ad z F gh) {k : Nat} {v : Int} (hi : mIs k = false) : mRep mo ad (gup z k v) F (gset gh mo (gO 11 ((mFs ad z).set k (vi v)))) := by
  obtain ⟨h1, h2, h3⟩ := h
  refine ⟨by rw [gset_eq, mFs_set hi], fun j hj hm => ?_, h3⟩
  rw [gset_ne (gne (h2 j hj hm) h1 (by simp))]
  exact h2 j hj hm
theorem mRep.putA {mo : Nat} {ad : Nat → Nat} {z : Nat → Int} {F : Nat → Nat → Int} {gh : gH} (h : mRep mo ad z F gh) {k : Nat} {G : Nat → Int} (hk : k < 28) (hi : mIs k = true) : mRep mo ad z (gup F k G) (gset gh (ad k) (gI (mK k).1 (mK k).2 G)) := by
  obtain ⟨h1, h2, h3⟩ := h
  refine ⟨by rw [gset_ne (gne h1 (h2 k hk hi) (by simp))]; exact h1, fun j hj hm => ?_, h3⟩
  by_cases e : j = k
  · subst e
    rw [gset_eq, gup_eq]
  · rw [gset_ne (fun q => e (h3 j k hj hk hm hi q)), gup_ne e]
    exact h2 j hj hm
def gVM (x : gX) (D : gD) (base nL mo : Nat) (ad : Nat → Nat) (gh0 : gH) (pc : Nat) (lv : List (Option Value)) (st : List Value) (z : Nat → Int) (F : Nat → Nat → Int) : Prop := ∀ gh : gH, mRep mo ad z F gh → mFr mo ad gh0 gh → gV x D base nL pc lv st gh 0 0
def mM (l : Launch) (D : gD) (base : Nat) (y : MethodName) (cc : ByteArray) (nL : Nat) (ret : Option FieldType) (f loc mo : Nat) (ad : Nat → Nat) (As : List Value) (z : Nat → Int) (F : Nat → Nat → Int) (post : Option Value → (Nat → Int) → (Nat → Nat → Int) → Prop) : Prop :=
  ∀ gh : gH, mRep mo ad z F gh → gM l D base y cc nL ret f loc 0 0 (.ref mo :: As) gh (fun r gh' => ∃ z' F', post r z' F' ∧ mRep mo ad z' F' gh' ∧ mFr mo ad gh gh') gNo
theorem mK_lt (r : Nat) : (mK r).2 < 2147483648 := by unfold mK; split <;> decide
section GVM
variable {x : gX} {l : Launch} {D : gD} {base nL : Nat} {own : String} {cc : ByteArray} {rm : Room} {pc : Nat} {lv : List (Option Value)} {st : List Value} {mo : Nat} {ad : Nat → Nat} {gh0 : gH} {z : Nat → Int} {F : Nat → Nat → Int}
theorem mM.of {y : MethodName} {ret : Option FieldType} {f loc : Nat} {As : List Value} {post : Option Value → (Nat → Int) → (Nat → Nat → Int) → Prop}
    (hl : l.stackTraces = false) (hy : plainName y.cls = true) (hc : ∀ w ∈ As, w.category = 1) (hn : As.length + 1 ≤ nL) (lv : List (Option Value)) (hlv : (.ref mo :: As).map some ++ List.replicate (nL - (As.length + 1)) none = lv)
    (body : ∀ (gh : gH) (x : gX), gK x l D base nL y.cls cc ({ frames := f, cells := 0, slots := 0, locals := loc } : Room) → gEnd x D base (fun r gh' => ∃ z' F', post r z' F' ∧ mRep mo ad z' F' gh' ∧ mFr mo ad gh gh') gNo 0 0 ret y.name → gVM x D base nL mo ad gh 0 lv [] z F) :
    mM l D base y cc nL ret f loc mo ad As z F post := by
  intro gh hr
  refine gM.of hl hy (fun w hw => ?_) hn lv hlv (fun x hC hq => body gh x hC hq gh hr mFr.rf)
  rcases List.mem_cons.mp hw with h | h
  · rw [h]; rfl
  · exact hc w h
theorem m_iconst (hC : gK x l D base nL own cc rm) {n v : Int} (hd : decode cc pc = .ok (.iconst n, 1)) (hz : n = v) (k : gVM x D base nL mo ad gh0 (pc + 1) lv (vi v :: st) (z) (F)) : gVM x D base nL mo ad gh0 (pc) lv (st) (z) (F) := fun gh h1 h2 => g_iconst hC hd hz (k gh h1 h2)
theorem m_bipush (hC : gK x l D base nL own cc rm) {n v : Int} (hd : decode cc pc = .ok (.bipush n, 2)) (hz : (Int8.ofInt n).toInt32 = iI v) (k : gVM x D base nL mo ad gh0 (pc + 2) lv (vi v :: st) (z) (F)) : gVM x D base nL mo ad gh0 (pc) lv (st) (z) (F) := fun gh h1 h2 => g_bipush hC hd hz (k gh h1 h2)
theorem m_sipush (hC : gK x l D base nL own cc rm) {n v : Int} (hd : decode cc pc = .ok (.sipush n, 3)) (hz : (Int16.ofInt n).toInt32 = iI v) (k : gVM x D base nL mo ad gh0 (pc + 3) lv (vi v :: st) (z) (F)) : gVM x D base nL mo ad gh0 (pc) lv (st) (z) (F) := fun gh h1 h2 => g_sipush hC hd hz (k gh h1 h2)
theorem m_iload_n (hC : gK x l D base nL own cc rm) {i : Fin 4} {v : Int} (hd : decode cc pc = .ok (.iload_n i, 1)) (hv : lv[(i : Nat)]? = some (some (vi v))) (k : gVM x D base nL mo ad gh0 (pc + 1) lv (vi v :: st) (z) (F)) : gVM x D base nL mo ad gh0 (pc) lv (st) (z) (F) := fun gh h1 h2 => g_iload_n hC hd hv (k gh h1 h2)
theorem m_iload (hC : gK x l D base nL own cc rm) {i : Nat} {v : Int} (hd : decode cc pc = .ok (.iload i, 2)) (hv : lv[i]? = some (some (vi v))) (k : gVM x D base nL mo ad gh0 (pc + 2) lv (vi v :: st) (z) (F)) : gVM x D base nL mo ad gh0 (pc) lv (st) (z) (F) := fun gh h1 h2 => g_iload hC hd hv (k gh h1 h2)
theorem m_ald_n (hC : gK x l D base nL own cc rm) {i : Fin 4} {a : Nat} (hd : decode cc pc = .ok (.aload_n i, 1)) (hv : lv[(i : Nat)]? = some (some (.ref a))) (k : gVM x D base nL mo ad gh0 (pc + 1) lv (.ref a :: st) (z) (F)) : gVM x D base nL mo ad gh0 (pc) lv (st) (z) (F) := fun gh h1 h2 => g_ald_n hC hd hv (k gh h1 h2)
theorem m_fload (hC : gK x l D base nL own cc rm) {i : Nat} {v : UInt32} (hd : decode cc pc = .ok (.fload i, 2)) (hv : lv[i]? = some (some (.float v))) (k : gVM x D base nL mo ad gh0 (pc + 2) lv (.float v :: st) (z) (F)) : gVM x D base nL mo ad gh0 (pc) lv (st) (z) (F) := fun gh h1 h2 => g_fload hC hd hv (k gh h1 h2)
theorem m_fload_n (hC : gK x l D base nL own cc rm) {i : Fin 4} {v : UInt32} (hd : decode cc pc = .ok (.fload_n i, 1)) (hv : lv[(i : Nat)]? = some (some (.float v))) (k : gVM x D base nL mo ad gh0 (pc + 1) lv (.float v :: st) (z) (F)) : gVM x D base nL mo ad gh0 (pc) lv (st) (z) (F) := fun gh h1 h2 => g_fload_n hC hd hv (k gh h1 h2)
theorem m_istore_n (hC : gK x l D base nL own cc rm) {i : Fin 4} {v : Int} {lv' : List (Option Value)} (hd : decode cc pc = .ok (.istore_n i, 1)) (hi : (i : Nat) < nL) (he : lv.set (i : Nat) (some (vi v)) = lv') (k : gVM x D base nL mo ad gh0 (pc + 1) lv' (st) (z) (F)) : gVM x D base nL mo ad gh0 (pc) lv (vi v :: st) (z) (F) := fun gh h1 h2 => g_istore_n hC hd hi he (k gh h1 h2)
theorem m_istore (hC : gK x l D base nL own cc rm) {i : Nat} {v : Int} {lv' : List (Option Value)} (hd : decode cc pc = .ok (.istore i, 2)) (hi : i < nL) (he : lv.set i (some (vi v)) = lv') (k : gVM x D base nL mo ad gh0 (pc + 2) lv' (st) (z) (F)) : gVM x D base nL mo ad gh0 (pc) lv (vi v :: st) (z) (F) := fun gh h1 h2 => g_istore hC hd hi he (k gh h1 h2)
theorem m_fstore_n (hC : gK x l D base nL own cc rm) {i : Fin 4} {v : UInt32} {lv' : List (Option Value)} (hd : decode cc pc = .ok (.fstore_n i, 1)) (hi : (i : Nat) < nL) (he : lv.set (i : Nat) (some (.float v)) = lv') (k : gVM x D base nL mo ad gh0 (pc + 1) lv' (st) (z) (F)) : gVM x D base nL mo ad gh0 (pc) lv (.float v :: st) (z) (F) := fun gh h1 h2 => g_fstore_n hC hd hi he (k gh h1 h2)
theorem m_fstore (hC : gK x l D base nL own cc rm) {i : Nat} {v : UInt32} {lv' : List (Option Value)} (hd : decode cc pc = .ok (.fstore i, 2)) (hi : i < nL) (he : lv.set i (some (.float v)) = lv') (k : gVM x D base nL mo ad gh0 (pc + 2) lv' (st) (z) (F)) : gVM x D base nL mo ad gh0 (pc) lv (.float v :: st) (z) (F) := fun gh h1 h2 => g_fstore hC hd hi he (k gh h1 h2)
theorem m_iinc (hC : gK x l D base nL own cc rm) {i : Nat} {n v : Int} {lv' : List (Option Value)} (hd : decode cc pc = .ok (.iinc i n, 3)) (hi : i < nL) (hv : lv[i]? = some (some (vi v))) (he : lv.set i (some (vi (v + n))) = lv') (k : gVM x D base nL mo ad gh0 (pc + 3) lv' (st) (z) (F)) : gVM x D base nL mo ad gh0 (pc) lv (st) (z) (F) := fun gh h1 h2 => g_iinc hC hd hi hv he (k gh h1 h2)
theorem m_iadd (hC : gK x l D base nL own cc rm) {a b : Int} (hd : decode cc pc = .ok (.iadd, 1)) (k : gVM x D base nL mo ad gh0 (pc + 1) lv (vi (a + b) :: st) (z) (F)) : gVM x D base nL mo ad gh0 (pc) lv (vi b :: vi a :: st) (z) (F) := fun gh h1 h2 => g_iadd hC hd (k gh h1 h2)
theorem m_isub (hC : gK x l D base nL own cc rm) {a b : Int} (hd : decode cc pc = .ok (.isub, 1)) (k : gVM x D base nL mo ad gh0 (pc + 1) lv (vi (a - b) :: st) (z) (F)) : gVM x D base nL mo ad gh0 (pc) lv (vi b :: vi a :: st) (z) (F) := fun gh h1 h2 => g_isub hC hd (k gh h1 h2)
theorem m_imul (hC : gK x l D base nL own cc rm) {a b : Int} (hd : decode cc pc = .ok (.imul, 1)) (k : gVM x D base nL mo ad gh0 (pc + 1) lv (vi (a * b) :: st) (z) (F)) : gVM x D base nL mo ad gh0 (pc) lv (vi b :: vi a :: st) (z) (F) := fun gh h1 h2 => g_imul hC hd (k gh h1 h2)
theorem m_idiv (hC : gK x l D base nL own cc rm) {a b : Int} (hd : decode cc pc = .ok (.idiv, 1)) (ha : 0 ≤ a ∧ a < 2147483648) (hb0 : 0 < b ∧ b < 2147483648) (k : gVM x D base nL mo ad gh0 (pc + 1) lv (vi (a / b) :: st) (z) (F)) : gVM x D base nL mo ad gh0 (pc) lv (vi b :: vi a :: st) (z) (F) := fun gh h1 h2 => g_idiv hC hd ha hb0 (k gh h1 h2)
theorem m_irem (hC : gK x l D base nL own cc rm) {a b : Int} (hd : decode cc pc = .ok (.irem, 1)) (ha : 0 ≤ a ∧ a < 2147483648) (hb0 : 0 < b ∧ b < 2147483648) (k : gVM x D base nL mo ad gh0 (pc + 1) lv (vi (a % b) :: st) (z) (F)) : gVM x D base nL mo ad gh0 (pc) lv (vi b :: vi a :: st) (z) (F) := fun gh h1 h2 => g_irem hC hd ha hb0 (k gh h1 h2)
theorem m_i2f (hC : gK x l D base nL own cc rm) {a : Int32} (hd : decode cc pc = .ok (.i2f, 1)) (k : gVM x D base nL mo ad gh0 (pc + 1) lv (.float (FP.i2f a) :: st) (z) (F)) : gVM x D base nL mo ad gh0 (pc) lv (.int a :: st) (z) (F) := fun gh h1 h2 => g_i2f hC hd (k gh h1 h2)
theorem m_f2i (hC : gK x l D base nL own cc rm) {a : UInt32} (hd : decode cc pc = .ok (.f2i, 1)) (k : gVM x D base nL mo ad gh0 (pc + 1) lv (.int (FP.f2i a) :: st) (z) (F)) : gVM x D base nL mo ad gh0 (pc) lv (.float a :: st) (z) (F) := fun gh h1 h2 => g_f2i hC hd (k gh h1 h2)
theorem m_fadd (hC : gK x l D base nL own cc rm) {a b : UInt32} (hd : decode cc pc = .ok (.fadd, 1)) (hn : vf_n32 (FP.fadd a b)) (k : gVM x D base nL mo ad gh0 (pc + 1) lv (.float (FP.fadd a b) :: st) (z) (F)) : gVM x D base nL mo ad gh0 (pc) lv (.float b :: .float a :: st) (z) (F) := fun gh h1 h2 => g_fadd hC hd hn (k gh h1 h2)
theorem m_fsub (hC : gK x l D base nL own cc rm) {a b : UInt32} (hd : decode cc pc = .ok (.fsub, 1)) (hn : vf_n32 (FP.fsub a b)) (k : gVM x D base nL mo ad gh0 (pc + 1) lv (.float (FP.fsub a b) :: st) (z) (F)) : gVM x D base nL mo ad gh0 (pc) lv (.float b :: .float a :: st) (z) (F) := fun gh h1 h2 => g_fsub hC hd hn (k gh h1 h2)
theorem m_fmul (hC : gK x l D base nL own cc rm) {a b : UInt32} (hd : decode cc pc = .ok (.fmul, 1)) (hn : vf_n32 (FP.fmul a b)) (k : gVM x D base nL mo ad gh0 (pc + 1) lv (.float (FP.fmul a b) :: st) (z) (F)) : gVM x D base nL mo ad gh0 (pc) lv (.float b :: .float a :: st) (z) (F) := fun gh h1 h2 => g_fmul hC hd hn (k gh h1 h2)
theorem m_fdiv (hC : gK x l D base nL own cc rm) {a b : UInt32} (hd : decode cc pc = .ok (.fdiv, 1)) (hn : vf_n32 (FP.fdiv a b)) (k : gVM x D base nL mo ad gh0 (pc + 1) lv (.float (FP.fdiv a b) :: st) (z) (F)) : gVM x D base nL mo ad gh0 (pc) lv (.float b :: .float a :: st) (z) (F) := fun gh h1 h2 => g_fdiv hC hd hn (k gh h1 h2)
theorem m_fconst1 (hC : gK x l D base nL own cc rm)  (hd : decode cc pc = .ok (.fconst 1, 1)) (k : gVM x D base nL mo ad gh0 (pc + 1) lv (.float FP.fconst1 :: st) (z) (F)) : gVM x D base nL mo ad gh0 (pc) lv (st) (z) (F) := fun gh h1 h2 => g_fconst1 hC hd (k gh h1 h2)
theorem m_ldcf (hC : gK x l D base nL own cc rm) {idx : Nat} {v : UInt32} (hd : decode cc pc = .ok (.ldc idx, 2)) (hw : Cond.constantFloat own idx v ∈ gwA) (k : gVM x D base nL mo ad gh0 (pc + 2) lv (.float v :: st) (z) (F)) : gVM x D base nL mo ad gh0 (pc) lv (st) (z) (F) := fun gh h1 h2 => g_ldcf hC hd hw (k gh h1 h2)
theorem m_dup (hC : gK x l D base nL own cc rm) {v : Value} (hd : decode cc pc = .ok (.dup, 1)) (hv : v.category = 1) (k : gVM x D base nL mo ad gh0 (pc + 1) lv (v :: v :: st) (z) (F)) : gVM x D base nL mo ad gh0 (pc) lv (v :: st) (z) (F) := fun gh h1 h2 => g_dup hC hd hv (k gh h1 h2)
theorem m_dup2 (hC : gK x l D base nL own cc rm) {v w : Value} (hd : decode cc pc = .ok (.dup2, 1)) (hv : v.category = 1) (hw : w.category = 1) (k : gVM x D base nL mo ad gh0 (pc + 1) lv (v :: w :: v :: w :: st) (z) (F)) : gVM x D base nL mo ad gh0 (pc) lv (v :: w :: st) (z) (F) := fun gh h1 h2 => g_dup2 hC hd hv hw (k gh h1 h2)
theorem m_pop (hC : gK x l D base nL own cc rm) {v : Value} (hd : decode cc pc = .ok (.pop, 1)) (hv : v.category = 1) (k : gVM x D base nL mo ad gh0 (pc + 1) lv (st) (z) (F)) : gVM x D base nL mo ad gh0 (pc) lv (v :: st) (z) (F) := fun gh h1 h2 => g_pop hC hd hv (k gh h1 h2)
theorem m_goto (hC : gK x l D base nL own cc rm) {off : Int} {tgt : Nat} (hd : decode cc pc = .ok (.goto off, 3)) (ht : (pc : Int) + off = (tgt : Int)) (k : gVM x D base nL mo ad gh0 (tgt) lv (st) (z) (F)) : gVM x D base nL mo ad gh0 (pc) lv (st) (z) (F) := fun gh h1 h2 => g_goto hC hd ht (k gh h1 h2)
theorem m_icmp_eq (hC : gK x l D base nL own cc rm) {a b : Int} {off : Int} {tgt : Nat} (hd : decode cc pc = .ok (.if_icmp .eq off, 3)) (ht : (pc : Int) + off = (tgt : Int)) (ha : -2147483648 ≤ a ∧ a < 2147483648) (hb0 : -2147483648 ≤ b ∧ b < 2147483648) (kt : a = b → gVM x D base nL mo ad gh0 (tgt) lv (st) (z) (F)) (kf : a ≠ b → gVM x D base nL mo ad gh0 (pc + 3) lv (st) (z) (F)) : gVM x D base nL mo ad gh0 (pc) lv (vi b :: vi a :: st) (z) (F) := fun gh h1 h2 => g_icmp_eq hC hd ht ha hb0 (fun q => kt q gh h1 h2) (fun q => kf q gh h1 h2)
theorem m_if_eq (hC : gK x l D base nL own cc rm) {a : Int} {off : Int} {tgt : Nat} (hd : decode cc pc = .ok (.ifCond .eq off, 3)) (ht : (pc : Int) + off = (tgt : Int)) (ha : -2147483648 ≤ a ∧ a < 2147483648) (kt : a = 0 → gVM x D base nL mo ad gh0 (tgt) lv (st) (z) (F)) (kf : a ≠ 0 → gVM x D base nL mo ad gh0 (pc + 3) lv (st) (z) (F)) : gVM x D base nL mo ad gh0 (pc) lv (vi a :: st) (z) (F) := fun gh h1 h2 => g_if_eq hC hd ht ha (fun q => kt q gh h1 h2) (fun q => kf q gh h1 h2)
theorem m_icmp_ne (hC : gK x l D base nL own cc rm) {a b : Int} {off : Int} {tgt : Nat} (hd : decode cc pc = .ok (.if_icmp .ne off, 3)) (ht : (pc : Int) + off = (tgt : Int)) (ha : -2147483648 ≤ a ∧ a < 2147483648) (hb0 : -2147483648 ≤ b ∧ b < 2147483648) (kt : a ≠ b → gVM x D base nL mo ad gh0 (tgt) lv (st) (z) (F)) (kf : a = b → gVM x D base nL mo ad gh0 (pc + 3) lv (st) (z) (F)) : gVM x D base nL mo ad gh0 (pc) lv (vi b :: vi a :: st) (z) (F) := fun gh h1 h2 => g_icmp_ne hC hd ht ha hb0 (fun q => kt q gh h1 h2) (fun q => kf q gh h1 h2)
theorem m_if_ne (hC : gK x l D base nL own cc rm) {a : Int} {off : Int} {tgt : Nat} (hd : decode cc pc = .ok (.ifCond .ne off, 3)) (ht : (pc : Int) + off = (tgt : Int)) (ha : -2147483648 ≤ a ∧ a < 2147483648) (kt : a ≠ 0 → gVM x D base nL mo ad gh0 (tgt) lv (st) (z) (F)) (kf : a = 0 → gVM x D base nL mo ad gh0 (pc + 3) lv (st) (z) (F)) : gVM x D base nL mo ad gh0 (pc) lv (vi a :: st) (z) (F) := fun gh h1 h2 => g_if_ne hC hd ht ha (fun q => kt q gh h1 h2) (fun q => kf q gh h1 h2)
theorem m_icmp_lt (hC : gK x l D base nL own cc rm) {a b : Int} {off : Int} {tgt : Nat} (hd : decode cc pc = .ok (.if_icmp .lt off, 3)) (ht : (pc : Int) + off = (tgt : Int)) (ha : -2147483648 ≤ a ∧ a < 2147483648) (hb0 : -2147483648 ≤ b ∧ b < 2147483648) (kt : a < b → gVM x D base nL mo ad gh0 (tgt) lv (st) (z) (F)) (kf : b ≤ a → gVM x D base nL mo ad gh0 (pc + 3) lv (st) (z) (F)) : gVM x D base nL mo ad gh0 (pc) lv (vi b :: vi a :: st) (z) (F) := fun gh h1 h2 => g_icmp_lt hC hd ht ha hb0 (fun q => kt q gh h1 h2) (fun q => kf q gh h1 h2)
theorem m_if_lt (hC : gK x l D base nL own cc rm) {a : Int} {off : Int} {tgt : Nat} (hd : decode cc pc = .ok (.ifCond .lt off, 3)) (ht : (pc : Int) + off = (tgt : Int)) (ha : -2147483648 ≤ a ∧ a < 2147483648) (kt : a < 0 → gVM x D base nL mo ad gh0 (tgt) lv (st) (z) (F)) (kf : 0 ≤ a → gVM x D base nL mo ad gh0 (pc + 3) lv (st) (z) (F)) : gVM x D base nL mo ad gh0 (pc) lv (vi a :: st) (z) (F) := fun gh h1 h2 => g_if_lt hC hd ht ha (fun q => kt q gh h1 h2) (fun q => kf q gh h1 h2)
theorem m_icmp_ge (hC : gK x l D base nL own cc rm) {a b : Int} {off : Int} {tgt : Nat} (hd : decode cc pc = .ok (.if_icmp .ge off, 3)) (ht : (pc : Int) + off = (tgt : Int)) (ha : -2147483648 ≤ a ∧ a < 2147483648) (hb0 : -2147483648 ≤ b ∧ b < 2147483648) (kt : b ≤ a → gVM x D base nL mo ad gh0 (tgt) lv (st) (z) (F)) (kf : a < b → gVM x D base nL mo ad gh0 (pc + 3) lv (st) (z) (F)) : gVM x D base nL mo ad gh0 (pc) lv (vi b :: vi a :: st) (z) (F) := fun gh h1 h2 => g_icmp_ge hC hd ht ha hb0 (fun q => kt q gh h1 h2) (fun q => kf q gh h1 h2)
theorem m_if_ge (hC : gK x l D base nL own cc rm) {a : Int} {off : Int} {tgt : Nat} (hd : decode cc pc = .ok (.ifCond .ge off, 3)) (ht : (pc : Int) + off = (tgt : Int)) (ha : -2147483648 ≤ a ∧ a < 2147483648) (kt : 0 ≤ a → gVM x D base nL mo ad gh0 (tgt) lv (st) (z) (F)) (kf : a < 0 → gVM x D base nL mo ad gh0 (pc + 3) lv (st) (z) (F)) : gVM x D base nL mo ad gh0 (pc) lv (vi a :: st) (z) (F) := fun gh h1 h2 => g_if_ge hC hd ht ha (fun q => kt q gh h1 h2) (fun q => kf q gh h1 h2)
theorem m_icmp_gt (hC : gK x l D base nL own cc rm) {a b : Int} {off : Int} {tgt : Nat} (hd : decode cc pc = .ok (.if_icmp .gt off, 3)) (ht : (pc : Int) + off = (tgt : Int)) (ha : -2147483648 ≤ a ∧ a < 2147483648) (hb0 : -2147483648 ≤ b ∧ b < 2147483648) (kt : b < a → gVM x D base nL mo ad gh0 (tgt) lv (st) (z) (F)) (kf : a ≤ b → gVM x D base nL mo ad gh0 (pc + 3) lv (st) (z) (F)) : gVM x D base nL mo ad gh0 (pc) lv (vi b :: vi a :: st) (z) (F) := fun gh h1 h2 => g_icmp_gt hC hd ht ha hb0 (fun q => kt q gh h1 h2) (fun q => kf q gh h1 h2)
theorem m_if_gt (hC : gK x l D base nL own cc rm) {a : Int} {off : Int} {tgt : Nat} (hd : decode cc pc = .ok (.ifCond .gt off, 3)) (ht : (pc : Int) + off = (tgt : Int)) (ha : -2147483648 ≤ a ∧ a < 2147483648) (kt : 0 < a → gVM x D base nL mo ad gh0 (tgt) lv (st) (z) (F)) (kf : a ≤ 0 → gVM x D base nL mo ad gh0 (pc + 3) lv (st) (z) (F)) : gVM x D base nL mo ad gh0 (pc) lv (vi a :: st) (z) (F) := fun gh h1 h2 => g_if_gt hC hd ht ha (fun q => kt q gh h1 h2) (fun q => kf q gh h1 h2)
theorem m_icmp_le (hC : gK x l D base nL own cc rm) {a b : Int} {off : Int} {tgt : Nat} (hd : decode cc pc = .ok (.if_icmp .le off, 3)) (ht : (pc : Int) + off = (tgt : Int)) (ha : -2147483648 ≤ a ∧ a < 2147483648) (hb0 : -2147483648 ≤ b ∧ b < 2147483648) (kt : a ≤ b → gVM x D base nL mo ad gh0 (tgt) lv (st) (z) (F)) (kf : b < a → gVM x D base nL mo ad gh0 (pc + 3) lv (st) (z) (F)) : gVM x D base nL mo ad gh0 (pc) lv (vi b :: vi a :: st) (z) (F) := fun gh h1 h2 => g_icmp_le hC hd ht ha hb0 (fun q => kt q gh h1 h2) (fun q => kf q gh h1 h2)
theorem m_if_le (hC : gK x l D base nL own cc rm) {a : Int} {off : Int} {tgt : Nat} (hd : decode cc pc = .ok (.ifCond .le off, 3)) (ht : (pc : Int) + off = (tgt : Int)) (ha : -2147483648 ≤ a ∧ a < 2147483648) (kt : a ≤ 0 → gVM x D base nL mo ad gh0 (tgt) lv (st) (z) (F)) (kf : 0 < a → gVM x D base nL mo ad gh0 (pc + 3) lv (st) (z) (F)) : gVM x D base nL mo ad gh0 (pc) lv (vi a :: st) (z) (F) := fun gh h1 h2 => g_if_le hC hd ht ha (fun q => kt q gh h1 h2) (fun q => kf q gh h1 h2)
theorem m_ifeq_b (hC : gK x l D base nL own cc rm) {a : Bool} {off : Int} {tgt : Nat} (hd : decode cc pc = .ok (.ifCond .eq off, 3)) (ht : (pc : Int) + off = (tgt : Int)) (kt : a = false → gVM x D base nL mo ad gh0 (tgt) lv (st) (z) (F)) (kf : a = true → gVM x D base nL mo ad gh0 (pc + 3) lv (st) (z) (F)) : gVM x D base nL mo ad gh0 (pc) lv (vi (b2i a) :: st) (z) (F) := fun gh h1 h2 => g_ifeq_b hC hd ht (fun q => kt q gh h1 h2) (fun q => kf q gh h1 h2)
theorem m_ifne_b (hC : gK x l D base nL own cc rm) {a : Bool} {off : Int} {tgt : Nat} (hd : decode cc pc = .ok (.ifCond .ne off, 3)) (ht : (pc : Int) + off = (tgt : Int)) (kt : a = true → gVM x D base nL mo ad gh0 (tgt) lv (st) (z) (F)) (kf : a = false → gVM x D base nL mo ad gh0 (pc + 3) lv (st) (z) (F)) : gVM x D base nL mo ad gh0 (pc) lv (vi (b2i a) :: st) (z) (F) := fun gh h1 h2 => g_ifne_b hC hd ht (fun q => kt q gh h1 h2) (fun q => kf q gh h1 h2)
theorem m_top {a b : Int} (h : a = b) (k : gVM x D base nL mo ad gh0 (pc) lv (vi b :: st) (z) (F)) : gVM x D base nL mo ad gh0 (pc) lv (vi a :: st) (z) (F) := by subst h; exact k
theorem gVM.eqs {lv' : List (Option Value)} {st' : List Value} {z' : Nat → Int} {F' : Nat → Nat → Int} (h1 : lv = lv') (h2 : st = st') (h3 : z = z') (h4 : F = F') (k : gVM x D base nL mo ad gh0 (pc) lv' (st') (z') (F')) : gVM x D base nL mo ad gh0 (pc) lv (st) (z) (F) := by subst h1; subst h2; subst h3; subst h4; exact k
theorem m_getI (hC : gK x l D base nL own cc rm) {idx : Nat} (i : Nat) (hd : decode cc pc = .ok (.getfield idx, 3)) (hf : gFd own idx 11 i) (hi : i < 28 ∧ mIs i = false) (k : gVM x D base nL mo ad gh0 (pc + 3) lv (vi (z i) :: st) (z) (F)) : gVM x D base nL mo ad gh0 (pc) lv (.ref mo :: st) (z) (F) := fun gh h1 h2 => g_get hC hd hf h1.1 (by rw [mFs_get hi.1]; unfold mU; rw [if_neg (by rw [hi.2]; decide)]) (k gh h1 h2)
theorem m_getA (hC : gK x l D base nL own cc rm) {idx : Nat} (i : Nat) (hd : decode cc pc = .ok (.getfield idx, 3)) (hf : gFd own idx 11 i) (hi : i < 28 ∧ mIs i = true) (k : gVM x D base nL mo ad gh0 (pc + 3) lv (.ref (ad i) :: st) (z) (F)) : gVM x D base nL mo ad gh0 (pc) lv (.ref mo :: st) (z) (F) := fun gh h1 h2 => g_get hC hd hf h1.1 (by rw [mFs_get hi.1]; unfold mU; rw [if_pos hi.2]) (k gh h1 h2)
theorem m_putI (hC : gK x l D base nL own cc rm) {idx : Nat} (i : Nat) {v : Int} (hd : decode cc pc = .ok (.putfield idx, 3)) (hf : gFw own idx 11 i false .int) (hi : i < 28 ∧ mIs i = false) (k : gVM x D base nL mo ad gh0 (pc + 3) lv (st) (gup z i v) (F)) : gVM x D base nL mo ad gh0 (pc) lv (vi v :: .ref mo :: st) (z) (F) := fun gh h1 h2 => g_put hC hd hf h1.1 ⟨rfl, rfl⟩ rfl (by simp [mFs]; exact hi.1) (k _ (h1.putI hi.2) (fun q a b => by rw [gset_ne a]; exact h2 q a b))
theorem m_iald (hC : gK x l D base nL own cc rm) (r j : Nat) {i : Int} (hd : decode cc pc = .ok (.iaload, 1)) (hr : r < 28 ∧ mIs r = true ∧ (mK r).1 = 1) (hi : i = (j : Int)) (hj : j < (mK r).2) (k : gVM x D base nL mo ad gh0 (pc + 1) lv (vi (F r j) :: st) (z) (F)) : gVM x D base nL mo ad gh0 (pc) lv (vi i :: .ref (ad r) :: st) (z) (F) := fun gh h1 h2 => g_ialdK hC j hd (by have h := h1.2.1 r hr.1 hr.2.1; rw [hr.2.2] at h; exact h) hi hj (mK_lt r) (k gh h1 h2)
theorem m_cald (hC : gK x l D base nL own cc rm) (r j : Nat) {i : Int} (hd : decode cc pc = .ok (.caload, 1)) (hr : r < 28 ∧ mIs r = true ∧ (mK r).1 = 0) (hi : i = (j : Int)) (hj : j < (mK r).2) (k : gVM x D base nL mo ad gh0 (pc + 1) lv (vi (F r j) :: st) (z) (F)) : gVM x D base nL mo ad gh0 (pc) lv (vi i :: .ref (ad r) :: st) (z) (F) := fun gh h1 h2 => g_caldK hC j hd (by have h := h1.2.1 r hr.1 hr.2.1; rw [hr.2.2] at h; exact h) hi hj (mK_lt r) (k gh h1 h2)
theorem m_iast (hC : gK x l D base nL own cc rm) (r j : Nat) {i v : Int} (hd : decode cc pc = .ok (.iastore, 1)) (hr : r < 28 ∧ mIs r = true ∧ (mK r).1 = 1) (hi : i = (j : Int)) (hj : j < (mK r).2) (k : gVM x D base nL mo ad gh0 (pc + 1) lv (st) (z) (gup F r (gup (F r) j v))) : gVM x D base nL mo ad gh0 (pc) lv (vi v :: vi i :: .ref (ad r) :: st) (z) (F) := fun gh h1 h2 => by
  have h := h1.2.1 r hr.1 hr.2.1
  have h' := h
  rw [hr.2.2] at h
  refine g_iastK hC j hd h hi hj (mK_lt r) ?_
  rw [show gI 1 (mK r).2 (gup (F r) j v) = gI (mK r).1 (mK r).2 (gup (F r) j v) by rw [hr.2.2]]
  exact k _ (h1.putA hr.1 hr.2.1) (fun q a b => by rw [gset_ne (b r hr.1 hr.2.1)]; exact h2 q a b)
theorem m_cast (hC : gK x l D base nL own cc rm) (r j : Nat) {i v : Int} (hd : decode cc pc = .ok (.castore, 1)) (hr : r < 28 ∧ mIs r = true ∧ (mK r).1 = 0) (hi : i = (j : Int)) (hj : j < (mK r).2) (hz : 0 ≤ v ∧ v < 65536) (k : gVM x D base nL mo ad gh0 (pc + 1) lv (st) (z) (gup F r (gup (F r) j v))) : gVM x D base nL mo ad gh0 (pc) lv (vi v :: vi i :: .ref (ad r) :: st) (z) (F) := fun gh h1 h2 => by
  have h := h1.2.1 r hr.1 hr.2.1
  have h' := h
  rw [hr.2.2] at h
  refine g_castK hC j hd h hi hj (mK_lt r) hz ?_
  rw [show gI 0 (mK r).2 (gup (F r) j v) = gI (mK r).1 (mK r).2 (gup (F r) j v) by rw [hr.2.2]]
  exact k _ (h1.putA hr.1 hr.2.1) (fun q a b => by rw [gset_ne (b r hr.1 hr.2.1)]; exact h2 q a b)
section
variable {idx nL' n f loc : Nat} {y : MethodName} {c' : ByteArray} {ret : Option FieldType} {As rest : List Value}
theorem m_callV (hC : gK x l D base nL own cc rm) {post : Option Value → (Nat → Int) → (Nat → Nat → Int) → Prop} (hM : mM l D base y c' nL' ret f loc mo ad As z F post) (hw : gCv own idx y c' nL' ret n) (hn : As.length = n) (hy : y.cls = RX7)
    (hR' : f + 1 ≤ rm.frames ∧ 8 + (nL' + 11) + loc ≤ rm.locals) (hrest : (rest.map fun v => v.category).sum ≤ 8) (hs : st = As.reverse ++ .ref mo :: rest) (hd : decode cc pc = .ok (.invokevirtual idx, 3))
    (kk : ∀ (r : Option Value) (z' : Nat → Int) (F' : Nat → Nat → Int), post r z' F' → gVM x D base nL mo ad gh0 (pc + 3) lv (r.toList ++ rest) z' F') : gVM x D base nL mo ad gh0 pc lv st z F := fun gh h1 h2 =>
  g_callV hC (hM gh h1) hw hn h1.1 (by rw [hy]; rfl) hR' ⟨Nat.zero_le _, Nat.zero_le _⟩ hrest hs hd (fun r gh' ⟨z', F', hp, h3, h4⟩ => kk r z' F' hp gh' h3 (h2.tr h4))
/-- a call of a function that looks at no cell -/
theorem m_callS (hC : gK x l D base nL own cc rm) {post : Option Value → Prop} (hM : ∀ gh : gH, gM l D base y c' nL' ret f loc 0 0 As gh (fun r gh' => post r ∧ gh' = gh) gNo) (hw : gCs own idx y c' nL' ret n) (hn : As.length = n)
    (hR' : f + 1 ≤ rm.frames ∧ 8 + (nL' + 11) + loc ≤ rm.locals) (hrest : (rest.map fun v => v.category).sum ≤ 8) (hs : st = As.reverse ++ rest) (hd : decode cc pc = .ok (.invokestatic idx, 3))
    (kk : ∀ (r : Option Value), post r → gVM x D base nL mo ad gh0 (pc + 3) lv (r.toList ++ rest) z F) : gVM x D base nL mo ad gh0 pc lv st z F := fun gh h1 h2 =>
  g_callS hC (hM gh) hw hn hR' ⟨Nat.zero_le _, Nat.zero_le _⟩ hrest hs hd (fun r gh' ⟨hp, e⟩ => by subst e; exact kk r hp gh' h1 h2)
end
variable {post : Option Value → (Nat → Int) → (Nat → Nat → Int) → Prop} {nm : String}
theorem m_iret (hC : gK x l D base nL own cc rm) (hq : gEnd x D base (fun r gh' => ∃ z' F', post r z' F' ∧ mRep mo ad z' F' gh' ∧ mFr mo ad gh0 gh') gNo 0 0 (some .int) nm) {v : Int32} (hd : decode cc pc = .ok (.ireturn, 1)) (hp : post (some (.int v)) z F) : gVM x D base nL mo ad gh0 pc lv [.int v] z F := fun gh h1 h2 => g_iret hC hq hd (Nat.le_refl _) (Nat.le_refl _) ⟨z, F, hp, h1, h2⟩
theorem m_bret (hC : gK x l D base nL own cc rm) (hq : gEnd x D base (fun r gh' => ∃ z' F', post r z' F' ∧ mRep mo ad z' F' gh' ∧ mFr mo ad gh0 gh') gNo 0 0 (some .boolean) nm) {b : Bool} (hd : decode cc pc = .ok (.ireturn, 1)) (hp : post (some (vi (b2i b))) z F) : gVM x D base nL mo ad gh0 pc lv [vi (b2i b)] z F := fun gh h1 h2 => g_bret hC hq hd (Nat.le_refl _) (Nat.le_refl _) ⟨z, F, hp, h1, h2⟩
theorem m_cret (hC : gK x l D base nL own cc rm) (hq : gEnd x D base (fun r gh' => ∃ z' F', post r z' F' ∧ mRep mo ad z' F' gh' ∧ mFr mo ad gh0 gh') gNo 0 0 (some .char) nm) {v : Int} (hv : 0 ≤ v ∧ v < 65536) (hd : decode cc pc = .ok (.ireturn, 1)) (hp : post (some (vi v)) z F) : gVM x D base nL mo ad gh0 pc lv [vi v] z F := fun gh h1 h2 => g_cret hC hq hv hd (Nat.le_refl _) (Nat.le_refl _) ⟨z, F, hp, h1, h2⟩
theorem m_vret (hC : gK x l D base nL own cc rm) (hq : gEnd x D base (fun r gh' => ∃ z' F', post r z' F' ∧ mRep mo ad z' F' gh' ∧ mFr mo ad gh0 gh') gNo 0 0 none nm) (hd : decode cc pc = .ok (.return_, 1)) (hp : post none z F) : gVM x D base nL mo ad gh0 pc lv [] z F := fun gh h1 h2 => g_vret hC hq hd (Nat.le_refl _) (Nat.le_refl _) ⟨z, F, hp, h1, h2⟩
end GVM
end
section
/-! the reference: its small methods -/
section M1
theorem b2i_t {p : Bool} (h : p = true) : (1 : Int) = b2i p := by rw [h]; rfl
theorem b2i_f {p : Bool} (h : p = false) : (0 : Int) = b2i p := by rw [h]; rfl
def goesN (a b c : Bool) : Int := if a = true then (if b = true then (if c = true then 0 else 3) else 2) else 1
def inB (v lo hi : Int) : Bool := decide (lo ≤ v ∧ v ≤ hi)
set_option maxHeartbeats 4000000 in
set_option maxRecDepth 100000 in
theorem kX7_in {l : Launch} (hl : l.stackTraces = false) {D : gD} {base : Nat} (v lo hi : Int) (rv : -2147483648 ≤ v ∧ v < 2147483648) (rlo : -2147483648 ≤ lo ∧ lo < 2147483648) (rhi : -2147483648 ≤ hi ∧ hi < 2147483648) (gh : gH)  : gM l D base yX7_in cX7_in 3 (some Jvm.ClassFile.FieldType.boolean) 0 0 0 0 [vi (v), vi (lo), vi (hi)] gh (fun r gh' => r = some (vi (b2i (inB v lo hi))) ∧ gh' = gh) gNo := by
  refine gM.of hl (by decide) (by simp [Value.category]) (Nat.le_of_ble_eq_true rfl) [some (vi (v)), some (vi (lo)), some (vi (hi))] rfl (fun x hC hq => ?_)
  refine g_iload_n hC dX7_in_0 rfl ?_
  refine g_iload_n hC dX7_in_1 rfl ?_
  refine g_icmp_lt (tgt := 14) hC dX7_in_2 (by decide) (by omega) (by omega) (fun c_2 => ?_) (fun c_2 => ?_)
  · refine g_iconst hC dX7_in_14 rfl ?_
    refine g_top (b := b2i (inB v lo hi)) (b2i_f (decide_eq_false (by omega))) ?_
    exact g_bret hC hq dX7_in_15 (by decide) (by decide) ⟨rfl, rfl⟩
  · refine g_iload_n hC dX7_in_5 rfl ?_
    refine g_iload_n hC dX7_in_6 rfl ?_
    refine g_icmp_gt (tgt := 14) hC dX7_in_7 (by decide) (by omega) (by omega) (fun c_7 => ?_) (fun c_7 => ?_)
    · refine g_iconst hC dX7_in_14 rfl ?_
      refine g_top (b := b2i (inB v lo hi)) (b2i_f (decide_eq_false (by omega))) ?_
      exact g_bret hC hq dX7_in_15 (by decide) (by decide) ⟨rfl, rfl⟩
    · refine g_iconst hC dX7_in_10 rfl ?_
      refine g_goto (tgt := 15) hC dX7_in_11 (by decide) ?_
      refine g_top (b := b2i (inB v lo hi)) (b2i_t (decide_eq_true (by omega))) ?_
      exact g_bret hC hq dX7_in_15 (by decide) (by decide) ⟨rfl, rfl⟩

def rowAtN (row w : Int) : Int := if w = 2 then row + 1 else if w = 3 then row - 1 else row
def colAtN (col w n : Int) : Int := if w = 0 then col + 1 else if w = 1 then col - n else col - n / 2
set_option maxHeartbeats 4000000 in
set_option maxRecDepth 100000 in
theorem kX7_rowAt {l : Launch} (hl : l.stackTraces = false) {D : gD} {base : Nat} (row w : Int) (rrow : -2147483648 ≤ row ∧ row < 2147483648) (rw : -2147483648 ≤ w ∧ w < 2147483648) (gh : gH)  : gM l D base yX7_rowAt cX7_rowAt 2 (some Jvm.ClassFile.FieldType.int) 0 0 0 0 [vi (row), vi (w)] gh (fun r gh' => r = some (vi (rowAtN row w)) ∧ gh' = gh) gNo := by
  refine gM.of hl (by decide) (by simp [Value.category]) (Nat.le_of_ble_eq_true rfl) [some (vi (row)), some (vi (w))] rfl (fun x hC hq => ?_)
  refine g_iload_n hC dX7_rowAt_0 rfl ?_
  refine g_iconst hC dX7_rowAt_1 rfl ?_
  refine g_icmp_ne (tgt := 11) hC dX7_rowAt_2 (by decide) (by omega) (by omega) (fun c_2 => ?_) (fun c_2 => ?_)
  · refine g_iload_n hC dX7_rowAt_11 rfl ?_
    refine g_iconst hC dX7_rowAt_12 rfl ?_
    refine g_icmp_ne (tgt := 22) hC dX7_rowAt_13 (by decide) (by omega) (by omega) (fun c_13 => ?_) (fun c_13 => ?_)
    · refine g_iload_n hC dX7_rowAt_22 rfl ?_
      refine g_top (b := rowAtN row w) (by unfold rowAtN; simp only [*]; first | rfl | omega) ?_
      exact g_iret hC hq dX7_rowAt_23 (by decide) (by decide) ⟨rfl, rfl⟩
    · refine g_iload_n hC dX7_rowAt_16 rfl ?_
      refine g_iconst hC dX7_rowAt_17 rfl ?_
      refine g_isub hC dX7_rowAt_18 ?_
      refine g_goto (tgt := 23) hC dX7_rowAt_19 (by decide) ?_
      refine g_top (b := rowAtN row w) (by unfold rowAtN; simp only [*]; first | rfl | omega) ?_
      exact g_iret hC hq dX7_rowAt_23 (by decide) (by decide) ⟨rfl, rfl⟩
  · refine g_iload_n hC dX7_rowAt_5 rfl ?_
    refine g_iconst hC dX7_rowAt_6 rfl ?_
    refine g_iadd hC dX7_rowAt_7 ?_
    refine g_goto (tgt := 23) hC dX7_rowAt_8 (by decide) ?_
    refine g_top (b := rowAtN row w) (by unfold rowAtN; simp only [*]; first | rfl | omega) ?_
    exact g_iret hC hq dX7_rowAt_23 (by decide) (by decide) ⟨rfl, rfl⟩

set_option maxHeartbeats 4000000 in
set_option maxRecDepth 100000 in
theorem kX7_columnAt {l : Launch} (hl : l.stackTraces = false) {D : gD} {base : Nat} (col w n : Int) (rcol : -2147483648 ≤ col ∧ col < 2147483648) (rw : -2147483648 ≤ w ∧ w < 2147483648) (rn : 0 ≤ n ∧ n < 2147483648) (gh : gH)  : gM l D base yX7_columnAt cX7_columnAt 3 (some Jvm.ClassFile.FieldType.int) 0 0 0 0 [vi (col), vi (w), vi (n)] gh (fun r gh' => r = some (vi (colAtN col w n)) ∧ gh' = gh) gNo := by
  refine gM.of hl (by decide) (by simp [Value.category]) (Nat.le_of_ble_eq_true rfl) [some (vi (col)), some (vi (w)), some (vi (n))] rfl (fun x hC hq => ?_)
  refine g_iload_n hC dX7_columnAt_0 rfl ?_
  refine g_if_ne (tgt := 10) hC dX7_columnAt_1 (by decide) (by omega) (fun c_1 => ?_) (fun c_1 => ?_)
  · refine g_iload_n hC dX7_columnAt_10 rfl ?_
    refine g_iconst hC dX7_columnAt_11 rfl ?_
    refine g_icmp_ne (tgt := 21) hC dX7_columnAt_12 (by decide) (by omega) (by omega) (fun c_12 => ?_) (fun c_12 => ?_)
    · refine g_iload_n hC dX7_columnAt_21 rfl ?_
      refine g_iload_n hC dX7_columnAt_22 rfl ?_
      refine g_iconst hC dX7_columnAt_23 rfl ?_
      refine g_idiv hC dX7_columnAt_24 (by omega) (by omega) ?_
      refine g_isub hC dX7_columnAt_25 ?_
      refine g_top (b := colAtN col w n) (by unfold colAtN; simp only [*]; first | rfl | omega) ?_
      exact g_iret hC hq dX7_columnAt_26 (by decide) (by decide) ⟨rfl, rfl⟩
    · refine g_iload_n hC dX7_columnAt_15 rfl ?_
      refine g_iload_n hC dX7_columnAt_16 rfl ?_
      refine g_isub hC dX7_columnAt_17 ?_
      refine g_goto (tgt := 26) hC dX7_columnAt_18 (by decide) ?_
      refine g_top (b := colAtN col w n) (by unfold colAtN; simp only [*]; first | rfl | omega) ?_
      exact g_iret hC hq dX7_columnAt_26 (by decide) (by decide) ⟨rfl, rfl⟩
  · refine g_iload_n hC dX7_columnAt_4 rfl ?_
    refine g_iconst hC dX7_columnAt_5 rfl ?_
    refine g_iadd hC dX7_columnAt_6 ?_
    refine g_goto (tgt := 26) hC dX7_columnAt_7 (by decide) ?_
    refine g_top (b := colAtN col w n) (by unfold colAtN; simp only [*]; first | rfl | omega) ?_
    exact g_iret hC hq dX7_columnAt_26 (by decide) (by decide) ⟨rfl, rfl⟩

set_option maxHeartbeats 4000000 in
set_option maxRecDepth 100000 in
theorem kX7_thrown {l : Launch} (hl : l.stackTraces = false) {D : gD} {base mo : Nat} {ad : Nat → Nat} {z : Nat → Int} {F : Nat → Nat → Int}  : mM l D base yX7_thrown cX7_thrown 1 (some Jvm.ClassFile.FieldType.int) 0 0 mo ad [] z F (fun r z' F' => r = some (vi (z 27)) ∧ z' = z ∧ F' = F) := by
  refine mM.of hl (by decide) (by simp [Value.category]) (Nat.le_of_ble_eq_true rfl) [some (.ref mo)] rfl (fun gh x hC hq => ?_)
  refine m_ald_n hC dX7_thrown_0 rfl ?_
  refine m_getI hC 27 dX7_thrown_1 gf_RX7_74 ⟨by decide, rfl⟩ ?_
  exact m_iret hC hq dX7_thrown_4 ⟨rfl, rfl, rfl⟩

set_option maxHeartbeats 4000000 in
set_option maxRecDepth 100000 in
theorem kX7_goes {l : Launch} (hl : l.stackTraces = false) {D : gD} {base mo : Nat} {ad : Nat → Nat} {z : Nat → Int} {F : Nat → Nat → Int} (a b c : Bool) : mM l D base yX7_goes cX7_goes 4 (some Jvm.ClassFile.FieldType.boolean) 0 0 mo ad [vi (b2i (a)), vi (b2i (b)), vi (b2i (c))] z F (fun r z' F' => r = some (vi (b2i (a && b && c))) ∧ z' = gup z 27 (goesN a b c) ∧ F' = F) := by
  refine mM.of hl (by decide) (by simp [Value.category]) (Nat.le_of_ble_eq_true rfl) [some (.ref mo), some (vi (b2i (a))), some (vi (b2i (b))), some (vi (b2i (c)))] rfl (fun gh x hC hq => ?_)
  refine m_ald_n hC dX7_goes_0 rfl ?_
  refine m_iload_n hC dX7_goes_1 rfl ?_
  refine m_ifne_b (tgt := 9) hC dX7_goes_2 (by decide)  (fun c_2 => ?_) (fun c_2 => ?_)
  · refine m_iload_n hC dX7_goes_9 rfl ?_
    refine m_ifne_b (tgt := 17) hC dX7_goes_10 (by decide)  (fun c_10 => ?_) (fun c_10 => ?_)
    · refine m_iload_n hC dX7_goes_17 rfl ?_
      refine m_ifne_b (tgt := 25) hC dX7_goes_18 (by decide)  (fun c_18 => ?_) (fun c_18 => ?_)
      · refine m_iconst hC dX7_goes_25 rfl ?_
        refine m_putI hC 27 dX7_goes_26 gp_RX7_74 ⟨by decide, rfl⟩ ?_
        refine m_ald_n hC dX7_goes_29 rfl ?_
        refine m_getI hC 27 dX7_goes_30 gf_RX7_74 ⟨by decide, rfl⟩ ?_
        refine m_top (b := 0) rfl ?_
        refine m_if_ne (tgt := 40) hC dX7_goes_33 (by decide) (by omega) (fun c_33 => False.elim (by omega)) (fun c_33 => ?_)
        refine m_iconst hC dX7_goes_36 rfl ?_
        refine m_goto (tgt := 41) hC dX7_goes_37 (by decide) ?_
        refine m_top (b := b2i (a && b && c)) (by simp only [c_2, c_10, c_18]; rfl) ?_
        exact m_bret hC hq dX7_goes_41 ⟨rfl, by simp only [c_2, c_10, c_18]; rfl, rfl⟩
      · refine m_iconst hC dX7_goes_21 rfl ?_
        refine m_goto (tgt := 26) hC dX7_goes_22 (by decide) ?_
        refine m_putI hC 27 dX7_goes_26 gp_RX7_74 ⟨by decide, rfl⟩ ?_
        refine m_ald_n hC dX7_goes_29 rfl ?_
        refine m_getI hC 27 dX7_goes_30 gf_RX7_74 ⟨by decide, rfl⟩ ?_
        refine m_top (b := 3) rfl ?_
        refine m_if_ne (tgt := 40) hC dX7_goes_33 (by decide) (by omega) (fun c_33 => ?_) (fun c_33 => False.elim (by omega))
        refine m_iconst hC dX7_goes_40 rfl ?_
        refine m_top (b := b2i (a && b && c)) (by simp only [c_2, c_10, c_18]; rfl) ?_
        exact m_bret hC hq dX7_goes_41 ⟨rfl, by simp only [c_2, c_10, c_18]; rfl, rfl⟩
    · refine m_iconst hC dX7_goes_13 rfl ?_
      refine m_goto (tgt := 26) hC dX7_goes_14 (by decide) ?_
      refine m_putI hC 27 dX7_goes_26 gp_RX7_74 ⟨by decide, rfl⟩ ?_
      refine m_ald_n hC dX7_goes_29 rfl ?_
      refine m_getI hC 27 dX7_goes_30 gf_RX7_74 ⟨by decide, rfl⟩ ?_
      refine m_top (b := 2) rfl ?_
      refine m_if_ne (tgt := 40) hC dX7_goes_33 (by decide) (by omega) (fun c_33 => ?_) (fun c_33 => False.elim (by omega))
      refine m_iconst hC dX7_goes_40 rfl ?_
      refine m_top (b := b2i (a && b && c)) (by simp only [c_2, c_10]; rfl) ?_
      exact m_bret hC hq dX7_goes_41 ⟨rfl, by simp only [c_2, c_10]; rfl, rfl⟩
  · refine m_iconst hC dX7_goes_5 rfl ?_
    refine m_goto (tgt := 26) hC dX7_goes_6 (by decide) ?_
    refine m_putI hC 27 dX7_goes_26 gp_RX7_74 ⟨by decide, rfl⟩ ?_
    refine m_ald_n hC dX7_goes_29 rfl ?_
    refine m_getI hC 27 dX7_goes_30 gf_RX7_74 ⟨by decide, rfl⟩ ?_
    refine m_top (b := 1) rfl ?_
    refine m_if_ne (tgt := 40) hC dX7_goes_33 (by decide) (by omega) (fun c_33 => ?_) (fun c_33 => False.elim (by omega))
    refine m_iconst hC dX7_goes_40 rfl ?_
    refine m_top (b := b2i (a && b && c)) (by simp only [c_2]; rfl) ?_
    exact m_bret hC hq dX7_goes_41 ⟨rfl, by simp only [c_2]; rfl, rfl⟩

end M1
end
section
/-! the reference: names, places, sheets as its rows hold them -/
section M2
theorem g_cut {A B : Prop} (h1 : A) (h2 : A → B) : B := h2 h1
theorem lcons {α : Type} {a b : α} {l m : List α} (h1 : a = b) (h2 : l = m) : a :: l = b :: m := by rw [h1, h2]
theorem svi {a b : Int} (h : a = b) : some (vi a) = some (vi b) := by rw [h]
/-- what always holds of the reference's rows -/
def mI (z : Nat → Int) (F : Nat → Nat → Int) : Prop :=
  (0 ≤ z 0 ∧ z 0 ≤ 10000) ∧ (0 ≤ z 1 ∧ z 1 ≤ 8) ∧ (0 ≤ z 3 ∧ z 3 ≤ 14) ∧ (0 ≤ z 11 ∧ z 11 ≤ 4) ∧ (0 ≤ z 22 ∧ z 22 ≤ 5) ∧
  (∀ t : Nat, (t : Int) < z 1 → 97 ≤ F 2 t ∧ F 2 t ≤ 122) ∧
  (∀ i : Nat, (i : Int) < z 3 → -180 ≤ F 4 i ∧ F 4 i ≤ 179 ∧ -60 ≤ F 5 i ∧ F 5 i ≤ 60 ∧ 1 ≤ F 6 i ∧ F 6 i ≤ 5) ∧
  (∀ i : Nat, i < 14 → 0 ≤ F 7 i ∧ F 7 i ≤ 6 ∧ (z 3 ≤ (i : Int) → F 7 i = 0)) ∧
  (∀ i j : Nat, i < 14 → (j : Int) < F 7 i → 0 ≤ F 8 (6 * i + j) ∧ F 8 (6 * i + j) ≤ z 0 ∧ 1 ≤ F 9 (6 * i + j) ∧ F 9 (6 * i + j) ≤ 8 ∧ ∀ t : Nat, (t : Int) < F 9 (6 * i + j) → 97 ≤ F 10 (8 * (6 * i + j) + t) ∧ F 10 (8 * (6 * i + j) + t) ≤ 122) ∧
  (∀ k : Nat, (k : Int) < z 11 → -180 ≤ F 12 k ∧ F 12 k ≤ 150 ∧ -60 ≤ F 13 k ∧ F 13 k ≤ 41 ∧ (F 14 k = 0 ∨ F 14 k = 1))
def nmR (F : Nat → Nat → Int) (on : Int) (i : Nat) : Nat → Int
  | 0 => -1
  | n + 1 => if F 8 (6 * i + n) ≤ on then 6 * (i : Int) + n else nmR F on i n
theorem nmR_s (F : Nat → Nat → Int) (on : Int) (i n : Nat) : nmR F on i (n + 1) = if F 8 (6 * i + n) ≤ on then 6 * (i : Int) + n else nmR F on i n := rfl
/-- the name of the place i on a day: its place in the rows; -1 if there is none -/
def nmOf (F : Nat → Nat → Int) (on : Int) (i : Nat) : Int := nmR F on i (F 7 i).toNat
theorem nmR_rng {F : Nat → Nat → Int} {on : Int} {i : Nat} : ∀ n : Nat, nmR F on i n = -1 ∨ ∃ j : Nat, j < n ∧ nmR F on i n = 6 * (i : Int) + j
  | 0 => Or.inl rfl
  | n + 1 => by
    unfold nmR
    split
    · exact Or.inr ⟨n, by omega, rfl⟩
    · rcases nmR_rng (F := F) (on := on) (i := i) n with h | ⟨j, h1, h2⟩
      · exact Or.inl h
      · exact Or.inr ⟨j, by omega, h2⟩
def qOn (F : Nat → Nat → Int) (s i : Nat) : Bool := inB (F 4 i - F 12 s) 0 29 && inB (F 5 i - F 13 s) 0 19
def qRow (F : Nat → Nat → Int) (s i : Nat) : Int := 24 * (F 5 i - F 13 s) / 20
def fU (b : Int) : UInt32 := FP.fsub FP.fconst1 (FP.fmul 1017370378 (FP.i2f (iI b)))
def fV (a b : Int) : UInt32 := FP.fmul (FP.fdiv (FP.fmul (FP.i2f (iI (a - 15))) 1082130432) 1077936128) (fU b)
def fC (a b : Int) : UInt32 := FP.fadd 1101004800 (fV a b)
def cone (a b : Int) : Int := (FP.f2i (fC a b)).toInt
def qCol (F : Nat → Nat → Int) (s i : Nat) : Int := if F 14 s = 0 then 40 * (F 4 i - F 12 s) / 30 else cone (F 4 i - F 12 s) (F 5 i - F 13 s)

set_option maxHeartbeats 4000000 in
set_option maxRecDepth 100000 in
theorem kX7_isPlace {l : Launch} (hl : l.stackTraces = false) {D : gD} {base mo : Nat} {ad : Nat → Nat} {z : Nat → Int} {F : Nat → Nat → Int} (hI : mI z F) (i : Int) (ri : -2147483648 ≤ i ∧ i < 2147483648) : mM l D base yX7_isPlace cX7_isPlace 2 (some Jvm.ClassFile.FieldType.boolean) 1 22 mo ad [vi (i)] z F (fun r z' F' => r = some (vi (b2i (inB i 0 (z 3 - 1)))) ∧ z' = z ∧ F' = F) := by
  obtain ⟨i0, i1, i3, i11, i22, iw, ip, inn, inm, ish⟩ := id hI
  refine mM.of hl (by decide) (by simp [Value.category]) (Nat.le_of_ble_eq_true rfl) [some (.ref mo), some (vi (i))] rfl (fun gh x hC hq => ?_)
  refine m_iload_n hC dX7_isPlace_0 rfl ?_
  refine m_iconst hC dX7_isPlace_1 rfl ?_
  refine m_ald_n hC dX7_isPlace_2 rfl ?_
  refine m_getI hC 3 dX7_isPlace_3 gf_RX7_78 ⟨by decide, rfl⟩ ?_
  refine m_iconst hC dX7_isPlace_6 rfl ?_
  refine m_isub hC dX7_isPlace_7 ?_
  refine m_callS (rest := []) hC (fun gh => kX7_in hl i 0 (z 3 - 1) (by omega) (by omega) (by omega) gh) gc_RX7_81 rfl ⟨by decide, by decide⟩ (Nat.le_of_ble_eq_true rfl) rfl dX7_isPlace_8 (fun r hp => ?_)
  subst hp
  exact m_bret hC hq dX7_isPlace_11 ⟨rfl, rfl, rfl⟩

set_option maxHeartbeats 4000000 in
set_option maxRecDepth 100000 in
theorem kX7_isSheet {l : Launch} (hl : l.stackTraces = false) {D : gD} {base mo : Nat} {ad : Nat → Nat} {z : Nat → Int} {F : Nat → Nat → Int} (hI : mI z F) (i : Int) (ri : -2147483648 ≤ i ∧ i < 2147483648) : mM l D base yX7_isSheet cX7_isSheet 2 (some Jvm.ClassFile.FieldType.boolean) 1 22 mo ad [vi (i)] z F (fun r z' F' => r = some (vi (b2i (inB i 0 (z 11 - 1)))) ∧ z' = z ∧ F' = F) := by
  obtain ⟨i0, i1, i3, i11, i22, iw, ip, inn, inm, ish⟩ := id hI
  refine mM.of hl (by decide) (by simp [Value.category]) (Nat.le_of_ble_eq_true rfl) [some (.ref mo), some (vi (i))] rfl (fun gh x hC hq => ?_)
  refine m_iload_n hC dX7_isSheet_0 rfl ?_
  refine m_iconst hC dX7_isSheet_1 rfl ?_
  refine m_ald_n hC dX7_isSheet_2 rfl ?_
  refine m_getI hC 11 dX7_isSheet_3 gf_RX7_85 ⟨by decide, rfl⟩ ?_
  refine m_iconst hC dX7_isSheet_6 rfl ?_
  refine m_isub hC dX7_isSheet_7 ?_
  refine m_callS (rest := []) hC (fun gh => kX7_in hl i 0 (z 11 - 1) (by omega) (by omega) (by omega) gh) gc_RX7_81 rfl ⟨by decide, by decide⟩ (Nat.le_of_ble_eq_true rfl) rfl dX7_isSheet_8 (fun r hp => ?_)
  subst hp
  exact m_bret hC hq dX7_isSheet_11 ⟨rfl, rfl, rfl⟩

set_option maxHeartbeats 4000000 in
set_option maxRecDepth 100000 in
theorem kX7_isCell {l : Launch} (hl : l.stackTraces = false) {D : gD} {base : Nat} (r c : Int) (rr : -2147483648 ≤ r ∧ r < 2147483648) (rc : -2147483648 ≤ c ∧ c < 2147483648) (gh : gH)  : gM l D base yX7_isCell cX7_isCell 2 (some Jvm.ClassFile.FieldType.boolean) 1 22 0 0 [vi (r), vi (c)] gh (fun rr' gh' => rr' = some (vi (b2i (inB r 0 23 && inB c 0 39))) ∧ gh' = gh) gNo := by
  refine gM.of hl (by decide) (by simp [Value.category]) (Nat.le_of_ble_eq_true rfl) [some (vi (r)), some (vi (c))] rfl (fun x hC hq => ?_)
  refine g_iload_n hC dX7_isCell_0 rfl ?_
  refine g_iconst hC dX7_isCell_1 rfl ?_
  refine g_bipush (z := 23) hC dX7_isCell_2 rfl ?_
  refine g_callS (rest := []) hC (kX7_in hl r 0 23 rr (by omega) (by omega) gh) gc_RX7_81 rfl ⟨by decide, by decide⟩ ⟨by decide, by decide⟩ (Nat.le_of_ble_eq_true rfl) rfl dX7_isCell_4 (fun r gh' hp => ?_)
  obtain ⟨rfl, hgh⟩ := hp
  rw [hgh]
  refine g_ifeq_b (tgt := 24) hC dX7_isCell_7 (by decide)  (fun c_7 => ?_) (fun c_7 => ?_)
  · refine g_iconst hC dX7_isCell_24 rfl ?_
    refine g_top (b := b2i (inB r 0 23 && inB c 0 39)) (b2i_f (by simp [c_7])) ?_
    exact g_bret hC hq dX7_isCell_25 (by decide) (by decide) ⟨rfl, rfl⟩
  · refine g_iload_n hC dX7_isCell_10 rfl ?_
    refine g_iconst hC dX7_isCell_11 rfl ?_
    refine g_bipush (z := 39) hC dX7_isCell_12 rfl ?_
    refine g_callS (rest := []) hC (kX7_in hl c 0 39 rc (by omega) (by omega) gh) gc_RX7_81 rfl ⟨by decide, by decide⟩ ⟨by decide, by decide⟩ (Nat.le_of_ble_eq_true rfl) rfl dX7_isCell_14 (fun r gh' hp => ?_)
    obtain ⟨rfl, hgh⟩ := hp
    rw [hgh]
    refine g_ifeq_b (tgt := 24) hC dX7_isCell_17 (by decide)  (fun c_17 => ?_) (fun c_17 => ?_)
    · refine g_iconst hC dX7_isCell_24 rfl ?_
      refine g_top (b := b2i (inB r 0 23 && inB c 0 39)) (b2i_f (by simp [c_7, c_17])) ?_
      exact g_bret hC hq dX7_isCell_25 (by decide) (by decide) ⟨rfl, rfl⟩
    · refine g_iconst hC dX7_isCell_20 rfl ?_
      refine g_goto (tgt := 25) hC dX7_isCell_21 (by decide) ?_
      refine g_top (b := b2i (inB r 0 23 && inB c 0 39)) (b2i_t (by simp [c_7, c_17])) ?_
      exact g_bret hC hq dX7_isCell_25 (by decide) (by decide) ⟨rfl, rfl⟩

set_option maxHeartbeats 4000000 in
set_option maxRecDepth 100000 in
theorem kX7_nameOn {l : Launch} (hl : l.stackTraces = false) {D : gD} {base mo : Nat} {ad : Nat → Nat} {z : Nat → Int} {F : Nat → Nat → Int} (hI : mI z F) (i : Nat) (hi : i < 14) (on : Int) (ron : -2147483648 ≤ on ∧ on < 2147483648) : mM l D base yX7_nameOn cX7_nameOn 5 (some Jvm.ClassFile.FieldType.int) 0 0 mo ad [vi ((i : Int)), vi (on)] z F (fun r z' F' => r = some (vi (nmOf F on i)) ∧ z' = z ∧ F' = F) := by
  obtain ⟨i0, i1, i3, i11, i22, iw, ip, inn, inm, ish⟩ := id hI
  have inni := inn i hi
  refine mM.of hl (by decide) (by simp [Value.category]) (Nat.le_of_ble_eq_true rfl) [some (.ref mo), some (vi ((i : Int))), some (vi (on)), none, none] rfl (fun gh x hC hq => ?_)
  refine m_iconst hC dX7_nameOn_0 rfl ?_
  refine m_istore_n (lv' := [some (.ref mo), some (vi ((i : Int))), some (vi (on)), some (vi ((-1))), none]) hC dX7_nameOn_1 (by decide) rfl ?_
  refine m_bipush (v := 6) hC dX7_nameOn_2 rfl ?_
  refine m_iload_n hC dX7_nameOn_4 rfl ?_
  refine m_imul hC dX7_nameOn_5 ?_
  refine m_istore (lv' := [some (.ref mo), some (vi ((i : Int))), some (vi (on)), some (vi ((-1))), some (vi ((6) * ((i : Int))))]) hC dX7_nameOn_6 (by decide) rfl ?_
  have lp : ∀ n : Nat, n ≤ (F 7 i).toNat → gVM x D base 5 mo ad gh 8 [some (.ref mo), some (vi ((i : Int))), some (vi (on)), some (vi (nmR F on i n)), some (vi (6 * (i : Int) + (n : Nat)))] [] (z) (F) := by
    refine g_for _ (fun n hn ih => ?_) ?_
    · have hr := nmR_rng (F := F) (on := on) (i := i) n
      have hs := inm i n hi (by omega)
      refine m_iload hC dX7_nameOn_8 rfl ?_
      refine m_bipush (v := 6) hC dX7_nameOn_10 rfl ?_
      refine m_iload_n hC dX7_nameOn_12 rfl ?_
      refine m_imul hC dX7_nameOn_13 ?_
      refine m_ald_n hC dX7_nameOn_14 rfl ?_
      refine m_getA hC 7 dX7_nameOn_15 gf_RX7_23 ⟨by decide, rfl⟩ ?_
      refine m_iload_n hC dX7_nameOn_18 rfl ?_
      refine m_iald hC 7 (i) dX7_nameOn_19 ⟨by decide, rfl, rfl⟩ (by omega) (by simp only [mK]; omega) ?_
      refine m_iadd hC dX7_nameOn_20 ?_
      refine m_icmp_ge (tgt := 48) hC dX7_nameOn_21 (by decide) (by omega) (by omega) (fun c_21 => False.elim (by omega)) (fun c_21 => ?_)
      refine m_ald_n hC dX7_nameOn_24 rfl ?_
      refine m_getA hC 8 dX7_nameOn_25 gf_RX7_26 ⟨by decide, rfl⟩ ?_
      refine m_iload hC dX7_nameOn_28 rfl ?_
      refine m_iald hC 8 (6 * i + (n : Nat)) dX7_nameOn_30 ⟨by decide, rfl, rfl⟩ (by omega) (by simp only [mK]; omega) ?_
      refine m_iload_n hC dX7_nameOn_31 rfl ?_
      refine m_icmp_gt (tgt := 40) hC dX7_nameOn_32 (by decide) (by omega) (by omega) (fun c_32 => ?_) (fun c_32 => ?_)
      · refine m_iload_n hC dX7_nameOn_40 rfl ?_
        refine m_istore_n (lv' := [some (.ref mo), some (vi ((i : Int))), some (vi (on)), some (vi (nmR F on i n)), some (vi (6 * (i : Int) + (n : Nat)))]) hC dX7_nameOn_41 (by decide) rfl ?_
        refine m_iinc (lv' := [some (.ref mo), some (vi ((i : Int))), some (vi (on)), some (vi (nmR F on i n)), some (vi (6 * (i : Int) + (n : Nat) + 1))]) hC dX7_nameOn_42 (by decide) rfl rfl ?_
        refine m_goto (tgt := 8) hC dX7_nameOn_45 (by decide) ?_
        refine gVM.eqs (lv' := [some (.ref mo), some (vi ((i : Int))), some (vi (on)), some (vi (nmR F on i (n + 1))), some (vi (6 * (i : Int) + ((n + 1 : Nat) : Int)))]) (lcons rfl (lcons rfl (lcons rfl (lcons (svi (by rw [nmR_s, if_neg (by omega)])) (lcons (svi (by omega)) rfl))))) rfl rfl rfl ih
      · refine m_iload hC dX7_nameOn_35 rfl ?_
        refine m_goto (tgt := 41) hC dX7_nameOn_37 (by decide) ?_
        refine m_istore_n (lv' := [some (.ref mo), some (vi ((i : Int))), some (vi (on)), some (vi (6 * (i : Int) + (n : Nat))), some (vi (6 * (i : Int) + (n : Nat)))]) hC dX7_nameOn_41 (by decide) rfl ?_
        refine m_iinc (lv' := [some (.ref mo), some (vi ((i : Int))), some (vi (on)), some (vi (6 * (i : Int) + (n : Nat))), some (vi (6 * (i : Int) + (n : Nat) + 1))]) hC dX7_nameOn_42 (by decide) rfl rfl ?_
        refine m_goto (tgt := 8) hC dX7_nameOn_45 (by decide) ?_
        refine gVM.eqs (lv' := [some (.ref mo), some (vi ((i : Int))), some (vi (on)), some (vi (nmR F on i (n + 1))), some (vi (6 * (i : Int) + ((n + 1 : Nat) : Int)))]) (lcons rfl (lcons rfl (lcons rfl (lcons (svi (by rw [nmR_s, if_pos (by omega)])) (lcons (svi (by omega)) rfl))))) rfl rfl rfl ih
    · have hr := nmR_rng (F := F) (on := on) (i := i) (F 7 i).toNat
      refine m_iload hC dX7_nameOn_8 rfl ?_
      refine m_bipush (v := 6) hC dX7_nameOn_10 rfl ?_
      refine m_iload_n hC dX7_nameOn_12 rfl ?_
      refine m_imul hC dX7_nameOn_13 ?_
      refine m_ald_n hC dX7_nameOn_14 rfl ?_
      refine m_getA hC 7 dX7_nameOn_15 gf_RX7_23 ⟨by decide, rfl⟩ ?_
      refine m_iload_n hC dX7_nameOn_18 rfl ?_
      refine m_iald hC 7 (i) dX7_nameOn_19 ⟨by decide, rfl, rfl⟩ (by omega) (by simp only [mK]; omega) ?_
      refine m_iadd hC dX7_nameOn_20 ?_
      refine m_icmp_ge (tgt := 48) hC dX7_nameOn_21 (by decide) (by omega) (by omega) (fun c_21 => ?_) (fun c_21 => False.elim (by omega))
      refine m_iload_n hC dX7_nameOn_48 rfl ?_
      exact m_iret hC hq dX7_nameOn_49 ⟨rfl, rfl, rfl⟩
  refine gVM.eqs (lv' := [some (.ref mo), some (vi ((i : Int))), some (vi (on)), some (vi (nmR F on i 0)), some (vi (6 * (i : Int) + (0 : Nat)))]) (lcons rfl (lcons rfl (lcons rfl (lcons (svi (rfl)) (lcons (svi (by omega)) rfl))))) rfl rfl rfl (lp 0 (Nat.zero_le _))

end M2
end
section
/-! the floats of the cone: no NaN for the lengths and breadths of a sheet, the column is on the sheet -/
section FPC
theorem fp_u : ∀ b : Fin 20, (FP.fmul 1017370378 (FP.i2f (iI (b.val : Int)))) &&& 0x7fffffff ≤ 0x7f800000 ∧ (fU (b.val : Int)) &&& 0x7fffffff ≤ 0x7f800000 := by decide +kernel
theorem fp_v : ∀ a : Fin 30, (FP.fmul (FP.i2f (iI ((a.val : Int) - 15))) 1082130432) &&& 0x7fffffff ≤ 0x7f800000 ∧ (FP.fdiv (FP.fmul (FP.i2f (iI ((a.val : Int) - 15))) 1082130432) 1077936128) &&& 0x7fffffff ≤ 0x7f800000 := by decide +kernel
theorem fp_c : ∀ a : Fin 30, ∀ b : Fin 20, (fV (a.val : Int) (b.val : Int)) &&& 0x7fffffff ≤ 0x7f800000 ∧ (fC (a.val : Int) (b.val : Int)) &&& 0x7fffffff ≤ 0x7f800000 ∧ 0 ≤ cone (a.val : Int) (b.val : Int) ∧ cone (a.val : Int) (b.val : Int) ≤ 39 := by decide +kernel
/-- the class reckons far less 15 as floats -/
theorem fp_a : ∀ a : Fin 30, FP.fsub (FP.i2f (iI (a.val : Int))) 1097859072 = FP.i2f (iI ((a.val : Int) - 15)) := by decide +kernel
theorem fpU {b : Int} (h : 0 ≤ b ∧ b ≤ 19) : vf_n32 (FP.fmul 1017370378 (FP.i2f (iI b))) ∧ vf_n32 (fU b) := by
  have := fp_u ⟨b.toNat, by omega⟩
  rw [show (((⟨b.toNat, by omega⟩ : Fin 20).val : Nat) : Int) = b from by show ((b.toNat : Nat) : Int) = b; omega] at this
  exact this
theorem fpV {a : Int} (h : 0 ≤ a ∧ a ≤ 29) : vf_n32 (FP.fmul (FP.i2f (iI (a - 15))) 1082130432) ∧ vf_n32 (FP.fdiv (FP.fmul (FP.i2f (iI (a - 15))) 1082130432) 1077936128) := by
  have := fp_v ⟨a.toNat, by omega⟩
  rw [show (((⟨a.toNat, by omega⟩ : Fin 30).val : Nat) : Int) = a from by show ((a.toNat : Nat) : Int) = a; omega] at this
  exact this
theorem fpA {a : Int} (h : 0 ≤ a ∧ a ≤ 29) : FP.fsub (FP.i2f (iI a)) 1097859072 = FP.i2f (iI (a - 15)) := by
  have := fp_a ⟨a.toNat, by omega⟩
  rw [show (((⟨a.toNat, by omega⟩ : Fin 30).val : Nat) : Int) = a from by show ((a.toNat : Nat) : Int) = a; omega] at this
  exact this
theorem fpC {a b : Int} (h : 0 ≤ a ∧ a ≤ 29) (h2 : 0 ≤ b ∧ b ≤ 19) : vf_n32 (fV a b) ∧ vf_n32 (fC a b) ∧ 0 ≤ cone a b ∧ cone a b ≤ 39 := by
  have := fp_c ⟨a.toNat, by omega⟩ ⟨b.toNat, by omega⟩
  rw [show (((⟨a.toNat, by omega⟩ : Fin 30).val : Nat) : Int) = a from by show ((a.toNat : Nat) : Int) = a; omega] at this
  rw [show (((⟨b.toNat, by omega⟩ : Fin 20).val : Nat) : Int) = b from by show ((b.toNat : Nat) : Int) = b; omega] at this
  exact this
theorem inB_iff {v lo hi : Int} : inB v lo hi = true ↔ lo ≤ v ∧ v ≤ hi := by unfold inB; exact decide_eq_true_iff
theorem qOn_iff {F : Nat → Nat → Int} {s i : Nat} : qOn F s i = true ↔ (0 ≤ F 4 i - F 12 s ∧ F 4 i - F 12 s ≤ 29) ∧ (0 ≤ F 5 i - F 13 s ∧ F 5 i - F 13 s ≤ 19) := by unfold qOn; rw [Bool.and_eq_true, inB_iff, inB_iff]
theorem qCol_rng {F : Nat → Nat → Int} {s i : Nat} (h : qOn F s i = true) : 0 ≤ qCol F s i ∧ qCol F s i ≤ 39 := by
  obtain ⟨h1, h2⟩ := qOn_iff.mp h
  unfold qCol
  split
  · omega
  · exact ⟨(fpC h1 h2).2.2.1, (fpC h1 h2).2.2.2⟩
theorem qRow_rng {F : Nat → Nat → Int} {s i : Nat} (h : qOn F s i = true) : 0 ≤ qRow F s i ∧ qRow F s i ≤ 23 := by
  obtain ⟨h1, h2⟩ := qOn_iff.mp h
  unfold qRow
  omega
end FPC
end
section
theorem zz_last : True := trivial
end
