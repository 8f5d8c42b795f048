/-! rows with plain references, rows with an index as a natural number; the reference's own layer: its object mo, its int fields z, its rows F -/
section GE
variable {x : gX} {l : Launch} {D : gD} {base nL : Nat} {own : String} {cc : ByteArray} {rm : Room} {pc : Nat} {lv : List (Option Value)} {st : List Value} {gh : gH} {cells slots : Nat}
theorem g_ald_n (hC : gK x l D base nL own cc rm) {i : Fin 4} {a : Nat} (hd : decode cc pc = .ok (.aload_n i, 1)) (hv : lv[(i : Nat)]? = some (some (.ref a))) (k : gV x D base nL (pc + 1) lv (.ref a :: st) gh cells slots) : gV x D base nL pc lv st gh cells slots := g_aload_n (v := some a) hC hd hv k
theorem g_ald (hC : gK x l D base nL own cc rm) {i : Nat} {a : Nat} (hd : decode cc pc = .ok (.aload i, 2)) (hv : lv[i]? = some (some (.ref a))) (k : gV x D base nL (pc + 2) lv (.ref a :: st) gh cells slots) : gV x D base nL pc lv st gh cells slots := g_aload (v := some a) hC hd hv k
theorem g_ast_n (hC : gK x l D base nL own cc rm) {i : Fin 4} {a : Nat} {lv' : List (Option Value)} (hd : decode cc pc = .ok (.astore_n i, 1)) (hi : (i : Nat) < nL) (he : lv.set (i : Nat) (some (.ref a)) = lv') (k : gV x D base nL (pc + 1) lv' st gh cells slots) : gV x D base nL pc lv (.ref a :: st) gh cells slots := g_astore_n (v := some a) hC hd hi he k
theorem g_ast (hC : gK x l D base nL own cc rm) {i : Nat} {a : Nat} {lv' : List (Option Value)} (hd : decode cc pc = .ok (.astore i, 2)) (hi : i < nL) (he : lv.set i (some (.ref a)) = lv') (k : gV x D base nL (pc + 2) lv' st gh cells slots) : gV x D base nL pc lv (.ref a :: st) gh cells slots := g_astore (v := some a) hC hd hi he k
theorem g_ifnull_r (hC : gK x l D base nL own cc rm) {a : Nat} {off : Int} (hd : decode cc pc = .ok (.ifnull off, 3)) (k : gV x D base nL (pc + 3) lv st gh cells slots) : gV x D base nL pc lv (.ref a :: st) gh cells slots := by
  obtain ⟨p, l', e, R, s, m, args, below, meth, c, Q⟩ := x
  obtain ⟨hx, hb, -⟩ := hC
  intro H locs ls hG hS hl
  exact lv_ifnull hx hb hd (k H locs ls hG hS hl)
theorem g_ifnonnull_r (hC : gK x l D base nL own cc rm) {a : Nat} {off : Int} {tgt : Nat} (hd : decode cc pc = .ok (.ifnonnull off, 3)) (ht : (pc : Int) + off = (tgt : Int)) (k : gV x D base nL tgt lv st gh cells slots) : gV x D base nL pc lv (.ref a :: st) gh cells slots := by
  obtain ⟨p, l', e, R, s, m, args, below, meth, c, Q⟩ := x
  obtain ⟨hx, hb, -⟩ := hC
  intro H locs ls hG hS hl
  exact lv_ifnonnull hx hb hd ht (k H locs ls hG hS hl)

theorem g_ialdK (hC : gK x l D base nL own cc rm) {a n : Nat} {F : Nat → Int} {i : Int} (j : Nat) (hd : decode cc pc = .ok (.iaload, 1)) (ha : gh a = some (gI 1 n F)) (hi : i = (j : Int)) (hj : j < n) (hn : n < 2147483648)
    (kk : gV x D base nL (pc + 1) lv (vi (F j) :: st) gh cells slots) : gV x D base nL pc lv (vi i :: .ref a :: st) gh cells slots := by
  subst hi
  exact g_iald hC hd ha (by omega) hn (by rw [Int.toNat_natCast]) kk
theorem g_baldK (hC : gK x l D base nL own cc rm) {a n : Nat} {F : Nat → Int} {i : Int} (j : Nat) (hd : decode cc pc = .ok (.baload, 1)) (ha : gh a = some (gI 2 n F)) (hi : i = (j : Int)) (hj : j < n) (hn : n < 2147483648)
    (kk : gV x D base nL (pc + 1) lv (vi (F j) :: st) gh cells slots) : gV x D base nL pc lv (vi i :: .ref a :: st) gh cells slots := by
  subst hi
  exact g_bald hC hd ha (by omega) hn (by rw [Int.toNat_natCast]) kk
theorem g_caldK (hC : gK x l D base nL own cc rm) {a n : Nat} {F : Nat → Int} {i : Int} (j : Nat) (hd : decode cc pc = .ok (.caload, 1)) (ha : gh a = some (gI 0 n F)) (hi : i = (j : Int)) (hj : j < n) (hn : n < 2147483648)
    (kk : gV x D base nL (pc + 1) lv (vi (F j) :: st) gh cells slots) : gV x D base nL pc lv (vi i :: .ref a :: st) gh cells slots := by
  subst hi
  exact g_cald hC hd ha (by omega) hn (by rw [Int.toNat_natCast]) kk
theorem g_iastK (hC : gK x l D base nL own cc rm) {a n : Nat} {F : Nat → Int} {i z : Int} (j : Nat) (hd : decode cc pc = .ok (.iastore, 1)) (ha : gh a = some (gI 1 n F)) (hi : i = (j : Int)) (hj : j < n) (hn : n < 2147483648)
    (kk : gV x D base nL (pc + 1) lv st (gset gh a (gI 1 n (gup F j z))) cells slots) : gV x D base nL pc lv (vi z :: vi i :: .ref a :: st) gh cells slots := by
  subst hi
  exact g_iast hC hd ha (by omega) hn (by rw [Int.toNat_natCast]; exact kk)
theorem g_castK (hC : gK x l D base nL own cc rm) {a n : Nat} {F : Nat → Int} {i z : Int} (j : Nat) (hd : decode cc pc = .ok (.castore, 1)) (ha : gh a = some (gI 0 n F)) (hi : i = (j : Int)) (hj : j < n) (hn : n < 2147483648) (hz : 0 ≤ z ∧ z < 65536)
    (kk : gV x D base nL (pc + 1) lv st (gset gh a (gI 0 n (gup F j z))) cells slots) : gV x D base nL pc lv (vi z :: vi i :: .ref a :: st) gh cells slots := by
  subst hi
  exact g_cast hC hd ha (by omega) hn hz (by rw [Int.toNat_natCast]; exact kk)
theorem g_bastK (hC : gK x l D base nL own cc rm) {a n : Nat} {F : Nat → Int} {i z : Int} (j : Nat) (hd : decode cc pc = .ok (.bastore, 1)) (ha : gh a = some (gI 2 n F)) (hi : i = (j : Int)) (hj : j < n) (hn : n < 2147483648) (hz : -128 ≤ z ∧ z < 128)
    (kk : gV x D base nL (pc + 1) lv st (gset gh a (gI 2 n (gup F j z))) cells slots) : gV x D base nL pc lv (vi z :: vi i :: .ref a :: st) gh cells slots := by
  subst hi
  exact g_bast hC hd ha (by omega) hn hz (by rw [Int.toNat_natCast]; exact kk)
theorem g_aaldK (hC : gK x l D base nL own cc rm) {a n kd : Nat} {F : Nat → Option Nat} {i : Int} (j : Nat) {C : String} (hd : decode cc pc = .ok (.aaload, 1)) (ha : gh a = some (gR kd n F)) (hk : kd < 10) (hC2 : gty kd = .object C) (hi : i = (j : Int)) (hj : j < n) (hn : n < 2147483648) {v : Option Nat} (hv : F j = v)
    (kk : gV x D base nL (pc + 1) lv (va_rf v :: st) gh cells slots) : gV x D base nL pc lv (vi i :: .ref a :: st) gh cells slots := by
  subst hi
  exact g_aald hC hd ha hk hC2 (by omega) hn (by rw [Int.toNat_natCast]; exact hv) kk
theorem g_aastK (hC : gK x l D base nL own cc rm) {a n kd ci v : Nat} {F : Nat → Option Nat} {i : Int} (j : Nat) {r : vw_C} {vs : List Value} (hd : decode cc pc = .ok (.aastore, 1)) (ha : gh a = some (gR kd n F)) (hk : kd < 10) (hC2 : gty kd = .object r.1) (hv : gh v = some (gO ci vs)) (hr : vwCl[ci]? = some r) (hi : i = (j : Int)) (hj : j < n) (hn : n < 2147483648)
    (kk : gV x D base nL (pc + 1) lv st (gset gh a (gR kd n (gup F j (some v)))) cells slots) : gV x D base nL pc lv (.ref v :: vi i :: .ref a :: st) gh cells slots := by
  subst hi
  exact g_aast hC hd ha hk hC2 hv hr (by omega) hn (by rw [Int.toNat_natCast]; exact kk)
end GE
theorem g_for {P : Nat → Prop} (N : Nat) (hs : ∀ k, k < N → P (k + 1) → P k) (h0 : P N) : ∀ k, k ≤ N → P k := by
  intro k hk
  obtain ⟨n, hn⟩ : ∃ n, N = k + n := ⟨N - k, by omega⟩
  induction n generalizing k with
  | zero => rw [show k = N by omega]; exact h0
  | succ n ih => exact hs k (by omega) (ih (k + 1) (by omega) (by omega))
-- ===== the reference's object =====
def mIs (k : Nat) : Bool := !(k == 0 || k == 1 || k == 3 || k == 11 || k == 20 || k == 22 || k == 27)
def mK : Nat → Nat × Nat
  | 2 => (0, 8) | 8 => (1, 84) | 9 => (1, 84) | 10 => (0, 672) | 12 => (1, 4) | 13 => (1, 4) | 14 => (1, 4) | 18 => (0, 960) | 19 => (1, 56) | 21 => (1, 4) | 23 => (1, 5) | 24 => (1, 5) | 25 => (1, 70) | 26 => (1, 280) | _ => (1, 14)
def mU (ad : Nat → Nat) (z : Nat → Int) (k : Nat) : Value := if mIs k = true then .ref (ad k) else vi (z k)
def mFs (ad : Nat → Nat) (z : Nat → Int) : List Value := (List.range 28).map (mU ad z)
theorem mFs_get {ad : Nat → Nat} {z : Nat → Int} {k : Nat} (h : k < 28) : (mFs ad z)[k]? = some (mU ad z k) := by
  unfold mFs
  rw [List.getElem?_map, List.getElem?_range h]
  rfl
theorem mFs_set {ad : Nat → Nat} {z : Nat → Int} {k : Nat} {v : Int} (hi : mIs k = false) : (mFs ad z).set k (vi v) = mFs ad (gup z k v) := by
  unfold mFs
  apply List.ext_getElem?
  intro i
  rw [List.getElem?_map]
  by_cases h : i = k
  · subst h
    by_cases hl : i < 28
    · rw [List.getElem?_set_self (by simp; exact hl), List.getElem?_range hl]
      show some (vi v) = some (mU ad (gup z i v) i)
      unfold mU
      rw [if_neg (by rw [hi]; decide), gup_eq]
    · rw [List.getElem?_eq_none (by simp; omega), List.getElem?_eq_none (by simp; omega)]
      rfl
  · rw [List.getElem?_set_ne (Ne.symm h), List.getElem?_map]
    cases e : (List.range 28)[i]? with
    | none => rfl
    | some j =>
      have hj : j = i := by
        have := List.getElem?_eq_some_iff.mp e
        obtain ⟨h1, h2⟩ := this
        rw [List.getElem_range] at h2
        omega
      subst hj
      show some (mU ad z j) = some (mU ad (gup z k v) j)
      unfold mU
      rw [gup_ne h]
def mRep (mo : Nat) (ad : Nat → Nat) (z : Nat → Int) (F : Nat → Nat → Int) (gh : gH) : Prop := gh mo = some (gO 11 (mFs ad z)) ∧ (∀ k, k < 28 → mIs k = true → gh (ad k) = some (gI (mK k).1 (mK k).2 (F k))) ∧ ∀ j k, j < 28 → k < 28 → mIs j = true → mIs k = true → ad j = ad k → j = k
def mFr (mo : Nat) (ad : Nat → Nat) (gh0 gh : gH) : Prop := ∀ q, q ≠ mo → (∀ k, k < 28 → mIs k = true → q ≠ ad k) → gh q = gh0 q
theorem mFr.rf {mo : Nat} {ad : Nat → Nat} {gh : gH} : mFr mo ad gh gh := fun _ _ _ => rfl
theorem mFr.tr {mo : Nat} {ad : Nat → Nat} {g0 g1 g2 : gH} (h1 : mFr mo ad g0 g1) (h2 : mFr mo ad g1 g2) : mFr mo ad g0 g2 := fun q a b => (h2 q a b).trans (h1 q a b)
theorem mRep.putI {mo : Nat} {ad : Nat → Nat} {z : Nat → Int} {F : Nat → Nat → Int} {gh : gH} (h : mRep mo ad z F gh) {k : Nat} {v : Int} (hi : mIs k = false) : mRep mo ad (gup z k v) F (gset gh mo (gO 11 ((mFs ad z).set k (vi v)))) := by
  obtain ⟨h1, h2, h3⟩ := h
  refine ⟨by rw [gset_eq, mFs_set hi], fun j hj hm => ?_, h3⟩
  rw [gset_ne (gne (h2 j hj hm) h1 (by simp))]
  exact h2 j hj hm
theorem mRep.putA {mo : Nat} {ad : Nat → Nat} {z : Nat → Int} {F : Nat → Nat → Int} {gh : gH} (h : mRep mo ad z F gh) {k : Nat} {G : Nat → Int} (hk : k < 28) (hi : mIs k = true) : mRep mo ad z (gup F k G) (gset gh (ad k) (gI (mK k).1 (mK k).2 G)) := by
  obtain ⟨h1, h2, h3⟩ := h
  refine ⟨by rw [gset_ne (gne h1 (h2 k hk hi) (by simp))]; exact h1, fun j hj hm => ?_, h3⟩
  by_cases e : j = k
  · subst e
    rw [gset_eq, gup_eq]
  · rw [gset_ne (fun q => e (h3 j k hj hk hm hi q)), gup_ne e]
    exact h2 j hj hm
def gVM (x : gX) (D : gD) (base nL mo : Nat) (ad : Nat → Nat) (gh0 : gH) (pc : Nat) (lv : List (Option Value)) (st : List Value) (z : Nat → Int) (F : Nat → Nat → Int) : Prop := ∀ gh : gH, mRep mo ad z F gh → mFr mo ad gh0 gh → gV x D base nL pc lv st gh 0 0
def mM (l : Launch) (D : gD) (base : Nat) (y : MethodName) (cc : ByteArray) (nL : Nat) (ret : Option FieldType) (f loc mo : Nat) (ad : Nat → Nat) (As : List Value) (z : Nat → Int) (F : Nat → Nat → Int) (post : Option Value → (Nat → Int) → (Nat → Nat → Int) → Prop) : Prop :=
  ∀ gh : gH, mRep mo ad z F gh → gM l D base y cc nL ret f loc 0 0 (.ref mo :: As) gh (fun r gh' => ∃ z' F', post r z' F' ∧ mRep mo ad z' F' gh' ∧ mFr mo ad gh gh') gNo
theorem mK_lt (r : Nat) : (mK r).2 < 2147483648 := by unfold mK; split <;> decide
section GVM
variable {x : gX} {l : Launch} {D : gD} {base nL : Nat} {own : String} {cc : ByteArray} {rm : Room} {pc : Nat} {lv : List (Option Value)} {st : List Value} {mo : Nat} {ad : Nat → Nat} {gh0 : gH} {z : Nat → Int} {F : Nat → Nat → Int}
theorem mM.of {y : MethodName} {ret : Option FieldType} {f loc : Nat} {As : List Value} {post : Option Value → (Nat → Int) → (Nat → Nat → Int) → Prop}
    (hl : l.stackTraces = false) (hy : plainName y.cls = true) (hc : ∀ w ∈ As, w.category = 1) (hn : As.length + 1 ≤ nL) (lv : List (Option Value)) (hlv : (.ref mo :: As).map some ++ List.replicate (nL - (As.length + 1)) none = lv)
    (body : ∀ (gh : gH) (x : gX), gK x l D base nL y.cls cc ({ frames := f, cells := 0, slots := 0, locals := loc } : Room) → gEnd x D base (fun r gh' => ∃ z' F', post r z' F' ∧ mRep mo ad z' F' gh' ∧ mFr mo ad gh gh') gNo 0 0 ret y.name → gVM x D base nL mo ad gh 0 lv [] z F) :
    mM l D base y cc nL ret f loc mo ad As z F post := by
  intro gh hr
  refine gM.of hl hy (fun w hw => ?_) hn lv hlv (fun x hC hq => body gh x hC hq gh hr mFr.rf)
  rcases List.mem_cons.mp hw with h | h
  · rw [h]; rfl
  · exact hc w h
theorem m_iconst (hC : gK x l D base nL own cc rm) {n v : Int} (hd : decode cc pc = .ok (.iconst n, 1)) (hz : n = v) (k : gVM x D base nL mo ad gh0 (pc + 1) lv (vi v :: st) (z) (F)) : gVM x D base nL mo ad gh0 (pc) lv (st) (z) (F) := fun gh h1 h2 => g_iconst hC hd hz (k gh h1 h2)
theorem m_bipush (hC : gK x l D base nL own cc rm) {n v : Int} (hd : decode cc pc = .ok (.bipush n, 2)) (hz : (Int8.ofInt n).toInt32 = iI v) (k : gVM x D base nL mo ad gh0 (pc + 2) lv (vi v :: st) (z) (F)) : gVM x D base nL mo ad gh0 (pc) lv (st) (z) (F) := fun gh h1 h2 => g_bipush hC hd hz (k gh h1 h2)
theorem m_sipush (hC : gK x l D base nL own cc rm) {n v : Int} (hd : decode cc pc = .ok (.sipush n, 3)) (hz : (Int16.ofInt n).toInt32 = iI v) (k : gVM x D base nL mo ad gh0 (pc + 3) lv (vi v :: st) (z) (F)) : gVM x D base nL mo ad gh0 (pc) lv (st) (z) (F) := fun gh h1 h2 => g_sipush hC hd hz (k gh h1 h2)
theorem m_iload_n (hC : gK x l D base nL own cc rm) {i : Fin 4} {v : Int} (hd : decode cc pc = .ok (.iload_n i, 1)) (hv : lv[(i : Nat)]? = some (some (vi v))) (k : gVM x D base nL mo ad gh0 (pc + 1) lv (vi v :: st) (z) (F)) : gVM x D base nL mo ad gh0 (pc) lv (st) (z) (F) := fun gh h1 h2 => g_iload_n hC hd hv (k gh h1 h2)
theorem m_iload (hC : gK x l D base nL own cc rm) {i : Nat} {v : Int} (hd : decode cc pc = .ok (.iload i, 2)) (hv : lv[i]? = some (some (vi v))) (k : gVM x D base nL mo ad gh0 (pc + 2) lv (vi v :: st) (z) (F)) : gVM x D base nL mo ad gh0 (pc) lv (st) (z) (F) := fun gh h1 h2 => g_iload hC hd hv (k gh h1 h2)
theorem m_ald_n (hC : gK x l D base nL own cc rm) {i : Fin 4} {a : Nat} (hd : decode cc pc = .ok (.aload_n i, 1)) (hv : lv[(i : Nat)]? = some (some (.ref a))) (k : gVM x D base nL mo ad gh0 (pc + 1) lv (.ref a :: st) (z) (F)) : gVM x D base nL mo ad gh0 (pc) lv (st) (z) (F) := fun gh h1 h2 => g_ald_n hC hd hv (k gh h1 h2)
theorem m_fload (hC : gK x l D base nL own cc rm) {i : Nat} {v : UInt32} (hd : decode cc pc = .ok (.fload i, 2)) (hv : lv[i]? = some (some (.float v))) (k : gVM x D base nL mo ad gh0 (pc + 2) lv (.float v :: st) (z) (F)) : gVM x D base nL mo ad gh0 (pc) lv (st) (z) (F) := fun gh h1 h2 => g_fload hC hd hv (k gh h1 h2)
theorem m_fload_n (hC : gK x l D base nL own cc rm) {i : Fin 4} {v : UInt32} (hd : decode cc pc = .ok (.fload_n i, 1)) (hv : lv[(i : Nat)]? = some (some (.float v))) (k : gVM x D base nL mo ad gh0 (pc + 1) lv (.float v :: st) (z) (F)) : gVM x D base nL mo ad gh0 (pc) lv (st) (z) (F) := fun gh h1 h2 => g_fload_n hC hd hv (k gh h1 h2)
theorem m_istore_n (hC : gK x l D base nL own cc rm) {i : Fin 4} {v : Int} {lv' : List (Option Value)} (hd : decode cc pc = .ok (.istore_n i, 1)) (hi : (i : Nat) < nL) (he : lv.set (i : Nat) (some (vi v)) = lv') (k : gVM x D base nL mo ad gh0 (pc + 1) lv' (st) (z) (F)) : gVM x D base nL mo ad gh0 (pc) lv (vi v :: st) (z) (F) := fun gh h1 h2 => g_istore_n hC hd hi he (k gh h1 h2)
theorem m_istore (hC : gK x l D base nL own cc rm) {i : Nat} {v : Int} {lv' : List (Option Value)} (hd : decode cc pc = .ok (.istore i, 2)) (hi : i < nL) (he : lv.set i (some (vi v)) = lv') (k : gVM x D base nL mo ad gh0 (pc + 2) lv' (st) (z) (F)) : gVM x D base nL mo ad gh0 (pc) lv (vi v :: st) (z) (F) := fun gh h1 h2 => g_istore hC hd hi he (k gh h1 h2)
theorem m_fstore_n (hC : gK x l D base nL own cc rm) {i : Fin 4} {v : UInt32} {lv' : List (Option Value)} (hd : decode cc pc = .ok (.fstore_n i, 1)) (hi : (i : Nat) < nL) (he : lv.set (i : Nat) (some (.float v)) = lv') (k : gVM x D base nL mo ad gh0 (pc + 1) lv' (st) (z) (F)) : gVM x D base nL mo ad gh0 (pc) lv (.float v :: st) (z) (F) := fun gh h1 h2 => g_fstore_n hC hd hi he (k gh h1 h2)
theorem m_fstore (hC : gK x l D base nL own cc rm) {i : Nat} {v : UInt32} {lv' : List (Option Value)} (hd : decode cc pc = .ok (.fstore i, 2)) (hi : i < nL) (he : lv.set i (some (.float v)) = lv') (k : gVM x D base nL mo ad gh0 (pc + 2) lv' (st) (z) (F)) : gVM x D base nL mo ad gh0 (pc) lv (.float v :: st) (z) (F) := fun gh h1 h2 => g_fstore hC hd hi he (k gh h1 h2)
theorem m_iinc (hC : gK x l D base nL own cc rm) {i : Nat} {n v : Int} {lv' : List (Option Value)} (hd : decode cc pc = .ok (.iinc i n, 3)) (hi : i < nL) (hv : lv[i]? = some (some (vi v))) (he : lv.set i (some (vi (v + n))) = lv') (k : gVM x D base nL mo ad gh0 (pc + 3) lv' (st) (z) (F)) : gVM x D base nL mo ad gh0 (pc) lv (st) (z) (F) := fun gh h1 h2 => g_iinc hC hd hi hv he (k gh h1 h2)
theorem m_iadd (hC : gK x l D base nL own cc rm) {a b : Int} (hd : decode cc pc = .ok (.iadd, 1)) (k : gVM x D base nL mo ad gh0 (pc + 1) lv (vi (a + b) :: st) (z) (F)) : gVM x D base nL mo ad gh0 (pc) lv (vi b :: vi a :: st) (z) (F) := fun gh h1 h2 => g_iadd hC hd (k gh h1 h2)
theorem m_isub (hC : gK x l D base nL own cc rm) {a b : Int} (hd : decode cc pc = .ok (.isub, 1)) (k : gVM x D base nL mo ad gh0 (pc + 1) lv (vi (a - b) :: st) (z) (F)) : gVM x D base nL mo ad gh0 (pc) lv (vi b :: vi a :: st) (z) (F) := fun gh h1 h2 => g_isub hC hd (k gh h1 h2)
theorem m_imul (hC : gK x l D base nL own cc rm) {a b : Int} (hd : decode cc pc = .ok (.imul, 1)) (k : gVM x D base nL mo ad gh0 (pc + 1) lv (vi (a * b) :: st) (z) (F)) : gVM x D base nL mo ad gh0 (pc) lv (vi b :: vi a :: st) (z) (F) := fun gh h1 h2 => g_imul hC hd (k gh h1 h2)
theorem m_idiv (hC : gK x l D base nL own cc rm) {a b : Int} (hd : decode cc pc = .ok (.idiv, 1)) (ha : 0 ≤ a ∧ a < 2147483648) (hb0 : 0 < b ∧ b < 2147483648) (k : gVM x D base nL mo ad gh0 (pc + 1) lv (vi (a / b) :: st) (z) (F)) : gVM x D base nL mo ad gh0 (pc) lv (vi b :: vi a :: st) (z) (F) := fun gh h1 h2 => g_idiv hC hd ha hb0 (k gh h1 h2)
theorem m_irem (hC : gK x l D base nL own cc rm) {a b : Int} (hd : decode cc pc = .ok (.irem, 1)) (ha : 0 ≤ a ∧ a < 2147483648) (hb0 : 0 < b ∧ b < 2147483648) (k : gVM x D base nL mo ad gh0 (pc + 1) lv (vi (a % b) :: st) (z) (F)) : gVM x D base nL mo ad gh0 (pc) lv (vi b :: vi a :: st) (z) (F) := fun gh h1 h2 => g_irem hC hd ha hb0 (k gh h1 h2)
theorem m_i2f (hC : gK x l D base nL own cc rm) {a : Int32} (hd : decode cc pc = .ok (.i2f, 1)) (k : gVM x D base nL mo ad gh0 (pc + 1) lv (.float (FP.i2f a) :: st) (z) (F)) : gVM x D base nL mo ad gh0 (pc) lv (.int a :: st) (z) (F) := fun gh h1 h2 => g_i2f hC hd (k gh h1 h2)
theorem m_f2i (hC : gK x l D base nL own cc rm) {a : UInt32} (hd : decode cc pc = .ok (.f2i, 1)) (k : gVM x D base nL mo ad gh0 (pc + 1) lv (.int (FP.f2i a) :: st) (z) (F)) : gVM x D base nL mo ad gh0 (pc) lv (.float a :: st) (z) (F) := fun gh h1 h2 => g_f2i hC hd (k gh h1 h2)
theorem m_fadd (hC : gK x l D base nL own cc rm) {a b : UInt32} (hd : decode cc pc = .ok (.fadd, 1)) (hn : vf_n32 (FP.fadd a b)) (k : gVM x D base nL mo ad gh0 (pc + 1) lv (.float (FP.fadd a b) :: st) (z) (F)) : gVM x D base nL mo ad gh0 (pc) lv (.float b :: .float a :: st) (z) (F) := fun gh h1 h2 => g_fadd hC hd hn (k gh h1 h2)
theorem m_fsub (hC : gK x l D base nL own cc rm) {a b : UInt32} (hd : decode cc pc = .ok (.fsub, 1)) (hn : vf_n32 (FP.fsub a b)) (k : gVM x D base nL mo ad gh0 (pc + 1) lv (.float (FP.fsub a b) :: st) (z) (F)) : gVM x D base nL mo ad gh0 (pc) lv (.float b :: .float a :: st) (z) (F) := fun gh h1 h2 => g_fsub hC hd hn (k gh h1 h2)
theorem m_fmul (hC : gK x l D base nL own cc rm) {a b : UInt32} (hd : decode cc pc = .ok (.fmul, 1)) (hn : vf_n32 (FP.fmul a b)) (k : gVM x D base nL mo ad gh0 (pc + 1) lv (.float (FP.fmul a b) :: st) (z) (F)) : gVM x D base nL mo ad gh0 (pc) lv (.float b :: .float a :: st) (z) (F) := fun gh h1 h2 => g_fmul hC hd hn (k gh h1 h2)
theorem m_fdiv (hC : gK x l D base nL own cc rm) {a b : UInt32} (hd : decode cc pc = .ok (.fdiv, 1)) (hn : vf_n32 (FP.fdiv a b)) (k : gVM x D base nL mo ad gh0 (pc + 1) lv (.float (FP.fdiv a b) :: st) (z) (F)) : gVM x D base nL mo ad gh0 (pc) lv (.float b :: .float a :: st) (z) (F) := fun gh h1 h2 => g_fdiv hC hd hn (k gh h1 h2)
theorem m_fconst1 (hC : gK x l D base nL own cc rm)  (hd : decode cc pc = .ok (.fconst 1, 1)) (k : gVM x D base nL mo ad gh0 (pc + 1) lv (.float FP.fconst1 :: st) (z) (F)) : gVM x D base nL mo ad gh0 (pc) lv (st) (z) (F) := fun gh h1 h2 => g_fconst1 hC hd (k gh h1 h2)
theorem m_ldcf (hC : gK x l D base nL own cc rm) {idx : Nat} {v : UInt32} (hd : decode cc pc = .ok (.ldc idx, 2)) (hw : Cond.constantFloat own idx v ∈ gwA) (k : gVM x D base nL mo ad gh0 (pc + 2) lv (.float v :: st) (z) (F)) : gVM x D base nL mo ad gh0 (pc) lv (st) (z) (F) := fun gh h1 h2 => g_ldcf hC hd hw (k gh h1 h2)
theorem m_dup (hC : gK x l D base nL own cc rm) {v : Value} (hd : decode cc pc = .ok (.dup, 1)) (hv : v.category = 1) (k : gVM x D base nL mo ad gh0 (pc + 1) lv (v :: v :: st) (z) (F)) : gVM x D base nL mo ad gh0 (pc) lv (v :: st) (z) (F) := fun gh h1 h2 => g_dup hC hd hv (k gh h1 h2)
theorem m_dup2 (hC : gK x l D base nL own cc rm) {v w : Value} (hd : decode cc pc = .ok (.dup2, 1)) (hv : v.category = 1) (hw : w.category = 1) (k : gVM x D base nL mo ad gh0 (pc + 1) lv (v :: w :: v :: w :: st) (z) (F)) : gVM x D base nL mo ad gh0 (pc) lv (v :: w :: st) (z) (F) := fun gh h1 h2 => g_dup2 hC hd hv hw (k gh h1 h2)
theorem m_pop (hC : gK x l D base nL own cc rm) {v : Value} (hd : decode cc pc = .ok (.pop, 1)) (hv : v.category = 1) (k : gVM x D base nL mo ad gh0 (pc + 1) lv (st) (z) (F)) : gVM x D base nL mo ad gh0 (pc) lv (v :: st) (z) (F) := fun gh h1 h2 => g_pop hC hd hv (k gh h1 h2)
theorem m_goto (hC : gK x l D base nL own cc rm) {off : Int} {tgt : Nat} (hd : decode cc pc = .ok (.goto off, 3)) (ht : (pc : Int) + off = (tgt : Int)) (k : gVM x D base nL mo ad gh0 (tgt) lv (st) (z) (F)) : gVM x D base nL mo ad gh0 (pc) lv (st) (z) (F) := fun gh h1 h2 => g_goto hC hd ht (k gh h1 h2)
theorem m_icmp_eq (hC : gK x l D base nL own cc rm) {a b : Int} {off : Int} {tgt : Nat} (hd : decode cc pc = .ok (.if_icmp .eq off, 3)) (ht : (pc : Int) + off = (tgt : Int)) (ha : -2147483648 ≤ a ∧ a < 2147483648) (hb0 : -2147483648 ≤ b ∧ b < 2147483648) (kt : a = b → gVM x D base nL mo ad gh0 (tgt) lv (st) (z) (F)) (kf : a ≠ b → gVM x D base nL mo ad gh0 (pc + 3) lv (st) (z) (F)) : gVM x D base nL mo ad gh0 (pc) lv (vi b :: vi a :: st) (z) (F) := fun gh h1 h2 => g_icmp_eq hC hd ht ha hb0 (fun q => kt q gh h1 h2) (fun q => kf q gh h1 h2)
theorem m_if_eq (hC : gK x l D base nL own cc rm) {a : Int} {off : Int} {tgt : Nat} (hd : decode cc pc = .ok (.ifCond .eq off, 3)) (ht : (pc : Int) + off = (tgt : Int)) (ha : -2147483648 ≤ a ∧ a < 2147483648) (kt : a = 0 → gVM x D base nL mo ad gh0 (tgt) lv (st) (z) (F)) (kf : a ≠ 0 → gVM x D base nL mo ad gh0 (pc + 3) lv (st) (z) (F)) : gVM x D base nL mo ad gh0 (pc) lv (vi a :: st) (z) (F) := fun gh h1 h2 => g_if_eq hC hd ht ha (fun q => kt q gh h1 h2) (fun q => kf q gh h1 h2)
theorem m_icmp_ne (hC : gK x l D base nL own cc rm) {a b : Int} {off : Int} {tgt : Nat} (hd : decode cc pc = .ok (.if_icmp .ne off, 3)) (ht : (pc : Int) + off = (tgt : Int)) (ha : -2147483648 ≤ a ∧ a < 2147483648) (hb0 : -2147483648 ≤ b ∧ b < 2147483648) (kt : a ≠ b → gVM x D base nL mo ad gh0 (tgt) lv (st) (z) (F)) (kf : a = b → gVM x D base nL mo ad gh0 (pc + 3) lv (st) (z) (F)) : gVM x D base nL mo ad gh0 (pc) lv (vi b :: vi a :: st) (z) (F) := fun gh h1 h2 => g_icmp_ne hC hd ht ha hb0 (fun q => kt q gh h1 h2) (fun q => kf q gh h1 h2)
theorem m_if_ne (hC : gK x l D base nL own cc rm) {a : Int} {off : Int} {tgt : Nat} (hd : decode cc pc = .ok (.ifCond .ne off, 3)) (ht : (pc : Int) + off = (tgt : Int)) (ha : -2147483648 ≤ a ∧ a < 2147483648) (kt : a ≠ 0 → gVM x D base nL mo ad gh0 (tgt) lv (st) (z) (F)) (kf : a = 0 → gVM x D base nL mo ad gh0 (pc + 3) lv (st) (z) (F)) : gVM x D base nL mo ad gh0 (pc) lv (vi a :: st) (z) (F) := fun gh h1 h2 => g_if_ne hC hd ht ha (fun q => kt q gh h1 h2) (fun q => kf q gh h1 h2)
theorem m_icmp_lt (hC : gK x l D base nL own cc rm) {a b : Int} {off : Int} {tgt : Nat} (hd : decode cc pc = .ok (.if_icmp .lt off, 3)) (ht : (pc : Int) + off = (tgt : Int)) (ha : -2147483648 ≤ a ∧ a < 2147483648) (hb0 : -2147483648 ≤ b ∧ b < 2147483648) (kt : a < b → gVM x D base nL mo ad gh0 (tgt) lv (st) (z) (F)) (kf : b ≤ a → gVM x D base nL mo ad gh0 (pc + 3) lv (st) (z) (F)) : gVM x D base nL mo ad gh0 (pc) lv (vi b :: vi a :: st) (z) (F) := fun gh h1 h2 => g_icmp_lt hC hd ht ha hb0 (fun q => kt q gh h1 h2) (fun q => kf q gh h1 h2)
theorem m_if_lt (hC : gK x l D base nL own cc rm) {a : Int} {off : Int} {tgt : Nat} (hd : decode cc pc = .ok (.ifCond .lt off, 3)) (ht : (pc : Int) + off = (tgt : Int)) (ha : -2147483648 ≤ a ∧ a < 2147483648) (kt : a < 0 → gVM x D base nL mo ad gh0 (tgt) lv (st) (z) (F)) (kf : 0 ≤ a → gVM x D base nL mo ad gh0 (pc + 3) lv (st) (z) (F)) : gVM x D base nL mo ad gh0 (pc) lv (vi a :: st) (z) (F) := fun gh h1 h2 => g_if_lt hC hd ht ha (fun q => kt q gh h1 h2) (fun q => kf q gh h1 h2)
theorem m_icmp_ge (hC : gK x l D base nL own cc rm) {a b : Int} {off : Int} {tgt : Nat} (hd : decode cc pc = .ok (.if_icmp .ge off, 3)) (ht : (pc : Int) + off = (tgt : Int)) (ha : -2147483648 ≤ a ∧ a < 2147483648) (hb0 : -2147483648 ≤ b ∧ b < 2147483648) (kt : b ≤ a → gVM x D base nL mo ad gh0 (tgt) lv (st) (z) (F)) (kf : a < b → gVM x D base nL mo ad gh0 (pc + 3) lv (st) (z) (F)) : gVM x D base nL mo ad gh0 (pc) lv (vi b :: vi a :: st) (z) (F) := fun gh h1 h2 => g_icmp_ge hC hd ht ha hb0 (fun q => kt q gh h1 h2) (fun q => kf q gh h1 h2)
theorem m_if_ge (hC : gK x l D base nL own cc rm) {a : Int} {off : Int} {tgt : Nat} (hd : decode cc pc = .ok (.ifCond .ge off, 3)) (ht : (pc : Int) + off = (tgt : Int)) (ha : -2147483648 ≤ a ∧ a < 2147483648) (kt : 0 ≤ a → gVM x D base nL mo ad gh0 (tgt) lv (st) (z) (F)) (kf : a < 0 → gVM x D base nL mo ad gh0 (pc + 3) lv (st) (z) (F)) : gVM x D base nL mo ad gh0 (pc) lv (vi a :: st) (z) (F) := fun gh h1 h2 => g_if_ge hC hd ht ha (fun q => kt q gh h1 h2) (fun q => kf q gh h1 h2)
theorem m_icmp_gt (hC : gK x l D base nL own cc rm) {a b : Int} {off : Int} {tgt : Nat} (hd : decode cc pc = .ok (.if_icmp .gt off, 3)) (ht : (pc : Int) + off = (tgt : Int)) (ha : -2147483648 ≤ a ∧ a < 2147483648) (hb0 : -2147483648 ≤ b ∧ b < 2147483648) (kt : b < a → gVM x D base nL mo ad gh0 (tgt) lv (st) (z) (F)) (kf : a ≤ b → gVM x D base nL mo ad gh0 (pc + 3) lv (st) (z) (F)) : gVM x D base nL mo ad gh0 (pc) lv (vi b :: vi a :: st) (z) (F) := fun gh h1 h2 => g_icmp_gt hC hd ht ha hb0 (fun q => kt q gh h1 h2) (fun q => kf q gh h1 h2)
theorem m_if_gt (hC : gK x l D base nL own cc rm) {a : Int} {off : Int} {tgt : Nat} (hd : decode cc pc = .ok (.ifCond .gt off, 3)) (ht : (pc : Int) + off = (tgt : Int)) (ha : -2147483648 ≤ a ∧ a < 2147483648) (kt : 0 < a → gVM x D base nL mo ad gh0 (tgt) lv (st) (z) (F)) (kf : a ≤ 0 → gVM x D base nL mo ad gh0 (pc + 3) lv (st) (z) (F)) : gVM x D base nL mo ad gh0 (pc) lv (vi a :: st) (z) (F) := fun gh h1 h2 => g_if_gt hC hd ht ha (fun q => kt q gh h1 h2) (fun q => kf q gh h1 h2)
theorem m_icmp_le (hC : gK x l D base nL own cc rm) {a b : Int} {off : Int} {tgt : Nat} (hd : decode cc pc = .ok (.if_icmp .le off, 3)) (ht : (pc : Int) + off = (tgt : Int)) (ha : -2147483648 ≤ a ∧ a < 2147483648) (hb0 : -2147483648 ≤ b ∧ b < 2147483648) (kt : a ≤ b → gVM x D base nL mo ad gh0 (tgt) lv (st) (z) (F)) (kf : b < a → gVM x D base nL mo ad gh0 (pc + 3) lv (st) (z) (F)) : gVM x D base nL mo ad gh0 (pc) lv (vi b :: vi a :: st) (z) (F) := fun gh h1 h2 => g_icmp_le hC hd ht ha hb0 (fun q => kt q gh h1 h2) (fun q => kf q gh h1 h2)
theorem m_if_le (hC : gK x l D base nL own cc rm) {a : Int} {off : Int} {tgt : Nat} (hd : decode cc pc = .ok (.ifCond .le off, 3)) (ht : (pc : Int) + off = (tgt : Int)) (ha : -2147483648 ≤ a ∧ a < 2147483648) (kt : a ≤ 0 → gVM x D base nL mo ad gh0 (tgt) lv (st) (z) (F)) (kf : 0 < a → gVM x D base nL mo ad gh0 (pc + 3) lv (st) (z) (F)) : gVM x D base nL mo ad gh0 (pc) lv (vi a :: st) (z) (F) := fun gh h1 h2 => g_if_le hC hd ht ha (fun q => kt q gh h1 h2) (fun q => kf q gh h1 h2)
theorem m_ifeq_b (hC : gK x l D base nL own cc rm) {a : Bool} {off : Int} {tgt : Nat} (hd : decode cc pc = .ok (.ifCond .eq off, 3)) (ht : (pc : Int) + off = (tgt : Int)) (kt : a = false → gVM x D base nL mo ad gh0 (tgt) lv (st) (z) (F)) (kf : a = true → gVM x D base nL mo ad gh0 (pc + 3) lv (st) (z) (F)) : gVM x D base nL mo ad gh0 (pc) lv (vi (b2i a) :: st) (z) (F) := fun gh h1 h2 => g_ifeq_b hC hd ht (fun q => kt q gh h1 h2) (fun q => kf q gh h1 h2)
theorem m_ifne_b (hC : gK x l D base nL own cc rm) {a : Bool} {off : Int} {tgt : Nat} (hd : decode cc pc = .ok (.ifCond .ne off, 3)) (ht : (pc : Int) + off = (tgt : Int)) (kt : a = true → gVM x D base nL mo ad gh0 (tgt) lv (st) (z) (F)) (kf : a = false → gVM x D base nL mo ad gh0 (pc + 3) lv (st) (z) (F)) : gVM x D base nL mo ad gh0 (pc) lv (vi (b2i a) :: st) (z) (F) := fun gh h1 h2 => g_ifne_b hC hd ht (fun q => kt q gh h1 h2) (fun q => kf q gh h1 h2)
theorem m_top {a b : Int} (h : a = b) (k : gVM x D base nL mo ad gh0 (pc) lv (vi b :: st) (z) (F)) : gVM x D base nL mo ad gh0 (pc) lv (vi a :: st) (z) (F) := by subst h; exact k
theorem gVM.eqs {lv' : List (Option Value)} {st' : List Value} {z' : Nat → Int} {F' : Nat → Nat → Int} (h1 : lv = lv') (h2 : st = st') (h3 : z = z') (h4 : F = F') (k : gVM x D base nL mo ad gh0 (pc) lv' (st') (z') (F')) : gVM x D base nL mo ad gh0 (pc) lv (st) (z) (F) := by subst h1; subst h2; subst h3; subst h4; exact k
theorem m_getI (hC : gK x l D base nL own cc rm) {idx : Nat} (i : Nat) (hd : decode cc pc = .ok (.getfield idx, 3)) (hf : gFd own idx 11 i) (hi : i < 28 ∧ mIs i = false) (k : gVM x D base nL mo ad gh0 (pc + 3) lv (vi (z i) :: st) (z) (F)) : gVM x D base nL mo ad gh0 (pc) lv (.ref mo :: st) (z) (F) := fun gh h1 h2 => g_get hC hd hf h1.1 (by rw [mFs_get hi.1]; unfold mU; rw [if_neg (by rw [hi.2]; decide)]) (k gh h1 h2)
theorem m_getA (hC : gK x l D base nL own cc rm) {idx : Nat} (i : Nat) (hd : decode cc pc = .ok (.getfield idx, 3)) (hf : gFd own idx 11 i) (hi : i < 28 ∧ mIs i = true) (k : gVM x D base nL mo ad gh0 (pc + 3) lv (.ref (ad i) :: st) (z) (F)) : gVM x D base nL mo ad gh0 (pc) lv (.ref mo :: st) (z) (F) := fun gh h1 h2 => g_get hC hd hf h1.1 (by rw [mFs_get hi.1]; unfold mU; rw [if_pos hi.2]) (k gh h1 h2)
theorem m_putI (hC : gK x l D base nL own cc rm) {idx : Nat} (i : Nat) {v : Int} (hd : decode cc pc = .ok (.putfield idx, 3)) (hf : gFw own idx 11 i false .int) (hi : i < 28 ∧ mIs i = false) (k : gVM x D base nL mo ad gh0 (pc + 3) lv (st) (gup z i v) (F)) : gVM x D base nL mo ad gh0 (pc) lv (vi v :: .ref mo :: st) (z) (F) := fun gh h1 h2 => g_put hC hd hf h1.1 ⟨rfl, rfl⟩ rfl (by simp [mFs]; exact hi.1) (k _ (h1.putI hi.2) (fun q a b => by rw [gset_ne a]; exact h2 q a b))
theorem m_iald (hC : gK x l D base nL own cc rm) (r j : Nat) {i : Int} (hd : decode cc pc = .ok (.iaload, 1)) (hr : r < 28 ∧ mIs r = true ∧ (mK r).1 = 1) (hi : i = (j : Int)) (hj : j < (mK r).2) (k : gVM x D base nL mo ad gh0 (pc + 1) lv (vi (F r j) :: st) (z) (F)) : gVM x D base nL mo ad gh0 (pc) lv (vi i :: .ref (ad r) :: st) (z) (F) := fun gh h1 h2 => g_ialdK hC j hd (by have h := h1.2.1 r hr.1 hr.2.1; rw [hr.2.2] at h; exact h) hi hj (mK_lt r) (k gh h1 h2)
theorem m_cald (hC : gK x l D base nL own cc rm) (r j : Nat) {i : Int} (hd : decode cc pc = .ok (.caload, 1)) (hr : r < 28 ∧ mIs r = true ∧ (mK r).1 = 0) (hi : i = (j : Int)) (hj : j < (mK r).2) (k : gVM x D base nL mo ad gh0 (pc + 1) lv (vi (F r j) :: st) (z) (F)) : gVM x D base nL mo ad gh0 (pc) lv (vi i :: .ref (ad r) :: st) (z) (F) := fun gh h1 h2 => g_caldK hC j hd (by have h := h1.2.1 r hr.1 hr.2.1; rw [hr.2.2] at h; exact h) hi hj (mK_lt r) (k gh h1 h2)
theorem m_iast (hC : gK x l D base nL own cc rm) (r j : Nat) {i v : Int} (hd : decode cc pc = .ok (.iastore, 1)) (hr : r < 28 ∧ mIs r = true ∧ (mK r).1 = 1) (hi : i = (j : Int)) (hj : j < (mK r).2) (k : gVM x D base nL mo ad gh0 (pc + 1) lv (st) (z) (gup F r (gup (F r) j v))) : gVM x D base nL mo ad gh0 (pc) lv (vi v :: vi i :: .ref (ad r) :: st) (z) (F) := fun gh h1 h2 => by
  have h := h1.2.1 r hr.1 hr.2.1
  have h' := h
  rw [hr.2.2] at h
  refine g_iastK hC j hd h hi hj (mK_lt r) ?_
  rw [show gI 1 (mK r).2 (gup (F r) j v) = gI (mK r).1 (mK r).2 (gup (F r) j v) by rw [hr.2.2]]
  exact k _ (h1.putA hr.1 hr.2.1) (fun q a b => by rw [gset_ne (b r hr.1 hr.2.1)]; exact h2 q a b)
theorem m_cast (hC : gK x l D base nL own cc rm) (r j : Nat) {i v : Int} (hd : decode cc pc = .ok (.castore, 1)) (hr : r < 28 ∧ mIs r = true ∧ (mK r).1 = 0) (hi : i = (j : Int)) (hj : j < (mK r).2) (hz : 0 ≤ v ∧ v < 65536) (k : gVM x D base nL mo ad gh0 (pc + 1) lv (st) (z) (gup F r (gup (F r) j v))) : gVM x D base nL mo ad gh0 (pc) lv (vi v :: vi i :: .ref (ad r) :: st) (z) (F) := fun gh h1 h2 => by
  have h := h1.2.1 r hr.1 hr.2.1
  have h' := h
  rw [hr.2.2] at h
  refine g_castK hC j hd h hi hj (mK_lt r) hz ?_
  rw [show gI 0 (mK r).2 (gup (F r) j v) = gI (mK r).1 (mK r).2 (gup (F r) j v) by rw [hr.2.2]]
  exact k _ (h1.putA hr.1 hr.2.1) (fun q a b => by rw [gset_ne (b r hr.1 hr.2.1)]; exact h2 q a b)
section
variable {idx nL' n f loc : Nat} {y : MethodName} {c' : ByteArray} {ret : Option FieldType} {As rest : List Value}
/-- a call of a function that looks at no cell -/
theorem m_callS (hC : gK x l D base nL own cc rm) {post : Option Value → Prop} (hM : ∀ gh : gH, gM l D base y c' nL' ret f loc 0 0 As gh (fun r gh' => post r ∧ gh' = gh) gNo) (hw : gCs own idx y c' nL' ret n) (hn : As.length = n)
    (hR' : f + 1 ≤ rm.frames ∧ 8 + (nL' + 11) + loc ≤ rm.locals) (hrest : (rest.map fun v => v.category).sum ≤ 8) (hs : st = As.reverse ++ rest) (hd : decode cc pc = .ok (.invokestatic idx, 3))
    (kk : ∀ (r : Option Value), post r → gVM x D base nL mo ad gh0 (pc + 3) lv (r.toList ++ rest) z F) : gVM x D base nL mo ad gh0 pc lv st z F := fun gh h1 h2 =>
  g_callS hC (hM gh) hw hn hR' ⟨Nat.zero_le _, Nat.zero_le _⟩ hrest hs hd (fun r gh' ⟨hp, e⟩ => by subst e; exact kk r hp gh' h1 h2)
end
variable {post : Option Value → (Nat → Int) → (Nat → Nat → Int) → Prop} {nm : String}
theorem m_iret (hC : gK x l D base nL own cc rm) (hq : gEnd x D base (fun r gh' => ∃ z' F', post r z' F' ∧ mRep mo ad z' F' gh' ∧ mFr mo ad gh0 gh') gNo 0 0 (some .int) nm) {v : Int32} (hd : decode cc pc = .ok (.ireturn, 1)) (hp : post (some (.int v)) z F) : gVM x D base nL mo ad gh0 pc lv [.int v] z F := fun gh h1 h2 => g_iret hC hq hd (Nat.le_refl _) (Nat.le_refl _) ⟨z, F, hp, h1, h2⟩
theorem m_bret (hC : gK x l D base nL own cc rm) (hq : gEnd x D base (fun r gh' => ∃ z' F', post r z' F' ∧ mRep mo ad z' F' gh' ∧ mFr mo ad gh0 gh') gNo 0 0 (some .boolean) nm) {b : Bool} (hd : decode cc pc = .ok (.ireturn, 1)) (hp : post (some (vi (b2i b))) z F) : gVM x D base nL mo ad gh0 pc lv [vi (b2i b)] z F := fun gh h1 h2 => g_bret hC hq hd (Nat.le_refl _) (Nat.le_refl _) ⟨z, F, hp, h1, h2⟩
theorem m_cret (hC : gK x l D base nL own cc rm) (hq : gEnd x D base (fun r gh' => ∃ z' F', post r z' F' ∧ mRep mo ad z' F' gh' ∧ mFr mo ad gh0 gh') gNo 0 0 (some .char) nm) {v : Int} (hv : 0 ≤ v ∧ v < 65536) (hd : decode cc pc = .ok (.ireturn, 1)) (hp : post (some (vi v)) z F) : gVM x D base nL mo ad gh0 pc lv [vi v] z F := fun gh h1 h2 => g_cret hC hq hv hd (Nat.le_refl _) (Nat.le_refl _) ⟨z, F, hp, h1, h2⟩
theorem m_vret (hC : gK x l D base nL own cc rm) (hq : gEnd x D base (fun r gh' => ∃ z' F', post r z' F' ∧ mRep mo ad z' F' gh' ∧ mFr mo ad gh0 gh') gNo 0 0 none nm) (hd : decode cc pc = .ok (.return_, 1)) (hp : post none z F) : gVM x D base nL mo ad gh0 pc lv [] z F := fun gh h1 h2 => g_vret hC hq hd (Nat.le_refl _) (Nat.le_refl _) ⟨z, F, hp, h1, h2⟩
end GVM
