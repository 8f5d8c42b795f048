/-! the pure functions look at no scratch row; a name told keeps what always holds -/
section CG
/-- alike but for the scratch rows -/
def fEq (F F' : Nat → Nat → Int) : Prop := ∀ k, k ≠ 15 → k ≠ 16 → k ≠ 17 → k ≠ 18 → k ≠ 19 → k ≠ 21 → F' k = F k
theorem fEq.rf {F : Nat → Nat → Int} : fEq F F := fun _ _ _ _ _ _ _ => rfl
theorem fEq.tr {F G H : Nat → Nat → Int} (h1 : fEq F G) (h2 : fEq G H) : fEq F H := fun k a b c d e f => (h2 k a b c d e f).trans (h1 k a b c d e f)
theorem fEq.sy {F G : Nat → Nat → Int} (h1 : fEq F G) : fEq G F := fun k a b c d e f => (h1 k a b c d e f).symm
theorem fEq.f4 {F : Nat → Nat → Int} {A B C P : Nat → Int} : fEq F (F4 F A B C P) := fun k h1 h2 h3 h4 _ _ => by unfold F4; rw [gup_ne h4, gup_ne h3, gup_ne h2, gup_ne h1]
theorem fEq.g19 {F : Nat → Nat → Int} {X : Nat → Int} : fEq F (gup F 19 X) := fun k _ _ _ _ h _ => gup_ne h
theorem fEq.g21 {F : Nat → Nat → Int} {X : Nat → Int} : fEq F (gup F 21 X) := fun k _ _ _ _ _ h => gup_ne h
theorem fEq.g17 {F : Nat → Nat → Int} {X : Nat → Int} : fEq F (gup F 17 X) := fun k _ _ h _ _ _ => gup_ne h
theorem fEq.g18 {F : Nat → Nat → Int} {X : Nat → Int} : fEq F (gup F 18 X) := fun k _ _ _ h _ _ => gup_ne h
/-- alike in the rows that placing looks at -/
def lE (F F' : Nat → Nat → Int) : Prop := ∀ k, k ≤ 14 → F' k = F k
theorem lE.rf {F : Nat → Nat → Int} : lE F F := fun _ _ => rfl
theorem lE.tr {F G H : Nat → Nat → Int} (h1 : lE F G) (h2 : lE G H) : lE F H := fun k a => (h2 k a).trans (h1 k a)
theorem fEq.le {F F' : Nat → Nat → Int} (h : fEq F F') : lE F F' := fun k hk => h k (by omega) (by omega) (by omega) (by omega) (by omega) (by omega)
theorem lE.gup {F G : Nat → Nat → Int} (h : lE F G) {k : Nat} {a : Nat → Int} (hk : 14 < k) : lE F (gup G k a) := fun j hj => by rw [gup_ne (by omega)]; exact h j hj
section
variable {F F' : Nat → Nat → Int}
theorem lE.at2 (h : lE F F') : F' 2 = F 2 := h 2 (by decide)
theorem lE.at4 (h : lE F F') : F' 4 = F 4 := h 4 (by decide)
theorem lE.at5 (h : lE F F') : F' 5 = F 5 := h 5 (by decide)
theorem lE.at6 (h : lE F F') : F' 6 = F 6 := h 6 (by decide)
theorem lE.at7 (h : lE F F') : F' 7 = F 7 := h 7 (by decide)
theorem lE.at8 (h : lE F F') : F' 8 = F 8 := h 8 (by decide)
theorem lE.at9 (h : lE F F') : F' 9 = F 9 := h 9 (by decide)
theorem lE.at10 (h : lE F F') : F' 10 = F 10 := h 10 (by decide)
theorem lE.at12 (h : lE F F') : F' 12 = F 12 := h 12 (by decide)
theorem lE.at13 (h : lE F F') : F' 13 = F 13 := h 13 (by decide)
theorem lE.at14 (h : lE F F') : F' 14 = F 14 := h 14 (by decide)
theorem fEq.at2 (h : fEq F F') : F' 2 = F 2 := h 2 (by decide) (by decide) (by decide) (by decide) (by decide) (by decide)
theorem fEq.at4 (h : fEq F F') : F' 4 = F 4 := h 4 (by decide) (by decide) (by decide) (by decide) (by decide) (by decide)
theorem fEq.at5 (h : fEq F F') : F' 5 = F 5 := h 5 (by decide) (by decide) (by decide) (by decide) (by decide) (by decide)
theorem fEq.at6 (h : fEq F F') : F' 6 = F 6 := h 6 (by decide) (by decide) (by decide) (by decide) (by decide) (by decide)
theorem fEq.at7 (h : fEq F F') : F' 7 = F 7 := h 7 (by decide) (by decide) (by decide) (by decide) (by decide) (by decide)
theorem fEq.at8 (h : fEq F F') : F' 8 = F 8 := h 8 (by decide) (by decide) (by decide) (by decide) (by decide) (by decide)
theorem fEq.at9 (h : fEq F F') : F' 9 = F 9 := h 9 (by decide) (by decide) (by decide) (by decide) (by decide) (by decide)
theorem fEq.at10 (h : fEq F F') : F' 10 = F 10 := h 10 (by decide) (by decide) (by decide) (by decide) (by decide) (by decide)
theorem fEq.at12 (h : fEq F F') : F' 12 = F 12 := h 12 (by decide) (by decide) (by decide) (by decide) (by decide) (by decide)
theorem fEq.at13 (h : fEq F F') : F' 13 = F 13 := h 13 (by decide) (by decide) (by decide) (by decide) (by decide) (by decide)
theorem fEq.at14 (h : fEq F F') : F' 14 = F 14 := h 14 (by decide) (by decide) (by decide) (by decide) (by decide) (by decide)
theorem fEq.at23 (h : fEq F F') : F' 23 = F 23 := h 23 (by decide) (by decide) (by decide) (by decide) (by decide) (by decide)
theorem fEq.at24 (h : fEq F F') : F' 24 = F 24 := h 24 (by decide) (by decide) (by decide) (by decide) (by decide) (by decide)
theorem fEq.at25 (h : fEq F F') : F' 25 = F 25 := h 25 (by decide) (by decide) (by decide) (by decide) (by decide) (by decide)
theorem fEq.at26 (h : fEq F F') : F' 26 = F 26 := h 26 (by decide) (by decide) (by decide) (by decide) (by decide) (by decide)
theorem mI_c {z z' : Nat → Int} (h : lE F F') (hz : ∀ k, k ≠ 27 → k ≠ 20 → z' k = z k) (hI : mI z F) : mI z' F' := by
  unfold mI at hI ⊢
  rw [h.at2, h.at4, h.at5, h.at6, h.at7, h.at8, h.at9, h.at10, h.at12, h.at13, h.at14, hz 0 (by decide) (by decide), hz 1 (by decide) (by decide), hz 3 (by decide) (by decide), hz 11 (by decide) (by decide), hz 22 (by decide) (by decide)]
  exact hI
theorem mI_fc {z : Nat → Int} (h : lE F F') (hI : mI z F) : mI z F' := mI_c h (fun _ _ _ => rfl) hI
theorem nmR_c (h : lE F F') {on : Int} {i : Nat} : ∀ n : Nat, nmR F' on i n = nmR F on i n
  | 0 => rfl
  | n + 1 => by rw [nmR_s, nmR_s, nmR_c h n, h.at8]
theorem nmOf_c (h : lE F F') {on : Int} {i : Nat} : nmOf F' on i = nmOf F on i := by unfold nmOf; rw [nmR_c h, h.at7]
theorem qOn_c (h : lE F F') {s i : Nat} : qOn F' s i = qOn F s i := by unfold qOn; rw [h.at4, h.at5, h.at12, h.at13]
theorem qRow_c (h : lE F F') {s i : Nat} : qRow F' s i = qRow F s i := by unfold qRow; rw [h.at5, h.at13]
theorem qCol_c (h : lE F F') {s i : Nat} : qCol F' s i = qCol F s i := by unfold qCol; rw [h.at4, h.at5, h.at12, h.at13, h.at14]
theorem cN_c (h : lE F F') {s i : Nat} : cN F' s i = cN F s i := by unfold cN; rw [qOn_c h, qCol_c h]
theorem rN_c (h : lE F F') {s i : Nat} : rN F' s i = rN F s i := by unfold rN; rw [qOn_c h, qRow_c h]
theorem dotP_c (h : lE F F') {s : Nat} : ∀ n : Nat, dotP F' s n = dotP F s n
  | 0 => rfl
  | n + 1 => by
    unfold dotP
    rw [dotP_c h n, qOn_c h, qRow_c h, qCol_c h]
theorem wrt_c (h : lE F F') (P : Nat → Int) (r c q w : Int) : wrt F' P r c q w = wrt F P r c q w := by unfold wrt; rw [h.at9, h.at10]
theorem lay1_c (h : lE F F') {s i : Nat} {day : Int} {st : (Nat → Int) × (Nat → Int)} : lay1 F' s day i st = lay1 F s day i st := by
  unfold lay1
  rw [qRow_c h, qCol_c h, nmOf_c h, h.at9, wrt_c h]
theorem layC_c (h : lE F F') {s i : Nat} {day hi : Int} : layC F' s day hi i = layC F s day hi i := by unfold layC; rw [h.at6, qOn_c h, nmOf_c h]
theorem layIn_c (h : lE F F') {s : Nat} {day hi : Int} {st : (Nat → Int) × (Nat → Int)} : ∀ n : Nat, layIn F' s day hi st n = layIn F s day hi st n
  | 0 => rfl
  | n + 1 => by rw [layIn_s, layIn_s, layIn_c h n, layC_c h, lay1_c h]
theorem layUp_c (h : lE F F') {s np : Nat} {day : Int} {st : (Nat → Int) × (Nat → Int)} : ∀ n : Nat, layUp F' s np day st n = layUp F s np day st n
  | 0 => rfl
  | n + 1 => by rw [layUp_s, layUp_s, layUp_c h n, layIn_c h]
theorem layA_c (h : lE F F') {s np : Nat} {day : Int} {C : Nat → Int} : layA F' s np day C = layA F s np day C := by unfold layA; rw [layUp_c h, dotP_c h]
theorem lay0_c (h : lE F F') {s np : Nat} {day : Int} : lay0 F' s np day = lay0 F s np day := layA_c h
end
theorem gM.mono {l : Launch} {D : gD} {base : Nat} {y : MethodName} {cc : ByteArray} {nL : Nat} {ret : Option FieldType} {f loc mc ms : Nat} {args : List Value} {gh : gH} {post post' : Option Value → gH → Prop} {postX postX' : String → gH → Prop} (h : gM l D base y cc nL ret f loc mc ms args gh post postX) (hp : ∀ r g, post r g → post' r g) (hx : ∀ E g, postX E g → postX' E g) : gM l D base y cc nL ret f loc mc ms args gh post' postX' := by
  intro p e ha hc hk st m args below hf hap hP hK
  obtain ⟨n, o, h1, h2, h3, h4⟩ := h p e ha hc hk st m args below hf hap hP hK
  refine ⟨n, o, h1, h2, h3, ?_⟩
  rcases h4 with ⟨⟨⟨r, gh', e1, e2, e3⟩, e8⟩, e9⟩ | ⟨q, e1, E, ce, L, ⟨⟨gh', e2, e3⟩, e4⟩, e5⟩
  · exact Or.inl ⟨⟨⟨r, gh', e1, hp _ _ e2, e3⟩, e8⟩, e9⟩
  · exact Or.inr ⟨q, e1, E, ce, L, ⟨⟨gh', hx _ _ e2, e3⟩, e4⟩, e5⟩
theorem mM.mono {l : Launch} {D : gD} {base : Nat} {y : MethodName} {cc : ByteArray} {nL : Nat} {ret : Option FieldType} {f loc mo : Nat} {ad : Nat → Nat} {As : List Value} {z : Nat → Int} {F : Nat → Nat → Int} {post post' : Option Value → (Nat → Int) → (Nat → Nat → Int) → Prop} (h : mM l D base y cc nL ret f loc mo ad As z F post) (hp : ∀ r z' F', post r z' F' → post' r z' F') : mM l D base y cc nL ret f loc mo ad As z F post' := fun gh hr =>
  (h gh hr).mono (fun r g ⟨z', F', h1, h2⟩ => ⟨z', F', hp _ _ _ h1, h2⟩) (fun E g q => q)
/-- the rows with the typed word told as the name of the place i -/
def namF (z : Nat → Int) (F : Nat → Nat → Int) (i : Nat) : Nat → Nat → Int :=
  gup (gup (gup (gup F 8 (gup (F 8) (6 * i + (F 7 i).toNat) (z 0))) 9 (gup (F 9) (6 * i + (F 7 i).toNat) (z 1))) 10 (putN (F 10) (8 * (6 * i + (F 7 i).toNat)) (F 2) (z 1).toNat)) 7 (gup (F 7) i (F 7 i + 1))
theorem mI_name {z z' : Nat → Int} {F : Nat → Nat → Int} (hI : mI z F) {i : Nat} (hi : (i : Int) < z 3) (h1 : 0 < z 1) (h6 : F 7 i < 6) (e0 : z' 0 = z 0) (e1 : z' 1 = 0) (e3 : z' 3 = z 3) (e11 : z' 11 = z 11) (e22 : z' 22 = z 22) : mI z' (namF z F i) := by
  obtain ⟨i0, i1, i3, i11, i22, iw, ip, inn, inm, ish⟩ := hI
  have hii := inn i (by omega)
  refine ⟨by rw [e0]; exact i0, by rw [e1]; omega, by rw [e3]; exact i3, by rw [e11]; exact i11, by rw [e22]; exact i22, fun t ht => by rw [e1] at ht; omega, fun j hj => ip j (by rw [← e3]; exact hj), fun j hj => ?_, fun j k hj hk => ?_, fun k hk => ish k (by rw [← e11]; exact hk)⟩
  · show 0 ≤ gup (F 7) i (F 7 i + 1) j ∧ gup (F 7) i (F 7 i + 1) j ≤ 6 ∧ (z' 3 ≤ (j : Int) → gup (F 7) i (F 7 i + 1) j = 0)
    have := inn j hj
    rw [e3]
    by_cases e : j = i
    · subst e
      rw [gup_eq]
      omega
    · rw [gup_ne e]; exact this
  · have hkk : (k : Int) < gup (F 7) i (F 7 i + 1) j := hk
    show 0 ≤ gup (F 8) _ (z 0) (6 * j + k) ∧ gup (F 8) (6 * i + (F 7 i).toNat) (z 0) (6 * j + k) ≤ z' 0 ∧ 1 ≤ gup (F 9) (6 * i + (F 7 i).toNat) (z 1) (6 * j + k) ∧ gup (F 9) (6 * i + (F 7 i).toNat) (z 1) (6 * j + k) ≤ 8 ∧ ∀ t : Nat, (t : Int) < gup (F 9) (6 * i + (F 7 i).toNat) (z 1) (6 * j + k) → 97 ≤ putN (F 10) (8 * (6 * i + (F 7 i).toNat)) (F 2) (z 1).toNat (8 * (6 * j + k) + t) ∧ putN (F 10) (8 * (6 * i + (F 7 i).toNat)) (F 2) (z 1).toNat (8 * (6 * j + k) + t) ≤ 122
    rw [e0]
    by_cases e : 6 * j + k = 6 * i + (F 7 i).toNat
    · rw [e, gup_eq, gup_eq]
      refine ⟨by omega, by omega, by omega, by omega, fun t ht => ?_⟩
      rw [putN_in (by omega)]
      exact iw t ht
    · rw [gup_ne e, gup_ne e]
      have hold : (k : Int) < F 7 j := by
        by_cases e2 : j = i
        · subst e2
          rw [gup_eq] at hkk
          omega
        · rw [gup_ne e2] at hkk; exact hkk
      have := inm j k hj hold
      refine ⟨this.1, this.2.1, this.2.2.1, this.2.2.2.1, fun t ht => ?_⟩
      rw [putN_out (by omega)]
      exact this.2.2.2.2 t ht
def pushIn (F G : Nat → Nat → Int) (i k np : Nat) (day : Int) : Nat → Int
  | 0 => 0
  | n + 1 => pushIn F G i k np day n + (if n ≠ i ∧ (lay0 G k np day).1 n ≠ (lay0 F k np day).1 n then 1 else 0)
/-- how many names are pushed when the rows F become G: over the sheets, each other place that stands elsewhere -/
def pushUp (F G : Nat → Nat → Int) (i np : Nat) (day : Int) : Nat → Int
  | 0 => 0
  | k + 1 => pushUp F G i np day k + pushIn F G i k np day np
theorem pushIn_s (F G : Nat → Nat → Int) (i k np : Nat) (day : Int) (n : Nat) : pushIn F G i k np day (n + 1) = pushIn F G i k np day n + (if n ≠ i ∧ (lay0 G k np day).1 n ≠ (lay0 F k np day).1 n then 1 else 0) := rfl
theorem pushUp_s (F G : Nat → Nat → Int) (i np : Nat) (day : Int) (k : Nat) : pushUp F G i np day (k + 1) = pushUp F G i np day k + pushIn F G i k np day np := rfl
theorem pushIn_rng {F G : Nat → Nat → Int} {i k np : Nat} {day : Int} : ∀ n : Nat, 0 ≤ pushIn F G i k np day n ∧ pushIn F G i k np day n ≤ n
  | 0 => by unfold pushIn; omega
  | n + 1 => by
    have := pushIn_rng (F := F) (G := G) (i := i) (k := k) (np := np) (day := day) n
    rw [pushIn_s]
    split <;> omega
theorem pushUp_rng {F G : Nat → Nat → Int} {i np : Nat} {day : Int} : ∀ k : Nat, 0 ≤ pushUp F G i np day k ∧ pushUp F G i np day k ≤ (k : Int) * np
  | 0 => by unfold pushUp; simp
  | k + 1 => by
    have h1 := pushUp_rng (F := F) (G := G) (i := i) (np := np) (day := day) k
    have h2 := pushIn_rng (F := F) (G := G) (i := i) (k := k) (np := np) (day := day) np
    rw [pushUp_s]
    have e : ((k + 1 : Nat) : Int) * np = (k : Int) * np + np := by rw [Int.natCast_succ, Int.add_mul, Int.one_mul]
    omega
end CG
