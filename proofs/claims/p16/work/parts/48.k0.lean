/-! the class's cells by names: an address for each name, a content for each name; the pictures of a place and of a sheet -/
section K0
abbrev Tg : Type := Nat × Nat × Nat
def cR (ad : Tg → Nat) (ct : Tg → Option gC) (gh : gH) : Prop := (∀ t c, ct t = some c → gh (ad t) = some c) ∧ ∀ t t' c c', ct t = some c → ct t' = some c' → ad t = ad t' → t = t'
def cup (ct : Tg → Option gC) (t : Tg) (c : gC) : Tg → Option gC := fun u => if u = t then some c else ct u
def aup (ad : Tg → Nat) (t : Tg) (q : Nat) : Tg → Nat := fun u => if u = t then q else ad u
theorem cup_eq {ct : Tg → Option gC} {t : Tg} {c : gC} : cup ct t c t = some c := if_pos rfl
theorem cup_ne {ct : Tg → Option gC} {t u : Tg} {c : gC} (h : u ≠ t) : cup ct t c u = ct u := if_neg h
theorem aup_eq {ad : Tg → Nat} {t : Tg} {q : Nat} : aup ad t q t = q := if_pos rfl
theorem aup_ne {ad : Tg → Nat} {t u : Tg} {q : Nat} (h : u ≠ t) : aup ad t q u = ad u := if_neg h
theorem cR.put {ad : Tg → Nat} {ct : Tg → Option gC} {gh : gH} (h : cR ad ct gh) {t : Tg} {c0 : gC} (ht : ct t = some c0) (c : gC) : cR ad (cup ct t c) (gset gh (ad t) c) := by
  constructor
  · intro u d hu
    by_cases e : u = t
    · subst e
      rw [cup_eq] at hu
      cases hu
      exact gset_eq
    · rw [cup_ne e] at hu
      rw [gset_ne (fun q => e (h.2 u t d c0 hu ht q))]
      exact h.1 u d hu
  · intro u u' d d' hu hu' hq
    have f : ∀ v e, cup ct t c v = some e → ∃ e', ct v = some e' := fun v e hv => by
      by_cases q : v = t
      · rw [q]; exact ⟨c0, ht⟩
      · rw [cup_ne q] at hv; exact ⟨e, hv⟩
    obtain ⟨e, he⟩ := f u d hu
    obtain ⟨e', he'⟩ := f u' d' hu'
    exact h.2 u u' e e' he he' hq
theorem cR.new {ad : Tg → Nat} {ct : Tg → Option gC} {gh : gH} (h : cR ad ct gh) {t : Tg} {q : Nat} (hq : gh q = none) (c : gC) : cR (aup ad t q) (cup ct t c) (gset gh q c) := by
  have f : ∀ u d, u ≠ t → cup ct t c u = some d → ct u = some d ∧ ad u ≠ q := fun u d e hu => by
    rw [cup_ne e] at hu
    exact ⟨hu, fun z => by have := h.1 u d hu; rw [z, hq] at this; cases this⟩
  constructor
  · intro u d hu
    by_cases e : u = t
    · subst e
      rw [cup_eq] at hu
      cases hu
      rw [aup_eq]
      exact gset_eq
    · obtain ⟨h1, h2⟩ := f u d e hu
      rw [aup_ne e, gset_ne h2]
      exact h.1 u d h1
  · intro u u' d d' hu hu' hz
    by_cases e : u = t
    · by_cases e' : u' = t
      · rw [e, e']
      · obtain ⟨h1, h2⟩ := f u' d' e' hu'
        rw [e, aup_eq, aup_ne e'] at hz
        exact absurd hz.symm h2
    · obtain ⟨h1, h2⟩ := f u d e hu
      by_cases e' : u' = t
      · rw [e', aup_eq, aup_ne e] at hz
        exact absurd hz h2
      · obtain ⟨h3, h4⟩ := f u' d' e' hu'
        rw [aup_ne e, aup_ne e'] at hz
        exact h.2 u u' d d' h1 h3 hz
theorem cR.ne {ad : Tg → Nat} {ct : Tg → Option gC} {gh : gH} (h : cR ad ct gh) {t u : Tg} {c d : gC} (ht : ct t = some c) (hu : ct u = some d) (hn : t ≠ u) : ad t ≠ ad u := fun e => hn (h.2 t u c d ht hu e)
/-- the word of a place on a day -/
def wdA (ad : Tg → Nat) (F : Nat → Nat → Int) (day : Int) (i : Nat) : Option Nat := wR (fun j => F 8 (6 * i + j)) (fun j => ad (6, i, j)) day (F 7 i).toNat
theorem wR_nm {F : Nat → Nat → Int} {day : Int} {i : Nat} {sp : Nat → Nat} : ∀ n : Nat, (nmR F day i n = -1 ∧ wR (fun j => F 8 (6 * i + j)) sp day n = none) ∨ ∃ j : Nat, j < n ∧ nmR F day i n = 6 * (i : Int) + j ∧ wR (fun j => F 8 (6 * i + j)) sp day n = some (sp j)
  | 0 => Or.inl ⟨rfl, rfl⟩
  | n + 1 => by
    rw [nmR_s, wR_s]
    by_cases h : F 8 (6 * i + n) ≤ day
    · rw [if_pos h, if_pos h]
      exact Or.inr ⟨n, by omega, rfl, rfl⟩
    · rw [if_neg h, if_neg h]
      rcases wR_nm (F := F) (day := day) (i := i) (sp := sp) n with q | ⟨j, h1, h2, h3⟩
      · exact Or.inl q
      · exact Or.inr ⟨j, by omega, h2, h3⟩
theorem wdA_nm (ad : Tg → Nat) (F : Nat → Nat → Int) (day : Int) (i : Nat) : (nmOf F day i = -1 ∧ wdA ad F day i = none) ∨ ∃ j : Nat, j < (F 7 i).toNat ∧ nmOf F day i = 6 * (i : Int) + j ∧ (nmOf F day i).toNat = 6 * i + j ∧ wdA ad F day i = some (ad (6, i, j)) := by
  rcases wR_nm (F := F) (day := day) (i := i) (sp := fun j => ad (6, i, j)) (F 7 i).toNat with q | ⟨j, h1, h2, h3⟩
  · exact Or.inl q
  · exact Or.inr ⟨j, h1, h2, by unfold nmOf; omega, h3⟩
theorem wdA_some {ad : Tg → Nat} {F : Nat → Nat → Int} {day : Int} {i : Nat} : (wdA ad F day i).isSome = decide (nmOf F day i ≠ -1) := by
  rcases wdA_nm ad F day i with ⟨h1, h2⟩ | ⟨j, h1, h2, h3, h4⟩
  · rw [h1, h2]; rfl
  · rw [h4, decide_eq_true (by omega)]; rfl
/-- a place: its object, the array of its spellings, each spelling with its string and its letters -/
def PLP (ad : Tg → Nat) (F : Nat → Nat → Int) (i : Nat) (ct : Tg → Option gC) : Prop :=
  ct (3, i, 0) = some (gO 6 [vi (F 4 i), vi (F 5 i), vi (F 6 i), .ref (ad (4, i, 0)), vi (F 7 i)]) ∧
  ct (4, i, 0) = some (gR 7 6 (fun j => if (j : Int) < F 7 i then some (ad (5, i, j)) else none)) ∧
  ∀ j : Nat, (j : Int) < F 7 i → ct (5, i, j) = some (gO 8 [vi (F 8 (6 * i + j)), .ref (ad (6, i, j))]) ∧ ct (6, i, j) = some (gO 0 [.ref (ad (7, i, j)), vi 0, vi 0, vi 0]) ∧ ct (7, i, j) = some (gI 2 (F 9 (6 * i + j)).toNat (fun t => F 10 (8 * (6 * i + j) + t)))
theorem PLP.fr {ad : Tg → Nat} {F : Nat → Nat → Int} {i : Nat} {ct ct' : Tg → Option gC} (h : PLP ad F i ct) (hc : ∀ a b c : Nat, 3 ≤ a → a ≤ 7 → ct' (a, b, c) = ct (a, b, c)) : PLP ad F i ct' := by
  obtain ⟨h1, h2, h3⟩ := h
  refine ⟨by rw [hc _ _ _ (by decide) (by decide)]; exact h1, by rw [hc _ _ _ (by decide) (by decide)]; exact h2, fun j hj => ?_⟩
  obtain ⟨h4, h5, h6⟩ := h3 j hj
  exact ⟨by rw [hc _ _ _ (by decide) (by decide)]; exact h4, by rw [hc _ _ _ (by decide) (by decide)]; exact h5, by rw [hc _ _ _ (by decide) (by decide)]; exact h6⟩
/-- the names of a sheet's cells -/
def tS (k : Nat) (t : Tg) : Prop := 10 ≤ t.1 ∧ t.1 ≤ 17 ∧ t.2.1 = k
def spO (ad : Tg → Nat) (F : Nat → Nat → Int) (k i : Nat) (wo : Option Nat) (sd ah : Int) : gC := gO 9 [vi (F 6 i), vi (cN F k i), vi (rN F k i), .ref (ad (3, i, 0)), va_rf wo, vi sd, vi ah]
/-- a sheet: n spots with words, sides and the sides before; the named ones in their order; the picture P and the trial picture T -/
def SHP (ad : Tg → Nat) (F : Nat → Nat → Int) (k n : Nat) (sd ah : Nat → Int) (wo : Nat → Option Nat) (c : Nat) (lo : Nat → Nat) (N : Nat → Option Nat) (P T : Nat → Int) (ct : Tg → Option gC) : Prop :=
  ct (10, k, 0) = some (gO 7 [.ref (ad (13, k, 0)), .ref (ad (15, k, 0)), vi (F 12 k), vi (F 13 k), vi (F 14 k), .ref (ad (11, k, 0)), vi (n : Int), .ref (ad (12, k, 0)), vi (c : Int)]) ∧
  ct (11, k, 0) = some (gR 8 14 (fun i => if i < n then some (ad (17, k, i)) else none)) ∧
  ct (12, k, 0) = some (gR 8 14 N) ∧
  ct (13, k, 0) = some (gO 5 [.ref (ad (14, k, 0))]) ∧ ct (14, k, 0) = some (gI 0 960 P) ∧
  ct (15, k, 0) = some (gO 5 [.ref (ad (16, k, 0))]) ∧ ct (16, k, 0) = some (gI 0 960 T) ∧
  (∀ i : Nat, i < n → ct (17, k, i) = some (spO ad F k i (wo i) (sd i) (ah i))) ∧
  (∀ q : Nat, q < c → N q = some (ad (17, k, lo q)) ∧ lo q < n)
section
variable {ad : Tg → Nat} {F : Nat → Nat → Int} {k n : Nat} {sd ah : Nat → Int} {wo : Nat → Option Nat} {c : Nat} {lo : Nat → Nat} {N : Nat → Option Nat} {P T : Nat → Int} {ct : Tg → Option gC}
theorem SHP.fr {ct' : Tg → Option gC} (h : SHP ad F k n sd ah wo c lo N P T ct) (hc : ∀ t, tS k t → ct' t = ct t) : SHP ad F k n sd ah wo c lo N P T ct' := by
  obtain ⟨h1, h2, h3, h4, h5, h6, h7, h8, h9⟩ := h
  have e : ∀ a b : Nat, 10 ≤ a → a ≤ 17 → ct' (a, k, b) = ct (a, k, b) := fun a b ha hb => hc (a, k, b) ⟨ha, hb, rfl⟩
  exact ⟨by rw [e _ _ (by decide) (by decide)]; exact h1, by rw [e _ _ (by decide) (by decide)]; exact h2, by rw [e _ _ (by decide) (by decide)]; exact h3, by rw [e _ _ (by decide) (by decide)]; exact h4, by rw [e _ _ (by decide) (by decide)]; exact h5, by rw [e _ _ (by decide) (by decide)]; exact h6, by rw [e _ _ (by decide) (by decide)]; exact h7, fun i hi => by rw [e _ _ (by decide) (by decide)]; exact h8 i hi, h9⟩
theorem SHP.pic (h : SHP ad F k n sd ah wo c lo N P T ct) (P' : Nat → Int) : SHP ad F k n sd ah wo c lo N P' T (cup ct (14, k, 0) (gI 0 960 P')) := by
  obtain ⟨h1, h2, h3, h4, h5, h6, h7, h8, h9⟩ := h
  exact ⟨by rw [cup_ne (by simp)]; exact h1, by rw [cup_ne (by simp)]; exact h2, by rw [cup_ne (by simp)]; exact h3, by rw [cup_ne (by simp)]; exact h4, cup_eq, by rw [cup_ne (by simp)]; exact h6, by rw [cup_ne (by simp)]; exact h7, fun i hi => by rw [cup_ne (by simp)]; exact h8 i hi, h9⟩
theorem SHP.tri (h : SHP ad F k n sd ah wo c lo N P T ct) (T' : Nat → Int) : SHP ad F k n sd ah wo c lo N P T' (cup ct (16, k, 0) (gI 0 960 T')) := by
  obtain ⟨h1, h2, h3, h4, h5, h6, h7, h8, h9⟩ := h
  exact ⟨by rw [cup_ne (by simp)]; exact h1, by rw [cup_ne (by simp)]; exact h2, by rw [cup_ne (by simp)]; exact h3, by rw [cup_ne (by simp)]; exact h4, by rw [cup_ne (by simp)]; exact h5, by rw [cup_ne (by simp)]; exact h6, cup_eq, fun i hi => by rw [cup_ne (by simp)]; exact h8 i hi, h9⟩
theorem SHP.list (h : SHP ad F k n sd ah wo c lo N P T ct) {c' : Nat} {lo' : Nat → Nat} {N' : Nat → Option Nat} (h' : ∀ q : Nat, q < c' → N' q = some (ad (17, k, lo' q)) ∧ lo' q < n) : SHP ad F k n sd ah wo c' lo' N' P T (cup (cup ct (12, k, 0) (gR 8 14 N')) (10, k, 0) (gO 7 [.ref (ad (13, k, 0)), .ref (ad (15, k, 0)), vi (F 12 k), vi (F 13 k), vi (F 14 k), .ref (ad (11, k, 0)), vi (n : Int), .ref (ad (12, k, 0)), vi (c' : Int)])) := by
  obtain ⟨h1, h2, h3, h4, h5, h6, h7, h8, h9⟩ := h
  exact ⟨cup_eq, by rw [cup_ne (by simp), cup_ne (by simp)]; exact h2, by rw [cup_ne (by simp), cup_eq], by rw [cup_ne (by simp), cup_ne (by simp)]; exact h4, by rw [cup_ne (by simp), cup_ne (by simp)]; exact h5, by rw [cup_ne (by simp), cup_ne (by simp)]; exact h6, by rw [cup_ne (by simp), cup_ne (by simp)]; exact h7, fun i hi => by rw [cup_ne (by simp), cup_ne (by simp)]; exact h8 i hi, h'⟩
theorem SHP.spot (h : SHP ad F k n sd ah wo c lo N P T ct) (i : Nat) (v : Int) : SHP ad F k n (gup sd i v) ah wo c lo N P T (cup ct (17, k, i) (spO ad F k i (wo i) v (ah i))) := by
  obtain ⟨h1, h2, h3, h4, h5, h6, h7, h8, h9⟩ := h
  refine ⟨by rw [cup_ne (by simp)]; exact h1, by rw [cup_ne (by simp)]; exact h2, by rw [cup_ne (by simp)]; exact h3, by rw [cup_ne (by simp)]; exact h4, by rw [cup_ne (by simp)]; exact h5, by rw [cup_ne (by simp)]; exact h6, by rw [cup_ne (by simp)]; exact h7, fun j hj => ?_, h9⟩
  by_cases e : j = i
  · subst e
    rw [cup_eq, gup_eq]
  · rw [cup_ne (by simp; exact e), gup_ne e]
    exact h8 j hj
/-- the spots have taken up their words, the first m of them -/
def tkC (ad : Tg → Nat) (F : Nat → Nat → Int) (k : Nat) (day : Int) (sd : Nat → Int) (ct : Tg → Option gC) (m : Nat) : Tg → Option gC := fun u => if u.1 = 17 ∧ u.2.1 = k ∧ u.2.2 < m then some (spO ad F k u.2.2 (wdA ad F day u.2.2) (-1) (sd u.2.2)) else ct u
theorem tkC_0 {day : Int} : tkC ad F k day sd ct 0 = ct := by
  funext u
  exact if_neg (fun h => Nat.not_lt_zero _ h.2.2)
theorem tkC_s {day : Int} {m : Nat} : cup (tkC ad F k day sd ct m) (17, k, m) (spO ad F k m (wdA ad F day m) (-1) (sd m)) = tkC ad F k day sd ct (m + 1) := by
  funext u
  obtain ⟨a, b, d⟩ := u
  unfold cup tkC
  by_cases e : (a, b, d) = ((17, k, m) : Tg)
  · cases e
    rw [if_pos rfl, if_pos ⟨rfl, rfl, Nat.lt_succ_self m⟩]
  · rw [if_neg e]
    by_cases h : a = 17 ∧ b = k ∧ d < m
    · rw [if_pos h, if_pos ⟨h.1, h.2.1, Nat.lt_succ_of_lt h.2.2⟩]
    · rw [if_neg h, if_neg (fun q => ?_)]
      apply h
      refine ⟨q.1, q.2.1, ?_⟩
      have : d ≠ m := fun z => e (by rw [show a = 17 from q.1, show b = k from q.2.1, z])
      have := q.2.2
      simp only at this
      omega
theorem tkC_ne {day : Int} {m a b d : Nat} (h : a ≠ 17 ∨ b ≠ k ∨ m ≤ d) : tkC ad F k day sd ct m (a, b, d) = ct (a, b, d) := if_neg (fun q => by have h1 := q.1; have h2 := q.2.1; have h3 := q.2.2; simp only at h1 h2 h3; omega)
theorem SHP.took {day : Int} (h : SHP ad F k n sd ah wo c lo N P T ct) : SHP ad F k n (fun _ => -1) sd (wdA ad F day) c lo N P T (tkC ad F k day sd ct n) := by
  obtain ⟨h1, h2, h3, h4, h5, h6, h7, h8, h9⟩ := h
  refine ⟨by rw [tkC_ne (Or.inl (by decide))]; exact h1, by rw [tkC_ne (Or.inl (by decide))]; exact h2, by rw [tkC_ne (Or.inl (by decide))]; exact h3, by rw [tkC_ne (Or.inl (by decide))]; exact h4, by rw [tkC_ne (Or.inl (by decide))]; exact h5, by rw [tkC_ne (Or.inl (by decide))]; exact h6, by rw [tkC_ne (Or.inl (by decide))]; exact h7, fun j hj => ?_, h9⟩
  exact if_pos ⟨rfl, rfl, hj⟩
end
/-- the places of a list placed one behind the other -/
def lyL (F : Nat → Nat → Int) (s : Nat) (day : Int) (st : (Nat → Int) × (Nat → Int)) (L : List Nat) : (Nat → Int) × (Nat → Int) := L.foldl (fun st i => lay1 F s day i st) st
theorem lyL_app {F : Nat → Nat → Int} {s : Nat} {day : Int} {st : (Nat → Int) × (Nat → Int)} {L : List Nat} {i : Nat} : lyL F s day st (L ++ [i]) = lay1 F s day i (lyL F s day st L) := by
  unfold lyL
  rw [List.foldl_append]
  rfl
theorem lsC_layC {ad : Tg → Nat} {F : Nat → Nat → Int} {s : Nat} {day h : Int} {i : Nat} : lsC F s (wdA ad F day) h i = layC F s day h i := by
  unfold lsC layC
  rw [cN_on, wdA_some]
theorem lyL_I {ad : Tg → Nat} {F : Nat → Nat → Int} {s : Nat} {day h : Int} {st : (Nat → Int) × (Nat → Int)} {A : List Nat} : ∀ n : Nat, lyL F s day st (lsI F s (wdA ad F day) h A n) = layIn F s day h (lyL F s day st A) n
  | 0 => rfl
  | n + 1 => by
    rw [lsI_s, layIn_s, lsC_layC, ← lyL_I n]
    split
    · exact lyL_app
    · rfl
theorem lyL_U {ad : Tg → Nat} {F : Nat → Nat → Int} {s np : Nat} {day : Int} {st : (Nat → Int) × (Nat → Int)} : ∀ m : Nat, lyL F s day st (lsU F s (wdA ad F day) np m) = layUp F s np day st m
  | 0 => rfl
  | m + 1 => by rw [lsU_s, lyL_I, lyL_U m, layUp_s]
theorem lyL_lay0 {ad : Tg → Nat} {F : Nat → Nat → Int} {s np : Nat} {day : Int} : lyL F s day (fun _ => -1, dotP F s np) (lsU F s (wdA ad F day) np 5) = lay0 F s np day := by
  rw [lyL_U]
  unfold lay0 layA
  congr 2
  funext j
  unfold upto
  split <;> rfl
theorem lyL_out {F : Nat → Nat → Int} {s : Nat} {day : Int} {i : Nat} : ∀ (L : List Nat) (st : (Nat → Int) × (Nat → Int)), i ∉ L → (lyL F s day st L).1 i = st.1 i
  | [], _, _ => rfl
  | j :: L, st, h => by
    show (lyL F s day (lay1 F s day j st) L).1 i = st.1 i
    rw [lyL_out L _ (fun q => h (List.mem_cons_of_mem _ q)), lay1_ne (fun q => h (by rw [q]; exact List.mem_cons_self))]
theorem lsI_mem {F : Nat → Nat → Int} {k : Nat} {wo : Nat → Option Nat} {h : Int} {A : List Nat} {i : Nat} : ∀ n : Nat, i ∈ lsI F k wo h A n ↔ i ∈ A ∨ (i < n ∧ lsC F k wo h i = true)
  | 0 => by show i ∈ A ↔ _; simp
  | n + 1 => by
    rw [lsI_s]
    by_cases hc : lsC F k wo h n = true
    · rw [if_pos hc, List.mem_append, List.mem_singleton, lsI_mem n]
      constructor
      · rintro ((h1 | ⟨h1, h2⟩) | rfl)
        · exact Or.inl h1
        · exact Or.inr ⟨by omega, h2⟩
        · exact Or.inr ⟨by omega, hc⟩
      · rintro (h1 | ⟨h1, h2⟩)
        · exact Or.inl (Or.inl h1)
        · by_cases e : i = n
          · exact Or.inr e
          · exact Or.inl (Or.inr ⟨by omega, h2⟩)
    · rw [if_neg hc, lsI_mem n]
      constructor
      · rintro (h1 | ⟨h1, h2⟩)
        · exact Or.inl h1
        · exact Or.inr ⟨by omega, h2⟩
      · rintro (h1 | ⟨h1, h2⟩)
        · exact Or.inl h1
        · refine Or.inr ⟨?_, h2⟩
          by_cases e : i = n
          · subst e; exact absurd h2 hc
          · omega
theorem lsU_mem {F : Nat → Nat → Int} {k : Nat} {wo : Nat → Option Nat} {np i : Nat} : ∀ m : Nat, m ≤ 5 → (i ∈ lsU F k wo np m ↔ i < np ∧ 5 - (m : Int) < F 6 i ∧ F 6 i ≤ 5 ∧ qOn F k i = true ∧ (wo i).isSome = true)
  | 0, _ => by
    show i ∈ [] ↔ _
    constructor
    · intro h; exact absurd h List.not_mem_nil
    · rintro ⟨h1, h2, h3, h4⟩; omega
  | m + 1, hm => by
    rw [lsU_s, lsI_mem, lsU_mem m (by omega), lsC_iff]
    constructor
    · rintro (⟨h1, h2, h3, h4⟩ | ⟨h1, h2, h3, h4⟩)
      · exact ⟨h1, by omega, h3, h4⟩
      · exact ⟨h1, by omega, by omega, h3, h4⟩
    · rintro ⟨h1, h2, h3, h4, h5⟩
      by_cases e : F 6 i = 5 - (m : Int)
      · exact Or.inr ⟨h1, e, h4, h5⟩
      · exact Or.inl ⟨h1, by omega, h3, h4, h5⟩
theorem lsI_nodup {F : Nat → Nat → Int} {k : Nat} {wo : Nat → Option Nat} {h : Int} {A : List Nat} (hA : A.Nodup) (h6 : ∀ i ∈ A, F 6 i ≠ h) : ∀ n : Nat, (lsI F k wo h A n).Nodup
  | 0 => hA
  | n + 1 => by
    rw [lsI_s]
    split
    · refine List.nodup_append.mpr ⟨lsI_nodup hA h6 n, by simp, fun a ha b hb => ?_⟩
      rw [List.mem_singleton] at hb
      next hc =>
      rcases (lsI_mem n).mp ha with q | q
      · exact fun e => h6 a q (by rw [e, hb]; exact (lsC_iff.mp hc).1)
      · omega
    · exact lsI_nodup hA h6 n
theorem lsU_nodup {F : Nat → Nat → Int} {k : Nat} {wo : Nat → Option Nat} {np : Nat} : ∀ m : Nat, m ≤ 5 → (lsU F k wo np m).Nodup
  | 0, _ => List.nodup_nil
  | m + 1, hm => by
    rw [lsU_s]
    exact lsI_nodup (lsU_nodup m (by omega)) (fun i hi => by have := ((lsU_mem m (by omega)).mp hi).2.1; omega) np
theorem lsU_len14 {F : Nat → Nat → Int} {k : Nat} {wo : Nat → Option Nat} {np : Nat} (m : Nat) : (lsU F k wo np m).length ≤ np := by
  have h1 := lsU_len (F := F) (k := k) (wo := wo) (np := np) m
  have h2 := gtc_eqc (R := F 6) (h := 5 - (m : Int)) np
  omega
end K0
