/-! pictures as functions: dots, free cells, writing; the reference's scratch rows -/
section PU
theorem gup_gup {α : Type} (F : Nat → α) (k : Nat) (a b : α) : gup (gup F k a) k b = gup F k b := by
  funext j; unfold gup; split <;> rfl
theorem gup_self {α : Type} (F : Nat → α) (k : Nat) : gup F k (F k) = F := by
  funext j; unfold gup; split
  · next h => rw [h]
  · rfl
theorem gup_comm {α : Type} (F : Nat → α) {k m : Nat} (h : k ≠ m) (a b : α) : gup (gup F k a) m b = gup (gup F m b) k a := by
  funext j; unfold gup
  by_cases h1 : j = m
  · rw [if_pos h1, if_neg (by omega), if_pos h1]
  · rw [if_neg h1]
    split <;> rfl
def upto {α : Type} (f g : Nat → α) (n : Nat) : Nat → α := fun k => if k < n then f k else g k
theorem upto_0 {α : Type} (f g : Nat → α) : upto f g 0 = g := by funext k; unfold upto; rw [if_neg (by omega)]
theorem upto_s {α : Type} (f g : Nat → α) (n : Nat) {v : α} (h : v = f n) : gup (upto f g n) n v = upto f g (n + 1) := by
  funext k; unfold gup upto
  by_cases h1 : k = n
  · rw [if_pos h1, if_pos (by omega), h, h1]
  · rw [if_neg h1]
    by_cases h2 : k < n
    · rw [if_pos h2, if_pos (by omega)]
    · rw [if_neg h2, if_neg (by omega)]
theorem upto_lt {α : Type} {f g : Nat → α} {n k : Nat} (h : k < n) : upto f g n k = f k := if_pos h
/-- the rows 15 to 18 (columns, rows, sides, signs) put anew -/
def F4 (F : Nat → Nat → Int) (A B C P : Nat → Int) : Nat → Nat → Int := gup (gup (gup (gup F 15 A) 16 B) 17 C) 18 P
theorem F4_self (F : Nat → Nat → Int) : F4 F (F 15) (F 16) (F 17) (F 18) = F := by
  unfold F4
  rw [gup_self]
  rw [show F 16 = (gup F 15 (F 15)) 16 from rfl]
  rw [gup_self, gup_self F, gup_self F]
  exact gup_self F 18
theorem F4_15 (F : Nat → Nat → Int) (A B C P X : Nat → Int) : gup (F4 F A B C P) 15 X = F4 F X B C P := by
  unfold F4
  rw [gup_comm _ (by decide), gup_comm (gup (gup F 15 A) 16 B) (by decide), gup_comm (gup F 15 A) (by decide), gup_gup]
theorem F4_16 (F : Nat → Nat → Int) (A B C P X : Nat → Int) : gup (F4 F A B C P) 16 X = F4 F A X C P := by
  unfold F4
  rw [gup_comm _ (by decide), gup_comm (gup (gup F 15 A) 16 B) (by decide), gup_gup]
theorem F4_17 (F : Nat → Nat → Int) (A B C P X : Nat → Int) : gup (F4 F A B C P) 17 X = F4 F A B X P := by
  unfold F4
  rw [gup_comm _ (by decide), gup_gup]
theorem F4_18 (F : Nat → Nat → Int) (A B C P X : Nat → Int) : gup (F4 F A B C P) 18 X = F4 F A B C X := by
  unfold F4
  rw [gup_gup]
theorem F4_F4 (F : Nat → Nat → Int) (A B C P A' B' C' P' : Nat → Int) : F4 (F4 F A B C P) A' B' C' P' = F4 F A' B' C' P' := by
  show gup (gup (gup (gup (F4 F A B C P) 15 A') 16 B') 17 C') 18 P' = _
  rw [F4_15, F4_16, F4_17, F4_18]
theorem mI_F4 {z : Nat → Int} {F : Nat → Nat → Int} {A B C P : Nat → Int} (h : mI z F) : mI z (F4 F A B C P) := h
def cN (F : Nat → Nat → Int) (s k : Nat) : Int := if qOn F s k = true then qCol F s k else -1
def rN (F : Nat → Nat → Int) (s k : Nat) : Int := if qOn F s k = true then qRow F s k else -1
/-- the signs with the dots of the first places alone -/
def dotP (F : Nat → Nat → Int) (s : Nat) : Nat → (Nat → Int)
  | 0 => fun _ => 46
  | n + 1 => if qOn F s n = true then gup (dotP F s n) (40 * qRow F s n + qCol F s n).toNat 42 else dotP F s n
def fitB (r c n : Int) : Bool := inB r 0 23 && decide (0 ≤ c) && decide (c + n ≤ 40)
theorem fitB_iff {r c n : Int} : fitB r c n = true ↔ (0 ≤ r ∧ r ≤ 23) ∧ 0 ≤ c ∧ c + n ≤ 40 := by
  unfold fitB
  rw [Bool.and_eq_true, Bool.and_eq_true, inB_iff, decide_eq_true_iff, decide_eq_true_iff, and_assoc]
def freeN (P : Nat → Int) (b : Nat) : Nat → Bool
  | 0 => true
  | n + 1 => freeN P b n && decide (P (b + n) = 46)
theorem freeN_mono {P : Nat → Int} {b : Nat} : ∀ {m n : Nat}, m ≤ n → freeN P b m = false → freeN P b n = false
  | m, 0, h, e => by rw [show m = 0 by omega] at e; exact e
  | m, n + 1, h, e => by
    by_cases h1 : m = n + 1
    · rw [h1] at e; exact e
    · unfold freeN
      rw [freeN_mono (by omega) e]; rfl
theorem freeN_iff {P : Nat → Int} {b : Nat} : ∀ {n : Nat}, freeN P b n = true ↔ ∀ t, t < n → P (b + t) = 46
  | 0 => by simp [freeN]
  | n + 1 => by
    unfold freeN
    rw [Bool.and_eq_true, freeN_iff, decide_eq_true_iff]
    constructor
    · intro h t ht
      by_cases e : t = n
      · rw [e]; exact h.2
      · exact h.1 t (by omega)
    · intro h
      exact ⟨fun t ht => h t (by omega), h n (by omega)⟩
def mayB (P : Nat → Int) (r c n : Int) : Bool := fitB r c n && freeN P (40 * r + c).toNat n.toNat
def putN (P : Nat → Int) (b : Nat) (L : Nat → Int) : Nat → (Nat → Int)
  | 0 => P
  | n + 1 => gup (putN P b L n) (b + n) (L n)
theorem putN_in {P : Nat → Int} {b : Nat} {L : Nat → Int} : ∀ {n t : Nat}, t < n → putN P b L n (b + t) = L t
  | n + 1, t, h => by
    unfold putN
    by_cases e : t = n
    · rw [e, gup_eq]
    · rw [gup_ne (by omega)]; exact putN_in (by omega)
theorem putN_out {P : Nat → Int} {b : Nat} {L : Nat → Int} : ∀ {n j : Nat}, (j < b ∨ b + n ≤ j) → putN P b L n j = P j
  | 0, j, h => rfl
  | n + 1, j, h => by
    unfold putN
    rw [gup_ne (by omega)]; exact putN_out (by omega)
/-- the first side at which a name of n letters may stand; -1 -/
def sideF (P : Nat → Int) (r c n : Int) : Int :=
  if mayB P (rowAtN r 0) (colAtN c 0 n) n = true then 0 else if mayB P (rowAtN r 1) (colAtN c 1 n) n = true then 1 else if mayB P (rowAtN r 2) (colAtN c 2 n) n = true then 2 else if mayB P (rowAtN r 3) (colAtN c 3 n) n = true then 3 else -1
/-- the name q of a place at r, c, put at the side w -/
def wrt (F : Nat → Nat → Int) (P : Nat → Int) (r c q w : Int) : Nat → Int := putN P (40 * rowAtN r w + colAtN c w (F 9 q.toNat)).toNat (fun t => F 10 (8 * q.toNat + t)) (F 9 q.toNat).toNat
/-- one place is placed: (sides, signs) -/
def lay1 (F : Nat → Nat → Int) (s : Nat) (day : Int) (i : Nat) (st : (Nat → Int) × (Nat → Int)) : (Nat → Int) × (Nat → Int) :=
  if sideF st.2 (qRow F s i) (qCol F s i) (F 9 (nmOf F day i).toNat) = -1 then st
  else (gup st.1 i (sideF st.2 (qRow F s i) (qCol F s i) (F 9 (nmOf F day i).toNat)), wrt F st.2 (qRow F s i) (qCol F s i) (nmOf F day i) (sideF st.2 (qRow F s i) (qCol F s i) (F 9 (nmOf F day i).toNat)))
def layC (F : Nat → Nat → Int) (s : Nat) (day h : Int) (i : Nat) : Bool := decide (F 6 i = h) && (qOn F s i && decide (nmOf F day i ≠ -1))
def layIn (F : Nat → Nat → Int) (s : Nat) (day h : Int) (st : (Nat → Int) × (Nat → Int)) : Nat → (Nat → Int) × (Nat → Int)
  | 0 => st
  | n + 1 => if layC F s day h n = true then lay1 F s day n (layIn F s day h st n) else layIn F s day h st n
/-- the ranks from 5 down, the first m of them -/
def layUp (F : Nat → Nat → Int) (s np : Nat) (day : Int) (st : (Nat → Int) × (Nat → Int)) : Nat → (Nat → Int) × (Nat → Int)
  | 0 => st
  | m + 1 => layIn F s day (5 - (m : Int)) (layUp F s np day st m) np
/-- how a sheet is placed: sides (behind what stood there) and signs -/
def layA (F : Nat → Nat → Int) (s np : Nat) (day : Int) (C : Nat → Int) : (Nat → Int) × (Nat → Int) := layUp F s np day (upto (fun _ => -1) C np, dotP F s np) 5
end PU
section CANON
theorem arrV_congr {cA : ClassId} {n : Nat} {f g : Nat → Value} (h : ∀ j, j < n → f j = g j) : arrV cA n f = arrV cA n g := by
  unfold arrV
  congr 1
  apply Array.ext_getElem?
  intro i
  by_cases hi : i < n
  · simp [hi, h i hi]
  · simp [hi]
theorem gG.canon {D : gD} {base : Nat} {gh : gH} {H : Heap} {a kd n : Nat} {F G : Nat → Int} (hG : gG D base gh H) (ha : gh a = some (gI kd n F)) (h : ∀ j, j < n → F j = G j) : gG D base (gset gh a (gI kd n G)) H := by
  intro b c hb
  by_cases e : b = a
  · subst e
    rw [gset_eq] at hb
    cases hb
    refine ⟨(hG _ _ ha).1, ?_⟩
    have h1 := (hG _ _ ha).2
    show H[b]? = some (vp_cell (D.2 kd) (n, .inl (fun j => iI (G j))))
    have h2 : H[b]? = some (vp_cell (D.2 kd) (n, .inl (fun j => iI (F j)))) := h1
    rw [h2, vp_cell_i, vp_cell_i, arrV_congr (fun j hj => by rw [h j hj])]
  · rw [gset_ne e] at hb
    exact hG b c hb
theorem gV.canon {x : gX} {D : gD} {base nL pc : Nat} {lv : List (Option Value)} {st : List Value} {gh : gH} {cells slots a kd n : Nat} {F : Nat → Int} (G : Nat → Int) (ha : gh a = some (gI kd n F)) (h : ∀ j, j < n → F j = G j) (k : gV x D base nL pc lv st (gset gh a (gI kd n G)) cells slots) : gV x D base nL pc lv st gh cells slots := by
  obtain ⟨p, l', e, R, s, m, args, below, meth, c, Q⟩ := x
  intro H locs ls hG hS hl
  exact k H locs ls (hG.canon ha h) hS hl
theorem gVM.canon {x : gX} {D : gD} {base nL pc mo : Nat} {ad : Nat → Nat} {gh0 : gH} {lv : List (Option Value)} {st : List Value} {z : Nat → Int} {F : Nat → Nat → Int} (r : Nat) (G : Nat → Int) (hr : r < 28 ∧ mIs r = true) (h : ∀ j, j < (mK r).2 → F r j = G j) (k : gVM x D base nL mo ad gh0 pc lv st z (gup F r G)) : gVM x D base nL mo ad gh0 pc lv st z F := fun gh h1 h2 =>
  gV.canon G (h1.2.1 r hr.1 hr.2) h (k _ (h1.putA hr.1 hr.2) (fun q a b => by rw [gset_ne (b r hr.1 hr.2)]; exact h2 q a b))
end CANON
