/-! the class's whole state by names, beside the reference's -/
section P2
/-- a content as another, alike where it is looked at -/
def ceq (c c' : gC) : Prop := c = c' ∨ ∃ (kd n : Nat) (F G : Nat → Int), c = gI kd n F ∧ c' = gI kd n G ∧ ∀ j, j < n → F j = G j
theorem cR.canon {ad : Tg → Nat} {ct ct' : Tg → Option gC} {gh : gH} (h : cR ad ct gh) (hc : ∀ t c', ct' t = some c' → ∃ c, ct t = some c ∧ ceq c c') : ∃ gh' : gH, cR ad ct' gh' ∧ ∀ (D : gD) (base : Nat) (H : Heap), gG D base gh H → gG D base gh' H := by
  have inj : ∀ t t' c c', ct' t = some c → ct' t' = some c' → ad t = ad t' → t = t' := fun t t' c c' h1 h2 e => by
    obtain ⟨d, h3, -⟩ := hc t c h1
    obtain ⟨d', h4, -⟩ := hc t' c' h2
    exact h.2 t t' d d' h3 h4 e
  obtain ⟨g, g1, g2⟩ : ∃ g : gH, (∀ t c, ct' t = some c → g (ad t) = some c) ∧ (∀ a c, g a = some c → ∃ t, ct' t = some c ∧ ad t = a) := by
    classical
    refine ⟨fun a => if hx : ∃ t c, ct' t = some c ∧ ad t = a then ct' hx.choose else none, fun t c ht => ?_, fun a c ha => ?_⟩
    · have hx : ∃ t0 c, ct' t0 = some c ∧ ad t0 = ad t := ⟨t, c, ht, rfl⟩
      show (if hx : ∃ t0 c, ct' t0 = some c ∧ ad t0 = ad t then ct' hx.choose else none) = some c
      rw [dif_pos hx]
      obtain ⟨c0, h1, h2⟩ := hx.choose_spec
      rw [inj _ _ _ _ h1 ht h2]
      exact ht
    · have ha' : (if hx : ∃ t0 c, ct' t0 = some c ∧ ad t0 = a then ct' hx.choose else none) = some c := ha
      by_cases hx : ∃ t0 c, ct' t0 = some c ∧ ad t0 = a
      · rw [dif_pos hx] at ha'
        obtain ⟨c0, h1, h2⟩ := hx.choose_spec
        exact ⟨hx.choose, ha', h2⟩
      · rw [dif_neg hx] at ha'
        cases ha'
  refine ⟨g, ⟨g1, inj⟩, fun D base H hG a c ha => ?_⟩
  obtain ⟨t, ht, e⟩ := g2 a c ha
  obtain ⟨c0, h0, hq⟩ := hc t c ht
  have h1 := h.1 t c0 h0
  rw [e] at h1
  rcases hq with rfl | ⟨kd, n, F, G, rfl, rfl, hj⟩
  · exact hG a _ h1
  · exact (hG.canon h1 hj) a _ gset_eq
theorem gV.sub {x : gX} {D : gD} {base nL pc : Nat} {lv : List (Option Value)} {st : List Value} {gh gh' : gH} {cells slots : Nat} (h : ∀ (D : gD) (base : Nat) (H : Heap), gG D base gh H → gG D base gh' H) (k : gV x D base nL pc lv st gh' cells slots) : gV x D base nL pc lv st gh cells slots := by
  obtain ⟨p, l', e, R, s, m, args, below, meth, c, Q⟩ := x
  intro H locs ls hG hS hl
  exact k H locs ls (h D base H hG) hS hl
/-- the reference's cells by names -/
def MRP (ad : Tg → Nat) (z : Nat → Int) (F : Nat → Nat → Int) (ct : Tg → Option gC) : Prop := ct (0, 0, 0) = some (gO 11 (mFs (fun k => ad (1, k, 0)) z)) ∧ ∀ k, k < 28 → mIs k = true → ct (1, k, 0) = some (gI (mK k).1 (mK k).2 (F k))
theorem MRP.rep {ad : Tg → Nat} {z : Nat → Int} {F : Nat → Nat → Int} {ct : Tg → Option gC} {gh : gH} (h : MRP ad z F ct) (hR : cR ad ct gh) : mRep (ad (0, 0, 0)) (fun k => ad (1, k, 0)) z F gh := by
  refine ⟨hR.1 _ _ h.1, fun k hk hm => hR.1 _ _ (h.2 k hk hm), fun j k hj hk hmj hmk e => ?_⟩
  have := hR.2 _ _ _ _ (h.2 j hj hmj) (h.2 k hk hmk) e
  exact congrArg (fun t : Tg => t.2.1) this
theorem MRP.mod {ad : Tg → Nat} {z z' : Nat → Int} {F F' : Nat → Nat → Int} {ct : Tg → Option gC} {gh gh' : gH} (h : MRP ad z F ct) (hR : cR ad ct gh) (h' : mRep (ad (0, 0, 0)) (fun k => ad (1, k, 0)) z' F' gh') (hf : mFr (ad (0, 0, 0)) (fun k => ad (1, k, 0)) gh gh') :
    ∃ ct', cR ad ct' gh' ∧ MRP ad z' F' ct' ∧ ∀ t : Tg, 2 ≤ t.1 → ct' t = ct t := by
  refine ⟨fun t => if t = (0, 0, 0) then some (gO 11 (mFs (fun k => ad (1, k, 0)) z')) else if t.1 = 1 ∧ t.2.2 = 0 ∧ t.2.1 < 28 ∧ mIs t.2.1 = true then some (gI (mK t.2.1).1 (mK t.2.1).2 (F' t.2.1)) else if t.1 < 2 then none else ct t, ⟨fun t c ht => ?_, fun t t' c c' ht ht' e => ?_⟩, ⟨if_pos rfl, fun k hk hm => ?_⟩, fun t ht => ?_⟩
  · have ht' : (if t = (0, 0, 0) then some (gO 11 (mFs (fun k => ad (1, k, 0)) z')) else if t.1 = 1 ∧ t.2.2 = 0 ∧ t.2.1 < 28 ∧ mIs t.2.1 = true then some (gI (mK t.2.1).1 (mK t.2.1).2 (F' t.2.1)) else if t.1 < 2 then none else ct t) = some c := ht
    by_cases e1 : t = (0, 0, 0)
    · rw [if_pos e1] at ht'; cases ht'; rw [e1]; exact h'.1
    · rw [if_neg e1] at ht'
      by_cases e2 : t.1 = 1 ∧ t.2.2 = 0 ∧ t.2.1 < 28 ∧ mIs t.2.1 = true
      · rw [if_pos e2] at ht'
        cases ht'
        obtain ⟨a, b, d⟩ := t
        obtain ⟨rfl, rfl, e3, e4⟩ := e2
        exact h'.2.1 b e3 e4
      · rw [if_neg e2] at ht'
        by_cases e3 : t.1 < 2
        · rw [if_pos e3] at ht'; cases ht'
        · rw [if_neg e3] at ht'
          rw [hf (ad t) (hR.ne ht' h.1 e1) (fun k hk hm => hR.ne ht' (h.2 k hk hm) (fun q => e3 (by rw [q]; exact Nat.lt_succ_self 1)))]
          exact hR.1 t c ht'
  · have f : ∀ u d, (if u = ((0, 0, 0) : Tg) then some (gO 11 (mFs (fun k => ad (1, k, 0)) z')) else if u.1 = 1 ∧ u.2.2 = 0 ∧ u.2.1 < 28 ∧ mIs u.2.1 = true then some (gI (mK u.2.1).1 (mK u.2.1).2 (F' u.2.1)) else if u.1 < 2 then none else ct u) = some d → ∃ d', ct u = some d' := fun u d hu => by
      by_cases e1 : u = (0, 0, 0)
      · rw [e1]; exact ⟨_, h.1⟩
      · rw [if_neg e1] at hu
        by_cases e2 : u.1 = 1 ∧ u.2.2 = 0 ∧ u.2.1 < 28 ∧ mIs u.2.1 = true
        · obtain ⟨a, b, d⟩ := u
          obtain ⟨rfl, rfl, e3, e4⟩ := e2
          exact ⟨_, h.2 b e3 e4⟩
        · rw [if_neg e2] at hu
          by_cases e3 : u.1 < 2
          · rw [if_pos e3] at hu; cases hu
          · rw [if_neg e3] at hu; exact ⟨d, hu⟩
    obtain ⟨d, hd⟩ := f t c ht
    obtain ⟨d', hd'⟩ := f t' c' ht'
    exact hR.2 t t' d d' hd hd' e
  · show (if ((1, k, 0) : Tg) = (0, 0, 0) then _ else _) = _
    rw [if_neg (by simp), if_pos ⟨rfl, rfl, hk, hm⟩]
  · show (if t = (0, 0, 0) then _ else _) = _
    rw [if_neg (fun e => by rw [e] at ht; exact absurd ht (by decide)), if_neg (fun q => by omega), if_neg (by omega)]
theorem PLP.cg {ad ad' : Tg → Nat} {F F' : Nat → Nat → Int} {i : Nat} {ct ct' : Tg → Option gC} (h : PLP ad F i ct)
    (h0 : ∀ a, a = 3 ∨ a = 4 → ct' (a, i, 0) = ct (a, i, 0) ∧ ad' (a, i, 0) = ad (a, i, 0))
    (h1 : ∀ a j : Nat, 5 ≤ a → a ≤ 7 → (j : Int) < F 7 i → ct' (a, i, j) = ct (a, i, j) ∧ ad' (a, i, j) = ad (a, i, j))
    (hF : F' 4 i = F 4 i ∧ F' 5 i = F 5 i ∧ F' 6 i = F 6 i ∧ F' 7 i = F 7 i)
    (hN : ∀ j : Nat, (j : Int) < F 7 i → F' 8 (6 * i + j) = F 8 (6 * i + j) ∧ F' 9 (6 * i + j) = F 9 (6 * i + j) ∧ ∀ t, F' 10 (8 * (6 * i + j) + t) = F 10 (8 * (6 * i + j) + t)) : PLP ad' F' i ct' := by
  obtain ⟨p1, p2, p3⟩ := h
  obtain ⟨f4, f5, f6, f7⟩ := hF
  refine ⟨?_, ?_, fun j hj => ?_⟩
  · rw [(h0 3 (Or.inl rfl)).1, (h0 4 (Or.inr rfl)).2, f4, f5, f6, f7]; exact p1
  · rw [(h0 4 (Or.inr rfl)).1, p2, f7]
    congr 2
    funext j
    by_cases q : (j : Int) < F 7 i
    · rw [if_pos q, if_pos q, (h1 5 j (by decide) (by decide) q).2]
    · rw [if_neg q, if_neg q]
  · rw [f7] at hj
    obtain ⟨q1, q2, q3⟩ := p3 j hj
    obtain ⟨n1, n2, n3⟩ := hN j hj
    refine ⟨?_, ?_, ?_⟩
    · rw [(h1 5 j (by decide) (by decide) hj).1, (h1 6 j (by decide) (by decide) hj).2, n1]; exact q1
    · rw [(h1 6 j (by decide) (by decide) hj).1, (h1 7 j (by decide) (by decide) hj).2]; exact q2
    · rw [(h1 7 j (by decide) (by decide) hj).1, n2, q3]
      congr 3
      funext t
      exact (n3 t).symm
theorem SHP.cg {ad ad' : Tg → Nat} {F F' : Nat → Nat → Int} {k n : Nat} {sd ah sd' ah' : Nat → Int} {wo wo' : Nat → Option Nat} {c : Nat} {lo : Nat → Nat} {N : Nat → Option Nat} {P T : Nat → Int} {ct ct' : Tg → Option gC} (h : SHP ad F k n sd ah wo c lo N P T ct)
    (hc : ∀ t, tS k t → ct' t = ct t) (ha : ∀ t, tS k t → ad' t = ad t) (hp : ∀ i, i < n → ad' (3, i, 0) = ad (3, i, 0)) (hF : F' 12 k = F 12 k ∧ F' 13 k = F 13 k ∧ F' 14 k = F 14 k)
    (hi : ∀ i, i < n → F' 6 i = F 6 i ∧ cN F' k i = cN F k i ∧ rN F' k i = rN F k i ∧ wo' i = wo i ∧ sd' i = sd i ∧ ah' i = ah i) : SHP ad' F' k n sd' ah' wo' c lo N P T ct' := by
  obtain ⟨h1, h2, h3, h4, h5, h6, h7, h8, h9⟩ := h
  have e : ∀ a b : Nat, 10 ≤ a → a ≤ 17 → ct' (a, k, b) = ct (a, k, b) := fun a b ha hb => hc (a, k, b) ⟨ha, hb, rfl⟩
  have g : ∀ a b : Nat, 10 ≤ a → a ≤ 17 → ad' (a, k, b) = ad (a, k, b) := fun a b h1 hb => ha (a, k, b) ⟨h1, hb, rfl⟩
  obtain ⟨f1, f2, f3⟩ := hF
  refine ⟨?_, ?_, ?_, ?_, ?_, ?_, ?_, fun i hin => ?_, fun q hq => ?_⟩
  · rw [e _ _ (by decide) (by decide), g 13 0 (by decide) (by decide), g 15 0 (by decide) (by decide), g 11 0 (by decide) (by decide), g 12 0 (by decide) (by decide), f1, f2, f3]; exact h1
  · rw [e _ _ (by decide) (by decide), h2]
    congr 2
    funext i
    rw [g 17 i (by decide) (by decide)]
  · rw [e _ _ (by decide) (by decide)]; exact h3
  · rw [e _ _ (by decide) (by decide), g 14 0 (by decide) (by decide)]; exact h4
  · rw [e _ _ (by decide) (by decide)]; exact h5
  · rw [e _ _ (by decide) (by decide), g 16 0 (by decide) (by decide)]; exact h6
  · rw [e _ _ (by decide) (by decide)]; exact h7
  · obtain ⟨i1, i2, i3, i4, i5, i6⟩ := hi i hin
    rw [e _ _ (by decide) (by decide), h8 i hin]
    unfold spO
    rw [i1, i2, i3, i4, i5, i6, hp i hin]
  · rw [g 17 _ (by decide) (by decide)]; exact h9 q hq
/-- a sheet as it is placed today -/
def SHS (ad : Tg → Nat) (F : Nat → Nat → Int) (d : Int) (np k : Nat) (ct : Tg → Option gC) : Prop := ∃ (ah : Nat → Int) (N : Nat → Option Nat) (T : Nat → Int), SHP ad F k np (lay0 F k np d).1 ah (wdA ad F d) (lsU F k (wdA ad F d) np 5).length (fun q => (lsU F k (wdA ad F d) np 5).getD q 0) N (lay0 F k np d).2 T ct
/-- an edition -/
def EDP (ad : Tg → Nat) (F : Nat → Nat → Int) (e : Nat) (ct : Tg → Option gC) : Prop :=
  ct (20, e, 0) = some (gO 4 [.ref (ad (21, e, 0))]) ∧ ct (21, e, 0) = some (gR 9 4 (fun s => if (s : Int) < F 24 e then some (ad (22, e, s)) else none)) ∧
  ∀ s : Nat, (s : Int) < F 24 e → ct (22, e, s) = some (gO 5 [.ref (ad (23, e, s))]) ∧ ct (23, e, s) = some (gI 0 960 (recP F e s (F 23 e).toNat (F 23 e).toNat))
theorem EDP.cg {ad ad' : Tg → Nat} {F F' : Nat → Nat → Int} {e : Nat} {ct ct' : Tg → Option gC} (h : EDP ad F e ct) (hc : ∀ a b : Nat, 20 ≤ a → a ≤ 23 → ct' (a, e, b) = ct (a, e, b) ∧ ad' (a, e, b) = ad (a, e, b)) (hF : F' 24 e = F 24 e ∧ F' 23 e = F 23 e)
    (hr : ∀ s : Nat, (s : Int) < F 24 e → recP F' e s (F 23 e).toNat (F 23 e).toNat = recP F e s (F 23 e).toNat (F 23 e).toNat) : EDP ad' F' e ct' := by
  obtain ⟨h1, h2, h3⟩ := h
  obtain ⟨f1, f2⟩ := hF
  refine ⟨?_, ?_, fun s hs => ?_⟩
  · rw [(hc 20 0 (by decide) (by decide)).1, (hc 21 0 (by decide) (by decide)).2]; exact h1
  · rw [(hc 21 0 (by decide) (by decide)).1, h2, f1]
    congr 2
    funext s
    rw [(hc 22 s (by decide) (by decide)).2]
  · rw [f1] at hs
    rw [(hc 22 s (by decide) (by decide)).1, (hc 23 s (by decide) (by decide)).2, (hc 23 s (by decide) (by decide)).1, f2, hr s hs]
    exact h3 s hs
def clO (ad : Tg → Nat) (z : Nat → Int) : gC := gO 10 [.ref (ad (2, 1, 0)), .ref (ad (2, 3, 0)), .ref (ad (2, 4, 0)), .ref (ad (2, 5, 0)), vi (z 3), vi (z 11), vi (z 22), vi (z 0)]
/-- the builder with the letters typed -/
def TYP (ad : Tg → Nat) (z : Nat → Int) (F : Nat → Nat → Int) (ct : Tg → Option gC) : Prop := ∃ (ml : Int) (B : Nat → Int), ct (2, 1, 0) = some (gO 1 [.ref (ad (2, 2, 0)), vi 0, vi ml, vi (z 1)]) ∧ ct (2, 2, 0) = some (gI 2 16 B) ∧ ∀ t : Nat, (t : Int) < z 1 → B t = F 2 t
/-- the class's state -/
def ST (ad : Tg → Nat) (z : Nat → Int) (F : Nat → Nat → Int) (ct : Tg → Option gC) : Prop :=
  ct (2, 0, 0) = some (clO ad z) ∧ TYP ad z F ct ∧
  ct (2, 3, 0) = some (gR 4 14 (fun i => if (i : Int) < z 3 then some (ad (3, i, 0)) else none)) ∧
  ct (2, 4, 0) = some (gR 5 4 (fun k => if (k : Int) < z 11 then some (ad (10, k, 0)) else none)) ∧
  ct (2, 5, 0) = some (gR 6 5 (fun e => if (e : Int) < z 22 then some (ad (20, e, 0)) else none)) ∧
  (∀ i : Nat, (i : Int) < z 3 → PLP ad F i ct) ∧
  (∀ k : Nat, (k : Int) < z 11 → SHS ad F (z 0) (z 3).toNat k ct) ∧
  (∀ e : Nat, (e : Int) < z 22 → EDP ad F e ct)
theorem wdA_le {ad : Tg → Nat} {F F' : Nat → Nat → Int} (h : lE F F') {d : Int} {i : Nat} : wdA ad F' d i = wdA ad F d i := by
  unfold wdA
  rw [h.at7, h.at8]
theorem lsU_le {ad : Tg → Nat} {F F' : Nat → Nat → Int} (h : lE F F') {d : Int} {k np m : Nat} : lsU F' k (wdA ad F' d) np m = lsU F k (wdA ad F d) np m := lsU_congr (fun i _ => ⟨by rw [h.at6], cN_c h, by rw [wdA_le h]⟩) m
theorem SHS.le {ad : Tg → Nat} {F F' : Nat → Nat → Int} (h : lE F F') {d : Int} {np k : Nat} {ct : Tg → Option gC} (hs : SHS ad F d np k ct) : SHS ad F' d np k ct := by
  obtain ⟨ah, N, T, hs⟩ := hs
  refine ⟨ah, N, T, ?_⟩
  rw [lay0_c h, lsU_le h]
  exact hs.cg (fun _ _ => rfl) (fun _ _ => rfl) (fun _ _ => rfl) ⟨by rw [h.at12], by rw [h.at13], by rw [h.at14]⟩ (fun i _ => ⟨by rw [h.at6], cN_c h, rN_c h, wdA_le h, rfl, rfl⟩)
theorem recP_fe {F F' : Nat → Nat → Int} (h : fEq F F') {e s m : Nat} : ∀ n : Nat, recP F' e s m n = recP F e s m n
  | 0 => dotP_c h.le m
  | n + 1 => by rw [recP_s, recP_s, recP_fe h n, h.at26, h.at25, wrt_c h.le, qRow_c h.le, qCol_c h.le]
theorem ST.cg {ad : Tg → Nat} {z z' : Nat → Int} {F F' : Nat → Nat → Int} {ct : Tg → Option gC} (h : ST ad z F ct) (hF : fEq F F') (hz : z' 0 = z 0 ∧ z' 1 = z 1 ∧ z' 3 = z 3 ∧ z' 11 = z 11 ∧ z' 22 = z 22) : ST ad z' F' ct := by
  obtain ⟨h1, ⟨ml, B, b1, b2, b3⟩, h3, h4, h5, h6, h7, h8⟩ := h
  obtain ⟨z0, z1, z3, z11, z22⟩ := hz
  refine ⟨?_, ⟨ml, B, by rw [z1]; exact b1, b2, fun t ht => by rw [hF.at2]; exact b3 t (by omega)⟩, by rw [z3]; exact h3, by rw [z11]; exact h4, by rw [z22]; exact h5, fun i hi => ?_, fun k hk => ?_, fun e he => ?_⟩
  · unfold clO; rw [z0, z3, z11, z22]; exact h1
  · exact (h6 i (by omega)).cg (fun _ _ => ⟨rfl, rfl⟩) (fun _ _ _ _ _ => ⟨rfl, rfl⟩) ⟨by rw [hF.at4], by rw [hF.at5], by rw [hF.at6], by rw [hF.at7]⟩ (fun j _ => ⟨by rw [hF.at8], by rw [hF.at9], fun t => by rw [hF.at10]⟩)
  · rw [z0, z3]; exact (h7 k (by omega)).le hF.le
  · exact (h8 e (by omega)).cg (fun _ _ _ _ => ⟨rfl, rfl⟩) ⟨by rw [hF.at24], by rw [hF.at23]⟩ (fun s _ => recP_fe hF _)
/-- what the calls of the class leave alone: the reference's cells and the law's -/
def xF (ad : Tg → Nat) (ct : Tg → Option gC) (ad' : Tg → Nat) (ct' : Tg → Option gC) : Prop := (∀ t : Tg, t.1 ≤ 1 ∨ 24 ≤ t.1 → ct' t = ct t ∧ ad' t = ad t) ∧ ad' (2, 0, 0) = ad (2, 0, 0)
def xOK (ad : Tg → Nat) (ct : Tg → Option gC) (z' : Nat → Int) (F' : Nat → Nat → Int) (gh' : gH) : Prop := ∃ ad' ct', cR ad' ct' gh' ∧ ST ad' z' F' ct' ∧ xF ad ct ad' ct'
theorem xF.rf {ad : Tg → Nat} {ct : Tg → Option gC} : xF ad ct ad ct := ⟨fun _ _ => ⟨rfl, rfl⟩, rfl⟩
/-- what stays of the state when only the class's own cells change -/
theorem ST.own {ad : Tg → Nat} {z : Nat → Int} {F : Nat → Nat → Int} {ct ct' : Tg → Option gC} (h : ST ad z F ct) (hc : ∀ a b c : Nat, 3 ≤ a → ct' (a, b, c) = ct (a, b, c)) : (∀ i : Nat, (i : Int) < z 3 → PLP ad F i ct') ∧ (∀ k : Nat, (k : Int) < z 11 → SHS ad F (z 0) (z 3).toNat k ct') ∧ (∀ e : Nat, (e : Int) < z 22 → EDP ad F e ct') := by
  obtain ⟨h1, h2, h3, h4, h5, h6, h7, h8⟩ := h
  refine ⟨fun i hi => (h6 i hi).fr (fun a b c ha hb => hc a b c ha), fun k hk => ?_, fun e he => (h8 e he).cg (fun a b ha hb => ⟨hc a e b (by omega), rfl⟩) ⟨rfl, rfl⟩ (fun _ _ => rfl)⟩
  obtain ⟨ah, N, T, hs⟩ := h7 k hk
  exact ⟨ah, N, T, hs.fr (fun t ht => by obtain ⟨a, b, c⟩ := t; exact hc a b c (by have := ht.1; simp only at this; omega))⟩
end P2
