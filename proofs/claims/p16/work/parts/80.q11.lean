/-! p16: the law's picture of a sheet, in bits -/
section Q11
theorem cup_cup {ct : Tg → Option gC} {t : Tg} {c d : gC} : cup (cup ct t c) t d = cup ct t d := by
  funext u
  unfold cup
  split <;> rfl
theorem ST.ad {ad ad' : Tg → Nat} {z : Nat → Int} {F : Nat → Nat → Int} {ct : Tg → Option gC} (h : ST ad z F ct) (ha : ∀ t : Tg, t.1 < 24 → ad' t = ad t) : ST ad' z F ct := by
  have e : ∀ a b c : Nat, a < 24 → ad' (a, b, c) = ad (a, b, c) := fun a b c q => ha (a, b, c) q
  obtain ⟨h1, ⟨ml, B, b1, b2, b3⟩, h3, h4, h5, h6, h7, h8⟩ := h
  refine ⟨?_, ⟨ml, B, ?_, b2, b3⟩, ?_, ?_, ?_, fun i hi => ?_, fun k hk => ?_, fun e9 he => ?_⟩
  · unfold clO
    rw [e 2 1 0 (by decide), e 2 3 0 (by decide), e 2 4 0 (by decide), e 2 5 0 (by decide)]
    exact h1
  · rw [e 2 2 0 (by decide)]
    exact b1
  · rw [h3]
    exact congrArg (fun f => some (gR 4 14 f)) (funext (fun i => by rw [e 3 i 0 (by decide)]))
  · rw [h4]
    exact congrArg (fun f => some (gR 5 4 f)) (funext (fun i => by rw [e 10 i 0 (by decide)]))
  · rw [h5]
    exact congrArg (fun f => some (gR 6 5 f)) (funext (fun i => by rw [e 20 i 0 (by decide)]))
  · exact (h6 i hi).cg (fun a q => ⟨rfl, e a i 0 (by omega)⟩) (fun a j q1 q2 _ => ⟨rfl, e a i j (by omega)⟩) ⟨rfl, rfl, rfl, rfl⟩ (fun j _ => ⟨rfl, rfl, fun _ => rfl⟩)
  · obtain ⟨ah, N, T, hs⟩ := h7 k hk
    have ew : wdA ad' F (z 0) = wdA ad F (z 0) := funext (fun i => by
      unfold wdA
      rw [show (fun j => ad' (6, i, j)) = fun j => ad (6, i, j) from funext (fun j => e 6 i j (by decide))])
    refine ⟨ah, N, T, ?_⟩
    rw [ew]
    exact hs.cg (fun _ _ => rfl) (fun t ht => ha t (by have := ht.2.1; omega)) (fun i _ => e 3 i 0 (by decide)) ⟨rfl, rfl, rfl⟩ (fun i _ => ⟨rfl, rfl, rfl, rfl, rfl, rfl⟩)
  · exact (h8 e9 he).cg (fun a b q1 q2 => ⟨rfl, e a e9 b (by omega)⟩) ⟨rfl, rfl⟩ (fun _ _ => rfl)
theorem CI.ad {ad ad' : Tg → Nat} {z : Nat → Int} {F : Nat → Nat → Int} {ct : Tg → Option gC} (h : CI ad z F ct) (ha : ∀ t : Tg, t.1 < 24 → ad' t = ad t) : CI ad' z F ct := ⟨h.1.ad ha, h.2⟩
theorem aup_lo {ad : Tg → Nat} {a q : Nat} (ha : 24 ≤ a) : ∀ t : Tg, t.1 < 24 → aup ad (a, 0, 0) q t = ad t := fun t ht => aup_ne (fun e => by rw [e] at ht; exact absurd ht (by show ¬ a < 24; omega))
def ixM (j : Nat) : Nat := j / 40 + (if 31 < j % 40 then 24 else 0)
theorem ixM_lt {j : Nat} (h : j < 960) : ixM j < 64 := by
  unfold ixM
  split <;> omega
theorem ix_at {r c : Int} (hr : 0 ≤ r ∧ r ≤ 23) (hc : 0 ≤ c ∧ c ≤ 39) : (40 * r + c).toNat < 960 ∧ ((ixM (40 * r + c).toNat : Nat) : Int) = (if 31 < c then r + 24 else r) ∧ (40 * r + c).toNat % 40 % 32 = (c % 32).toNat := by
  obtain ⟨a, ha⟩ : ∃ a : Nat, r = (a : Int) := ⟨r.toNat, by omega⟩
  obtain ⟨b, hb⟩ : ∃ b : Nat, c = (b : Int) := ⟨c.toNat, by omega⟩
  subst ha
  subst hb
  have e : (40 * (a : Int) + (b : Int)).toNat = 40 * a + b := by omega
  rw [e]
  have e1 : (40 * a + b) / 40 = a := by omega
  have e2 : (40 * a + b) % 40 = b := by omega
  refine ⟨by omega, ?_, by rw [e2]; omega⟩
  unfold ixM
  rw [e1, e2]
  by_cases h : 31 < b
  · rw [if_pos h, if_pos (by omega)]
    omega
  · rw [if_neg h, if_neg (by omega)]
    omega
theorem mB_ix {M : Nat → Int} {j : Nat} : mB M j = bt (iI (M (ixM j))) (j % 40 % 32) := rfl
theorem mB_set {M : Nat → Int} {j j0 : Nat} {c : Int} (hj : j < 960) (hj0 : j0 < 960) (hc : 0 ≤ c ∧ c < 32) (hcj : j0 % 40 % 32 = c.toNat) (h : mB (gup M (ixM j0) (iI (M (ixM j0)) ||| iI (iI 1 <<< (iI c &&& 31)).toInt).toInt) j = true) : mB M j = true ∨ j = j0 := by
  rw [mB_ix] at h
  by_cases e : ixM j = ixM j0
  · rw [e, gup_eq, ib_wrT hc (by omega)] at h
    rcases (Bool.or_eq_true _ _).mp h with q | q
    · left
      rw [mB_ix, e]
      exact q
    · right
      have q2 := of_decide_eq_true q
      unfold ixM at e
      split at e <;> split at e <;> omega
  · left
    rw [gup_ne e] at h
    exact h
section
variable {F : Nat → Nat → Int} {s : Nat} {d : Int} {C : Nat → Int} {k : Nat} {M : Nat → Int}
/-- each bit that is set stands for a letter of the names of the first k places -/
def IM (F : Nat → Nat → Int) (s : Nat) (d : Int) (C : Nat → Int) (k : Nat) (M : Nat → Int) : Prop := ∀ j, j < 960 → mB M j = true → cov F s d C (nmL F s d k) j
/-- .. or for one of the first t letters of the next one, that stands from b on -/
def IN (F : Nat → Nat → Int) (s : Nat) (d : Int) (C : Nat → Int) (k b t : Nat) (M : Nat → Int) : Prop := ∀ j, j < 960 → mB M j = true → cov F s d C (nmL F s d k) j ∨ (b ≤ j ∧ j < b + t)
theorem IM_0 : IM F s d C 0 (fun _ => 0) := fun j _ h => by
  rw [mB_ix] at h
  exact absurd (h.symm.trans (ib_0 _)) (by decide)
theorem cov_s {j : Nat} (h : cov F s d C (nmL F s d k) j) : cov F s d C (nmL F s d (k + 1)) j := by
  obtain ⟨i, h1, h2, h3⟩ := h
  have h4 := nmL_mem.mp h1
  exact ⟨i, nmL_mem.mpr ⟨by omega, h4.2⟩, h2, h3⟩
theorem IM_s (h : IM F s d C k M) : IM F s d C (k + 1) M := fun j hj hm => cov_s (h j hj hm)
theorem IN_0 {b : Nat} (h : IM F s d C k M) : IN F s d C k b 0 M := fun j hj hm => Or.inl (h j hj hm)
theorem IN_s {b t j0 : Nat} {c : Int} (h : IN F s d C k b t M) (hj0 : j0 < 960) (hjb : j0 = b + t) (hc : 0 ≤ c ∧ c < 32) (hcj : j0 % 40 % 32 = c.toNat) : IN F s d C k b (t + 1) (gup M (ixM j0) (iI (M (ixM j0)) ||| iI (iI 1 <<< (iI c &&& 31)).toInt).toInt) := fun j hj hm => by
  rcases mB_set hj hj0 hc hcj hm with q | q
  · rcases h j hj q with q2 | q2
    · exact Or.inl q2
    · exact Or.inr (by omega)
  · exact Or.inr (by omega)
theorem nl_yes (h1 : qOn F s k = true) (h2 : nmOf F d k ≠ -1) : (nmL F s d (k + 1)).length = (nmL F s d k).length + 1 := by
  rw [nmL_s, if_pos (by rw [h1, decide_eq_true h2]; rfl), List.length_append]
  rfl
theorem nl_no (h : qOn F s k = false ∨ nmOf F d k = -1) : (nmL F s d (k + 1)).length = (nmL F s d k).length := by
  rw [nmL_s, if_neg]
  intro q
  obtain ⟨q1, q2⟩ := (Bool.and_eq_true _ _).mp q
  rcases h with h | h
  · rw [h] at q1
    cases q1
  · exact of_decide_eq_true q2 h
end
section
variable {z : Nat → Int} {F : Nat → Nat → Int} {s np k : Nat} {d : Int} {M : Nat → Int}
/-- a name that stands: where -/
theorem st_at (hI : mI z F) (hn : (np : Int) ≤ z 3) (hk : k < np) {sd : Int} (hsd : (lay0 F s np d).1 k = sd) (h0 : sd ≠ -1) : (qOn F s k = true ∧ nmOf F d k ≠ -1) ∧ lnF F d k = nmn F d k ∧ (1 ≤ lnF F d k ∧ lnF F d k ≤ 8) ∧ (0 ≤ rowAtN (qRow F s k) sd ∧ rowAtN (qRow F s k) sd ≤ 23) ∧ 0 ≤ colAtN (qCol F s k) sd (lnF F d k) ∧ colAtN (qCol F s k) sd (lnF F d k) + lnF F d k ≤ 40 := by
  have i3 := hI.2.2.1
  obtain ⟨⟨hq, hnm⟩, hfit, -⟩ := (sh_all (s := s) (on := d) hI hn).2.2 k hk (by rw [hsd]; exact h0)
  have hl := lnF_rng (on := d) hI (i := k) (by omega)
  have e1 := hl.2.2.2 hnm
  have h1 := hl.2.2.1.mpr hnm
  rw [hsd, ← e1] at hfit
  have hf := fitB_iff.mp hfit
  exact ⟨⟨hq, hnm⟩, e1, ⟨by omega, hl.2.1⟩, hf.1, hf.2.1, hf.2.2⟩
theorem IN_clear (hI : mI z F) (hn : (np : Int) ≤ z 3) (hk : k < np) {sd : Int} (hsd : (lay0 F s np d).1 k = sd) (h0 : sd ≠ -1) {t : Nat} (ht : (t : Int) < lnF F d k) (h : IN F s d (lay0 F s np d).1 k (40 * rowAtN (qRow F s k) sd + colAtN (qCol F s k) sd (lnF F d k)).toNat t M) : mB M ((40 * rowAtN (qRow F s k) sd + colAtN (qCol F s k) sd (lnF F d k)).toNat + t) = false := by
  have i3 := hI.2.2.1
  have hs := st_at (s := s) (d := d) hI hn hk hsd h0
  cases e : mB M ((40 * rowAtN (qRow F s k) sd + colAtN (qCol F s k) sd (lnF F d k)).toNat + t) with
  | false => rfl
  | true =>
    exfalso
    rcases h _ (by omega) e with q | q
    · have h3 := ((sh_all (s := s) (on := d) hI hn).2.2 k hk (by rw [hsd]; exact h0)).2.2 ((40 * rowAtN (qRow F s k) sd + colAtN (qCol F s k) sd (lnF F d k)).toNat + t)
      rw [hsd] at h3
      exact (h3 ⟨by rw [← hs.2.1]; omega, by rw [← hs.2.1]; omega⟩).2 q
    · omega
theorem IN_e (hI : mI z F) (hn : (np : Int) ≤ z 3) (hk : k < np) {sd : Int} (hsd : (lay0 F s np d).1 k = sd) (h0 : sd ≠ -1) {ln : Nat} (hln : lnF F d k = (ln : Int)) (h : IN F s d (lay0 F s np d).1 k (40 * rowAtN (qRow F s k) sd + colAtN (qCol F s k) sd (lnF F d k)).toNat ln M) : IM F s d (lay0 F s np d).1 (k + 1) M := fun j hj hm => by
  have hs := st_at (s := s) (d := d) hI hn hk hsd h0
  rcases h j hj hm with q | q
  · exact cov_s q
  · exact ⟨k, nmL_mem.mpr ⟨Nat.lt_succ_self k, hs.1⟩, by rw [hsd]; exact h0, by rw [hsd]; exact ⟨by rw [← hs.2.1]; omega, by rw [← hs.2.1]; omega⟩⟩
theorem dot_clear (hI : mI z F) (hn : (np : Int) ≤ z 3) (hk : k < np) (hq : qOn F s k = true) (h : IM F s d (lay0 F s np d).1 np M) : mB M (40 * qRow F s k + qCol F s k).toNat = false := by
  have h1 := qRow_rng hq
  have h2 := qCol_rng hq
  cases e : mB M (40 * qRow F s k + qCol F s k).toNat with
  | false => rfl
  | true =>
    exfalso
    have h3 := ((sh_all (s := s) (on := d) hI hn).2.1 _).1 (h _ (by omega) e)
    have h4 := dotP_dot (F := F) (s := s) np hk hq
    omega
end
end Q11
