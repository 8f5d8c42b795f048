/-! the class: name -/
section C27
theorem namF_ne {z : Nat → Int} {F : Nat → Nat → Int} {i k : Nat} (h : k ≠ 7 ∧ k ≠ 8 ∧ k ≠ 9 ∧ k ≠ 10) : namF z F i k = F k := by
  unfold namF
  rw [gup_ne h.1, gup_ne h.2.2.2, gup_ne h.2.2.1, gup_ne h.2.1]
set_option maxHeartbeats 4000000 in
set_option maxRecDepth 100000 in
theorem kX6_name {l : Launch} (hl : l.stackTraces = false) {D : gD} {base : Nat}  {ad : Tg → Nat} {z : Nat → Int} {F : Nat → Nat → Int} {ct : Tg → Option gC} (hI : mI z F) (hS : ST ad z F ct) (hE : mE z F) (hQ : eQ z F) (i : Int) (r_i : -2147483648 ≤ i ∧ i < 2147483648) (gh : gH) (hR : cR ad ct gh) : gM l D base yX6_name cX6_name 3 (some Jvm.ClassFile.FieldType.int) 9 200 4 28 [.ref (ad (2, 0, 0)), vi (i)] gh (fun r gh' => r = some (vi (pushUp F (namF z F i.toNat) i.toNat (z 3).toNat (z 0) (z 11).toNat)) ∧ (inB i 0 (z 3 - 1)) = true ∧ (decide (0 < z 1) && decide (F 7 i.toNat < 6)) = true ∧ xOK ad ct (gup z 1 0) (namF z F i.toNat) gh') (fun E gh' => gh' = gh ∧ (((inB i 0 (z 3 - 1)) = false ∧ E = "java/lang/IndexOutOfBoundsException") ∨ ((inB i 0 (z 3 - 1)) = true ∧ (decide (0 < z 1) && decide (F 7 i.toNat < 6)) = false ∧ E = "java/lang/IllegalStateException"))) := by
  refine gM.of hl (by decide) (by simp [Value.category]) (Nat.le_of_ble_eq_true rfl) [some (.ref (ad (2, 0, 0))), some (vi (i)), none] rfl (fun x hC hq => ?_)
  obtain ⟨i0, i1, i3, i11, i22, iw, ip, inn, inm, ish⟩ := id hI
  obtain ⟨s1, ⟨ml, B, b1, b2, b3⟩, s3, s4, s5, s6, s7, s8⟩ := id hS
  have f1 : gh (ad (2, 0, 0)) = some (gO 10 [.ref (ad (2, 1, 0)), .ref (ad (2, 3, 0)), .ref (ad (2, 4, 0)), .ref (ad (2, 5, 0)), vi (z 3), vi (z 11), vi (z 22), vi (z 0)]) := hR.1 _ _ (s1)
  have f2 : gh (ad (2, 3, 0)) = some (gR 4 14 (fun i => if (i : Int) < z 3 then some (ad (3, i, 0)) else none)) := hR.1 _ _ (s3)
  have f3 : gh (ad (2, 4, 0)) = some (gR 5 4 (fun k => if (k : Int) < z 11 then some (ad (10, k, 0)) else none)) := hR.1 _ _ (s4)
  have f4 : gh (ad (2, 5, 0)) = some (gR 6 5 (fun e => if (e : Int) < z 22 then some (ad (20, e, 0)) else none)) := hR.1 _ _ (s5)
  refine g_ald_n hC dX6_name_0 rfl ?_
  refine g_iload_n hC dX6_name_1 rfl ?_
  refine g_callVX (rest := []) hC (kX6_placeNumbered hl hI hS i r_i gh hR) gc_RX6_82 rfl f1 rfl ⟨by decide, by decide⟩ ⟨by decide, by decide⟩ (Nat.le_of_ble_eq_true rfl) rfl dX6_name_2 (fun E g hx_ => g_out hC hq (by decide) (by decide) (by obtain ⟨h1, h2, h3⟩ := hx_; exact ⟨h1, Or.inl ⟨h2, h3⟩⟩)) (fun r g2 hp => ?_)
  obtain ⟨rfl, hgh, hi⟩ := hp
  rw [hgh]
  have hi2 := inB_t hi
  obtain ⟨p, hp⟩ : ∃ p : Nat, i = (p : Int) := ⟨i.toNat, by omega⟩
  subst hp
  refine gV.eqs (st' := [.ref (ad (3, p, 0))]) rfl rfl rfl ?_
  obtain ⟨n, hn⟩ : ∃ n : Nat, z 3 = (n : Int) := ⟨(z 3).toNat, by omega⟩
  have hn2 : (z 3).toNat = n := by omega
  obtain ⟨n1, hn1⟩ : ∃ n1 : Nat, z 1 = (n1 : Int) := ⟨(z 1).toNat, by omega⟩
  have h7 := inn p (by omega)
  obtain ⟨c7, hc7⟩ : ∃ c7 : Nat, F 7 p = (c7 : Int) := ⟨(F 7 p).toNat, by omega⟩
  have b1b := b1
  rw [hn1] at b1b
  have f5 : gh (ad (2, 1, 0)) = some (gO 1 [.ref (ad (2, 2, 0)), vi (0), vi (ml), vi ((n1 : Int))]) := hR.1 _ _ (b1b)
  have f6 : gh (ad (2, 2, 0)) = some (gI 2 16 (B)) := hR.1 _ _ (b2)
  obtain ⟨p1, p2, p3⟩ := s6 p (by omega)
  have p1b := p1
  have p2b := p2
  rw [hc7] at p1b p2b
  have f7 : gh (ad (3, p, 0)) = some (gO 6 [vi (F 4 p), vi (F 5 p), vi (F 6 p), .ref (ad (4, p, 0)), vi ((c7 : Int))]) := hR.1 _ _ (p1b)
  have f8 : gh (ad (4, p, 0)) = some (gR 7 6 (fun j => if (j : Int) < (c7 : Int) then some (ad (5, p, j)) else none)) := hR.1 _ _ (p2b)
  refine g_ast_n (lv' := [some (.ref (ad (2, 0, 0))), some (vi ((p : Int))), some (.ref (ad (3, p, 0)))]) hC dX6_name_5 (by decide) rfl ?_
  refine g_ald_n hC dX6_name_6 rfl ?_
  refine g_get hC dX6_name_7 gf_RX6_10 f1 rfl ?_
  refine g_callV (rest := []) hC (kJ4_length hl  gh f5) gc_RX6_54 rfl f5 rfl ⟨by decide, by decide⟩ ⟨by decide, by decide⟩ (Nat.le_of_ble_eq_true rfl) rfl dX6_name_10 (fun r gh' hp => ?_)
  obtain ⟨rfl, hgh⟩ := hp
  rw [hgh]
  clear hgh
  refine gV.eqs (st' := [vi ((n1 : Int))]) rfl rfl rfl ?_
  refine g_if_ne (tgt := 26) hC dX6_name_13 (by decide) (by omega) (fun h1 => ?_) (fun h1 => ?_)
  · refine g_ald_n hC dX6_name_26 rfl ?_
    refine g_callV (rest := []) hC (kX2_isToldOut hl (by omega) gh f7 f8) gc_RX6_88 rfl f7 rfl ⟨by decide, by decide⟩ ⟨by decide, by decide⟩ (Nat.le_of_ble_eq_true rfl) rfl dX6_name_27 (fun r gh' hp => ?_)
    obtain ⟨rfl, hgh⟩ := hp
    rw [hgh]
    clear hgh
    refine gV.eqs (st' := [vi (b2i (decide (6 ≤ c7)))]) rfl rfl rfl ?_
    refine g_ifeq_b (tgt := 43) hC dX6_name_30 (by decide)  (fun h2 => ?_) (fun h2 => ?_)
    · have h6 : c7 < 6 := by have := of_decide_eq_false h2; omega
      have hbt : (decide (0 < z 1) && decide (F 7 (p : Int).toNat < 6)) = true := by rw [Int.toNat_natCast, hc7, decide_eq_true (p := 0 < z 1) (by omega), decide_eq_true (p := (c7 : Int) < 6) (by omega)]; rfl
      refine g_ald_n hC dX6_name_43 rfl ?_
      refine g_new hC dX6_name_44 gn_RX6_94 (by decide) (by decide) (fun q9 hnq9 => ?_)
      obtain ⟨gh10, egh10⟩ : ∃ g_, g_ = gset gh q9 (gO 8 [vi (0), .null]) := ⟨_, rfl⟩
      rw [← egh10]
      have h11 : gh10 (ad (2, 0, 0)) = some (gO 10 [.ref (ad (2, 1, 0)), .ref (ad (2, 3, 0)), .ref (ad (2, 4, 0)), .ref (ad (2, 5, 0)), vi (z 3), vi (z 11), vi (z 22), vi (z 0)]) := by rw [egh10, gset_ne (fun z => by rw [z, hnq9] at f1; cases f1)]; exact f1
      have h12 : gh10 (ad (2, 3, 0)) = some (gR 4 14 (fun i => if (i : Int) < z 3 then some (ad (3, i, 0)) else none)) := by rw [egh10, gset_ne (fun z => by rw [z, hnq9] at f2; cases f2)]; exact f2
      have h13 : gh10 (ad (2, 4, 0)) = some (gR 5 4 (fun k => if (k : Int) < z 11 then some (ad (10, k, 0)) else none)) := by rw [egh10, gset_ne (fun z => by rw [z, hnq9] at f3; cases f3)]; exact f3
      have h14 : gh10 (ad (2, 5, 0)) = some (gR 6 5 (fun e => if (e : Int) < z 22 then some (ad (20, e, 0)) else none)) := by rw [egh10, gset_ne (fun z => by rw [z, hnq9] at f4; cases f4)]; exact f4
      have h15 : gh10 (ad (2, 1, 0)) = some (gO 1 [.ref (ad (2, 2, 0)), vi (0), vi (ml), vi ((n1 : Int))]) := by rw [egh10, gset_ne (fun z => by rw [z, hnq9] at f5; cases f5)]; exact f5
      have h16 : gh10 (ad (2, 2, 0)) = some (gI 2 16 (B)) := by rw [egh10, gset_ne (fun z => by rw [z, hnq9] at f6; cases f6)]; exact f6
      have h17 : gh10 (ad (3, p, 0)) = some (gO 6 [vi (F 4 p), vi (F 5 p), vi (F 6 p), .ref (ad (4, p, 0)), vi ((c7 : Int))]) := by rw [egh10, gset_ne (fun z => by rw [z, hnq9] at f7; cases f7)]; exact f7
      have h18 : gh10 (ad (4, p, 0)) = some (gR 7 6 (fun j => if (j : Int) < (c7 : Int) then some (ad (5, p, j)) else none)) := by rw [egh10, gset_ne (fun z => by rw [z, hnq9] at f8; cases f8)]; exact f8
      have h19 : gh10 q9 = some (gO 8 [vi (0), .null]) := by rw [egh10]; exact gset_eq
      have c1R := hR.new (t := (5, p, c7)) hnq9 (gO 8 [vi 0, .null])
      rw [← egh10] at c1R
      refine g_dup hC dX6_name_47 rfl ?_
      refine g_ald_n hC dX6_name_48 rfl ?_
      refine g_get hC dX6_name_49 gf_RX6_44 h11 rfl ?_
      refine g_ald_n hC dX6_name_52 rfl ?_
      refine g_get hC dX6_name_53 gf_RX6_10 h11 rfl ?_
      refine g_callV (rest := [vi (z 0), .ref q9, .ref q9, .ref (ad (3, p, 0))]) hC (kJ4_toString hl (k := n1) (by omega) (fun t ht => by have h1 := b3 t (by omega); have h2 := iw t (by omega); omega) gh10 h15 h16) gc_RX6_96 rfl h15 rfl ⟨by decide, by decide⟩ ⟨by decide, by decide⟩ (Nat.le_of_ble_eq_true rfl) rfl dX6_name_56 (fun r g3 hp => ?_)
      obtain ⟨sx, qx, hsx, hqx, hqs, rfl, Pq, hPq, hgh⟩ := hp
      have c2R := c1R.new (t := (7, p, c7)) hqx (gI 2 n1 Pq)
      have c3R := c2R.new (t := (6, p, c7)) (q := sx) (by rw [gset_ne hqs.symm]; exact hsx) (gO 0 [.ref qx, vi 0, vi 0, vi 0])
      rw [← hgh] at c3R
      obtain ⟨ad1, ead⟩ : ∃ x, x = aup (aup (aup ad (5, p, c7) q9) (7, p, c7) qx) (6, p, c7) sx := ⟨_, rfl⟩
      rw [← ead] at c3R
      have u6 : ad1 (6, p, c7) = sx := by rw [ead, aup_eq]
      have u7 : ad1 (7, p, c7) = qx := by rw [ead, aup_ne (by simp), aup_eq]
      have u5 : ad1 (5, p, c7) = q9 := by rw [ead, aup_ne (by simp), aup_ne (by simp), aup_eq]
      have uo : ∀ a b c : Nat, (a ≤ 4 ∨ 8 ≤ a ∨ b ≠ p ∨ c ≠ c7) → ad1 (a, b, c) = ad (a, b, c) := fun a b c h => by
        have f : ∀ d : Nat, 5 ≤ d → d ≤ 7 → (a, b, c) ≠ ((d, p, c7) : Tg) := fun d h1 h2 e => by
          have e1 := congrArg (fun t : Tg => t.1) e; have e2 := congrArg (fun t : Tg => t.2.1) e; have e3 := congrArg (fun t : Tg => t.2.2) e; simp only at e1 e2 e3; omega
        rw [ead, aup_ne (f 6 (by decide) (by decide)), aup_ne (f 7 (by decide) (by decide)), aup_ne (f 5 (by decide) (by decide))]
      obtain ⟨ct3, ect⟩ : ∃ x, x = cup (cup (cup ct (5, p, c7) (gO 8 [vi 0, .null])) (7, p, c7) (gI 2 n1 Pq)) (6, p, c7) (gO 0 [.ref qx, vi 0, vi 0, vi 0]) := ⟨_, rfl⟩
      rw [← ect] at c3R
      have v5 : ct3 (5, p, c7) = some (gO 8 [vi 0, .null]) := by rw [ect, cup_ne (by simp), cup_ne (by simp), cup_eq]
      have v6 : ct3 (6, p, c7) = some (gO 0 [.ref qx, vi 0, vi 0, vi 0]) := by rw [ect, cup_eq]
      have v7 : ct3 (7, p, c7) = some (gI 2 n1 Pq) := by rw [ect, cup_ne (by simp), cup_eq]
      have vo : ∀ a b c : Nat, (a ≤ 4 ∨ 8 ≤ a ∨ b ≠ p ∨ c ≠ c7) → ct3 (a, b, c) = ct (a, b, c) := fun a b c h => by
        have f : ∀ d : Nat, 5 ≤ d → d ≤ 7 → (a, b, c) ≠ ((d, p, c7) : Tg) := fun d h1 h2 e => by
          have e1 := congrArg (fun t : Tg => t.1) e; have e2 := congrArg (fun t : Tg => t.2.1) e; have e3 := congrArg (fun t : Tg => t.2.2) e; simp only at e1 e2 e3; omega
        rw [ect, cup_ne (f 6 (by decide) (by decide)), cup_ne (f 7 (by decide) (by decide)), cup_ne (f 5 (by decide) (by decide))]
      clear hgh c1R c2R
      have f20 : g3 q9 = some (gO 8 [vi (0), .null]) := by have h9_ := c3R.1 (5, p, c7) _ (v5); rw [u5] at h9_; exact h9_
      have f21 : g3 sx = some (gO 0 [.ref qx, vi (0), vi (0), vi (0)]) := by have h9_ := c3R.1 (6, p, c7) _ (v6); rw [u6] at h9_; exact h9_
      refine gV.eqs (st' := [.ref sx, vi (z 0), .ref q9, .ref q9, .ref (ad (3, p, 0))]) rfl rfl rfl ?_
      refine g_callI (rest := [.ref q9, .ref (ad (3, p, 0))]) hC (kX4_init hl  g3 f20) gc_RX6_100 rfl ⟨by decide, by decide⟩ ⟨by decide, by decide⟩ (Nat.le_of_ble_eq_true rfl) rfl dX6_name_59 (fun r g4 hp => ?_)
      obtain ⟨rfl, hgh⟩ := hp
      have c4R := c3R.put v5 (gO 8 [vi (z 0), .ref sx])
      rw [u5, ← hgh] at c4R
      obtain ⟨ct4, ect4⟩ : ∃ x, x = cup ct3 (5, p, c7) (gO 8 [vi (z 0), .ref sx]) := ⟨_, rfl⟩
      rw [← ect4] at c4R
      have x5 : ct4 (5, p, c7) = some (gO 8 [vi (z 0), .ref sx]) := by rw [ect4, cup_eq]
      have xo : ∀ a b c : Nat, (a ≤ 4 ∨ 6 ≤ a ∨ b ≠ p ∨ c ≠ c7) → ct4 (a, b, c) = ct3 (a, b, c) := fun a b c h => by
        rw [ect4, cup_ne (fun e => by have e1 := congrArg (fun t : Tg => t.1) e; have e2 := congrArg (fun t : Tg => t.2.1) e; have e3 := congrArg (fun t : Tg => t.2.2) e; simp only at e1 e2 e3; omega)]
      have f22 : g4 (ad (3, p, 0)) = some (gO 6 [vi (F 4 p), vi (F 5 p), vi (F 6 p), .ref (ad (4, p, 0)), vi ((c7 : Int))]) := by have h9_ := c4R.1 (3, p, 0) _ (by rw [xo _ _ _ (Or.inl (by decide)), vo _ _ _ (Or.inl (by decide))]; exact p1b); rw [uo _ _ _ (Or.inl (by decide))] at h9_; exact h9_
      have f23 : g4 (ad (4, p, 0)) = some (gR 7 6 (fun j => if (j : Int) < (c7 : Int) then some (ad (5, p, j)) else none)) := by have h9_ := c4R.1 (4, p, 0) _ (by rw [xo _ _ _ (Or.inl (by decide)), vo _ _ _ (Or.inl (by decide))]; exact p2b); rw [uo _ _ _ (Or.inl (by decide))] at h9_; exact h9_
      have f24 : g4 q9 = some (gO 8 [vi (z 0), .ref sx]) := by have h9_ := c4R.1 (5, p, c7) _ (x5); rw [u5] at h9_; exact h9_
      refine gV.eqs (st' := [.ref q9, .ref (ad (3, p, 0))]) rfl rfl rfl ?_
      refine g_callV (rest := []) hC (kX2_tell hl h6 g4 f22 f23 f24) gc_RX6_103 rfl f22 rfl ⟨by decide, by decide⟩ ⟨by decide, by decide⟩ (Nat.le_of_ble_eq_true rfl) rfl dX6_name_62 (fun r g5 hp => ?_)
      obtain ⟨rfl, hgh5⟩ := hp
      have c5R := (c4R.put (t := (4, p, 0)) (by rw [xo _ _ _ (Or.inl (by decide)), vo _ _ _ (Or.inl (by decide))]; exact p2b) (gR 7 6 (gup (fun j => if (j : Int) < (c7 : Int) then some (ad (5, p, j)) else none) c7 (some q9)))).put (t := (3, p, 0)) (by rw [cup_ne (by simp), xo _ _ _ (Or.inl (by decide)), vo _ _ _ (Or.inl (by decide))]; exact p1b) (gO 6 [vi (F 4 p), vi (F 5 p), vi (F 6 p), .ref (ad (4, p, 0)), vi ((c7 : Int) + 1)])
      rw [uo 4 p 0 (Or.inl (by decide)), uo 3 p 0 (Or.inl (by decide)), ← hgh5] at c5R
      obtain ⟨ct5, ect5⟩ : ∃ x, x = cup (cup ct4 (4, p, 0) (gR 7 6 (gup (fun j => if (j : Int) < (c7 : Int) then some (ad (5, p, j)) else none) c7 (some q9)))) (3, p, 0) (gO 6 [vi (F 4 p), vi (F 5 p), vi (F 6 p), .ref (ad (4, p, 0)), vi ((c7 : Int) + 1)]) := ⟨_, rfl⟩
      rw [← ect5] at c5R
      have y3 : ct5 (3, p, 0) = some (gO 6 [vi (F 4 p), vi (F 5 p), vi (F 6 p), .ref (ad (4, p, 0)), vi ((c7 : Int) + 1)]) := by rw [ect5, cup_eq]
      have y4 : ct5 (4, p, 0) = some (gR 7 6 (gup (fun j => if (j : Int) < (c7 : Int) then some (ad (5, p, j)) else none) c7 (some q9))) := by rw [ect5, cup_ne (by simp), cup_eq]
      have yo : ∀ a b c : Nat, (a ≤ 2 ∨ 5 ≤ a ∨ b ≠ p) → ct5 (a, b, c) = ct4 (a, b, c) := fun a b c h => by
        rw [ect5, cup_ne (fun e => by have e1 := congrArg (fun t : Tg => t.1) e; have e2 := congrArg (fun t : Tg => t.2.1) e; simp only at e1 e2; omega), cup_ne (fun e => by have e1 := congrArg (fun t : Tg => t.1) e; have e2 := congrArg (fun t : Tg => t.2.1) e; simp only at e1 e2; omega)]
      have f25 : g5 (ad (2, 0, 0)) = some (gO 10 [.ref (ad (2, 1, 0)), .ref (ad (2, 3, 0)), .ref (ad (2, 4, 0)), .ref (ad (2, 5, 0)), vi (z 3), vi (z 11), vi (z 22), vi (z 0)]) := by have h9_ := c5R.1 (2, 0, 0) _ (by rw [yo _ _ _ (Or.inl (by decide)), xo _ _ _ (Or.inl (by decide)), vo _ _ _ (Or.inl (by decide))]; exact s1); rw [uo _ _ _ (Or.inl (by decide))] at h9_; exact h9_
      have f26 : g5 (ad (2, 1, 0)) = some (gO 1 [.ref (ad (2, 2, 0)), vi (0), vi (ml), vi ((n1 : Int))]) := by have h9_ := c5R.1 (2, 1, 0) _ (by rw [yo _ _ _ (Or.inl (by decide)), xo _ _ _ (Or.inl (by decide)), vo _ _ _ (Or.inl (by decide))]; exact b1b); rw [uo _ _ _ (Or.inl (by decide))] at h9_; exact h9_
      have f27 : g5 (ad (2, 2, 0)) = some (gI 2 16 (B)) := by have h9_ := c5R.1 (2, 2, 0) _ (by rw [yo _ _ _ (Or.inl (by decide)), xo _ _ _ (Or.inl (by decide)), vo _ _ _ (Or.inl (by decide))]; exact b2); rw [uo _ _ _ (Or.inl (by decide))] at h9_; exact h9_
      refine gV.eqs (st' := []) rfl rfl rfl ?_
      refine g_ald_n hC dX6_name_65 rfl ?_
      refine g_get hC dX6_name_66 gf_RX6_10 f25 rfl ?_
      refine g_iconst hC dX6_name_69 rfl ?_
      refine g_callV (rest := []) hC (kJ4_setLength hl (by omega) g5 f26 f27) gc_RX6_107 rfl f26 rfl ⟨by decide, by decide⟩ ⟨by decide, by decide⟩ (Nat.le_of_ble_eq_true rfl) rfl dX6_name_70 (fun r g6 hp => ?_)
      obtain ⟨rfl, m2, hgh6⟩ := hp
      have c6R := c5R.put (t := (2, 1, 0)) (by rw [yo _ _ _ (Or.inl (by decide)), xo _ _ _ (Or.inl (by decide)), vo _ _ _ (Or.inl (by decide))]; exact b1b) (gO 1 [.ref (ad (2, 2, 0)), vi 0, vi m2, vi 0])
      rw [uo 2 1 0 (Or.inl (by decide)), ← hgh6] at c6R
      obtain ⟨ct6, ect6⟩ : ∃ x, x = cup ct5 (2, 1, 0) (gO 1 [.ref (ad (2, 2, 0)), vi 0, vi m2, vi 0]) := ⟨_, rfl⟩
      rw [← ect6] at c6R
      have wo_ : ∀ a b c : Nat, (a ≠ 2 ∨ b ≠ 1) → ct6 (a, b, c) = ct5 (a, b, c) := fun a b c h => by
        rw [ect6, cup_ne (fun e => by have e1 := congrArg (fun t : Tg => t.1) e; have e2 := congrArg (fun t : Tg => t.2.1) e; simp only at e1 e2; omega)]
      have zo : ∀ a b c : Nat, (a ≠ 2 ∨ b ≠ 1) → (a ≤ 2 ∨ 8 ≤ a ∨ b ≠ p ∨ (5 ≤ a ∧ c ≠ c7)) → ct6 (a, b, c) = ct (a, b, c) := fun a b c h1 h2 => by rw [wo_ _ _ _ h1, yo _ _ _ (by omega), xo _ _ _ (by omega), vo _ _ _ (by omega)]
      have hag := agr_name (ns := (z 11).toNat) (ne := (z 22).toNat) hI (i := p) (by omega) (by omega)
      have hI2 := mI_name (z' := gup z 1 0) hI (i := p) (by omega) (by omega) (by omega) rfl rfl rfl rfl rfl
      have g7p : namF z F p 7 p = (c7 : Int) + 1 := by show gup (F 7) p (F 7 p + 1) p = _; rw [gup_eq, hc7]
      have g7 : ∀ b : Nat, b ≠ p → namF z F p 7 b = F 7 b := fun b h => gup_ne h
      have g8 : namF z F p 8 (6 * p + c7) = z 0 := by show gup (F 8) (6 * p + (F 7 p).toNat) (z 0) (6 * p + c7) = z 0; rw [hc7, Int.toNat_natCast, gup_eq]
      have g9 : namF z F p 9 (6 * p + c7) = (n1 : Int) := by show gup (F 9) (6 * p + (F 7 p).toNat) (z 1) (6 * p + c7) = _; rw [hc7, Int.toNat_natCast, gup_eq, hn1]
      have g10 : ∀ t : Nat, t < n1 → namF z F p 10 (8 * (6 * p + c7) + t) = F 2 t := fun t ht => by show putN (F 10) (8 * (6 * p + (F 7 p).toNat)) (F 2) (z 1).toNat (8 * (6 * p + c7) + t) = F 2 t; rw [hc7, Int.toNat_natCast, hn1, Int.toNat_natCast]; exact putN_in ht
      obtain ⟨ct7, ect7⟩ : ∃ x : Tg → Option gC, x = (fun t : Tg => if t.1 = 7 ∧ t.2.1 < n ∧ (t.2.2 : Int) < namF z F p 7 t.2.1 then some (gI 2 (namF z F p 9 (6 * t.2.1 + t.2.2)).toNat (fun u => namF z F p 10 (8 * (6 * t.2.1 + t.2.2) + u))) else ct6 t) := ⟨_, rfl⟩
      have t7 : ∀ b c : Nat, b < n → (c : Int) < namF z F p 7 b → ct7 (7, b, c) = some (gI 2 (namF z F p 9 (6 * b + c)).toNat (fun u => namF z F p 10 (8 * (6 * b + c) + u))) := fun b c h1 h2 => by rw [ect7]; exact if_pos ⟨rfl, h1, h2⟩
      have to_ : ∀ a b c : Nat, a ≠ 7 → ct7 (a, b, c) = ct6 (a, b, c) := fun a b c h => by rw [ect7]; exact if_neg (fun q => h q.1)
      obtain ⟨g7h, c7R, hsub⟩ := c6R.canon (ct' := ct7) (fun t c' ht => by
          obtain ⟨a, b, c⟩ := t
          by_cases q : a = 7 ∧ b < n ∧ (c : Int) < namF z F p 7 b
          · obtain ⟨rfl, q2, q3⟩ := q
            rw [t7 b c q2 q3] at ht
            cases ht
            by_cases e : b = p ∧ c = c7
            · obtain ⟨rfl, rfl⟩ := e
              refine ⟨gI 2 n1 Pq, by rw [wo_ _ _ _ (Or.inl (by decide)), yo _ _ _ (Or.inr (Or.inl (by decide))), xo _ _ _ (Or.inr (Or.inl (by decide)))]; exact v7, Or.inr ⟨2, n1, Pq, _, rfl, by rw [g9, Int.toNat_natCast], fun j hj => ?_⟩⟩
              rw [hPq j hj, g10 j hj]; exact b3 j (by omega)
            · have q4 : (c : Int) < F 7 b := by
                by_cases e2 : b = p
                · subst e2; rw [g7p] at q3; have : c ≠ c7 := fun e3 => e ⟨rfl, e3⟩; omega
                · rw [g7 b e2] at q3; exact q3
              have h9 := inm b c (by omega) q4
              obtain ⟨m1, m2, m3⟩ := hag.2.2.1 b c (by omega) q4
              refine ⟨_, by rw [zo _ _ _ (Or.inl (by decide)) (by by_cases e3 : b = p <;> omega)]; exact ((s6 b (by omega)).2.2 c q4).2.2, Or.inr ⟨2, (F 9 (6 * b + c)).toNat, _, _, rfl, by rw [m2], fun j hj => ?_⟩⟩
              exact (m3 j (by omega)).symm
          · rw [show ct7 (a, b, c) = ct6 (a, b, c) by rw [ect7]; exact if_neg q] at ht
            exact ⟨c', ht, Or.inl rfl⟩)
      refine gV.sub hsub ?_
      have to7 : ∀ a b c : Nat, (a ≠ 2 ∨ b ≠ 1) → (a ≤ 2 ∨ 8 ≤ a ∨ b ≠ p ∨ (5 ≤ a ∧ c ≠ c7)) → a ≠ 7 → ct7 (a, b, c) = ct (a, b, c) := fun a b c h1 h2 h3 => by rw [to_ _ _ _ h3, zo _ _ _ h1 h2]
      have e1 : ct7 (2, 0, 0) = some (clO ad1 (gup z 1 0)) := by rw [to7 _ _ _ (Or.inr (by decide)) (Or.inl (by decide)) (by decide), s1]; unfold clO; rw [uo _ _ _ (Or.inl (by decide)), uo _ _ _ (Or.inl (by decide)), uo _ _ _ (Or.inl (by decide)), uo _ _ _ (Or.inl (by decide))]; rfl
      have e4 : ct7 (2, 4, 0) = some (gR 5 4 (fun k => if (k : Int) < (gup z 1 0) 11 then some (ad1 (10, k, 0)) else none)) := by rw [to7 _ _ _ (Or.inr (by decide)) (Or.inl (by decide)) (by decide), s4]; congr 2; funext k; rw [uo _ _ _ (Or.inr (Or.inl (by decide)))]; rfl
      have e6 : ∀ b : Nat, b < n → PLP ad1 (namF z F p) b ct7 := by
        intro b hb
        have r4 : namF z F p 4 = F 4 := namF_ne (by decide)
        have r5 : namF z F p 5 = F 5 := namF_ne (by decide)
        have r6 : namF z F p 6 = F 6 := namF_ne (by decide)
        obtain ⟨o1, o2, o3⟩ := s6 b (by omega)
        have old : ∀ c : Nat, (c : Int) < F 7 b → (b ≠ p ∨ c ≠ c7) → ct7 (5, b, c) = some (gO 8 [vi (namF z F p 8 (6 * b + c)), .ref (ad1 (6, b, c))]) ∧ ct7 (6, b, c) = some (gO 0 [.ref (ad1 (7, b, c)), vi 0, vi 0, vi 0]) := by
          intro c hc hne
          obtain ⟨o4, o5, o6⟩ := o3 c hc
          exact ⟨by rw [to7 _ _ _ (Or.inl (by decide)) (by omega) (by decide), o4, (hag.2.2.1 b c (by omega) hc).1, uo 6 b c (by omega)], by rw [to7 _ _ _ (Or.inl (by decide)) (by omega) (by decide), o5, uo 7 b c (by omega)]⟩
        by_cases e : b = p
        · subst e
          refine ⟨?_, ?_, fun c hc => ?_⟩
          · rw [to_ _ _ _ (by decide), wo_ _ _ _ (Or.inl (by decide)), y3, r4, r5, r6, g7p, uo _ _ _ (Or.inl (by decide))]
          · rw [to_ _ _ _ (by decide), wo_ _ _ _ (Or.inl (by decide)), y4, g7p]; congr 2; funext c; unfold gup
            by_cases q : c = c7
            · rw [if_pos q, q, if_pos (by omega), u5]
            · rw [if_neg q]
              show (if (c : Int) < (c7 : Int) then some (ad (5, b, c)) else none) = _
              by_cases q2 : (c : Int) < (c7 : Int)
              · rw [if_pos q2, if_pos (by omega), uo 5 b c (by omega)]
              · rw [if_neg q2, if_neg (by omega)]
          · by_cases q : c = c7
            · subst q
              refine ⟨?_, ?_, t7 b c hb hc⟩
              · rw [to_ _ _ _ (by decide), wo_ _ _ _ (Or.inl (by decide)), yo _ _ _ (Or.inr (Or.inl (by decide))), x5, g8, u6]
              · rw [to_ _ _ _ (by decide), wo_ _ _ _ (Or.inl (by decide)), yo _ _ _ (Or.inr (Or.inl (by decide))), xo _ _ _ (Or.inr (Or.inl (by decide))), v6, u7]
            · have hc2 : (c : Int) < F 7 b := by rw [g7p] at hc; omega
              obtain ⟨o7, o8⟩ := old c hc2 (Or.inr q)
              exact ⟨o7, o8, t7 b c hb hc⟩
        · have h7b := g7 b e
          refine ⟨?_, ?_, fun c hc => ?_⟩
          · rw [to7 _ _ _ (Or.inl (by decide)) (by omega) (by decide), o1, r4, r5, r6, h7b, uo _ _ _ (Or.inl (by decide))]
          · rw [to7 _ _ _ (Or.inl (by decide)) (by omega) (by decide), o2, h7b]; congr 2; funext c; rw [uo 5 b c (by omega)]
          · have hc2 : (c : Int) < F 7 b := by rw [h7b] at hc; exact hc
            obtain ⟨o7, o8⟩ := old c hc2 (Or.inl e)
            exact ⟨o7, o8, t7 b c hb hc⟩
      have e7 : ∀ k : Nat, (k : Int) < (gup z 1 0) 11 → ∃ ah wo c lo N P T, SHP ad1 (namF z F p) k n (lay0 F k n ((gup z 1 0) 0)).1 ah wo c lo N P T ct7 := by
        intro k hk
        have hk2 : (k : Int) < z 11 := hk
        obtain ⟨ah, N, T, h9⟩ := s7 k hk2
        rw [hn2] at h9
        exact ⟨_, _, _, _, _, _, _, h9.cg (fun t ht => by obtain ⟨ta, tb, tc⟩ := t; have h1 := ht.1; simp only at h1; exact to7 _ _ _ (Or.inl (by omega)) (Or.inr (Or.inl (by omega))) (by omega)) (fun t ht => by obtain ⟨ta, tb, tc⟩ := t; have h1 := ht.1; simp only at h1; exact uo _ _ _ (Or.inr (Or.inl (by omega)))) (fun i _ => uo _ _ _ (Or.inl (by decide))) ⟨by rw [namF_ne (k := 12) (by decide)], by rw [namF_ne (k := 13) (by decide)], by rw [namF_ne (k := 14) (by decide)]⟩ (fun i hi => ⟨(hag.1 i (by omega)).2.2, hag.o_cN (by omega) (by omega), hag.o_rN (by omega) (by omega), rfl, rfl, rfl⟩)⟩
      refine gV.eqs (st' := []) rfl rfl rfl ?_
      refine g_ald_n hC dX6_name_73 rfl ?_
      refine g_iload_n hC dX6_name_74 rfl ?_
      refine gV.eqs (st' := [vi (p : Int), .ref (ad1 (2, 0, 0))]) rfl (by rw [uo _ _ _ (Or.inl (by decide))]) rfl ?_
      refine g_callV (rest := []) hC (kX6_placeAllSheetsAnew hl (F0 := F) (n := n) p (by omega) hI2 (by show z 3 = _; omega) e1 e4 e6 e7 g7h c7R) gc_RX6_111 rfl (c7R.1 _ _ e1) rfl ⟨by decide, by decide⟩ ⟨by decide, by decide⟩ (Nat.le_of_ble_eq_true rfl) rfl dX6_name_75 (fun r g8h hp => ?_)
      obtain ⟨rfl, ct8, c8R, hfr8, hSS8⟩ := hp
      refine gV.eqs (st' := [vi (pushUp F (namF z F p) p n (z 0) (z 11).toNat)]) rfl rfl rfl ?_
      have h8 : ∀ a b c : Nat, (a < 10 ∨ 17 < a) → ct8 (a, b, c) = ct7 (a, b, c) := fun a b c h => hfr8 _ h
      have h87 : ∀ a b c : Nat, (a ≠ 2 ∨ b ≠ 1) → (a ≤ 2 ∨ 18 ≤ a) → ct8 (a, b, c) = ct (a, b, c) := fun a b c h1 h2 => by rw [h8 _ _ _ (by omega), to7 _ _ _ h1 (by omega) (by omega)]
      have hST : ST ad1 (gup z 1 0) (namF z F p) ct8 := by
        refine ⟨by rw [h8 _ _ _ (Or.inl (by decide))]; exact e1, ⟨m2, B, ?_, ?_, fun t ht => by have ht2 : (t : Int) < 0 := ht; omega⟩, ?_, by rw [h8 _ _ _ (Or.inl (by decide))]; exact e4, ?_, fun b hb => (e6 b (by have hb2 : (b : Int) < z 3 := hb; omega)).fr (fun a b c h1 h2 => h8 _ _ _ (Or.inl (by omega))), fun k hk => ?_, fun e he => ?_⟩
        · rw [h8 _ _ _ (Or.inl (by decide)), to_ _ _ _ (by decide), ect6, cup_eq, uo _ _ _ (Or.inl (by decide))]; rfl
        · rw [h87 _ _ _ (Or.inr (by decide)) (Or.inl (by decide))]; exact b2
        · rw [h87 _ _ _ (Or.inr (by decide)) (Or.inl (by decide)), s3]; congr 2; funext b; rw [uo _ _ _ (Or.inl (by decide))]; rfl
        · rw [h87 _ _ _ (Or.inr (by decide)) (Or.inl (by decide)), s5]; congr 2; funext b; rw [uo _ _ _ (Or.inr (Or.inl (by decide)))]; rfl
        · show SHS ad1 (namF z F p) (z 0) (z 3).toNat k ct8
          rw [hn2]; exact hSS8 k hk
        · have he2 : (e : Int) < z 22 := he
          have hm := hE e he2
          exact (s8 e he2).cg (fun a b h1 h2 => ⟨h87 _ _ _ (Or.inl (by omega)) (Or.inr (by omega)), uo _ _ _ (Or.inr (Or.inl (by omega)))⟩) ⟨by rw [namF_ne (k := 24) (by decide)], by rw [namF_ne (k := 23) (by decide)]⟩ (fun s hs => hag.o_recP hI hQ (by omega) (by omega) he2 (by omega) (by omega) hs (by omega) _ (by omega) (by omega))
      refine g_iret hC hq dX6_name_78 (by decide) (by decide) ⟨by rw [Int.toNat_natCast, hn2], hi, hbt, ad1, ct8, c8R, hST, ⟨fun t ht => ?_, uo _ _ _ (Or.inl (by decide))⟩⟩
      obtain ⟨ta, tb, tc⟩ := t
      simp only at ht
      exact ⟨h87 _ _ _ (Or.inl (by omega)) (by omega), uo _ _ _ (by omega)⟩
    · exact g_throw hC hq gt_92_62 dX6_name_33 dX6_name_36 dX6_name_37 dX6_name_39 dX6_name_42 (by decide) (Nat.le_of_ble_eq_true rfl) (by decide) (by decide) (by decide) (by decide) ⟨rfl, Or.inr ⟨hi, by rw [Int.toNat_natCast, hc7, decide_eq_false (p := (c7 : Int) < 6) (by have := of_decide_eq_true h2; omega), Bool.and_false], rfl⟩⟩
  · exact g_throw hC hq gt_86_62 dX6_name_16 dX6_name_19 dX6_name_20 dX6_name_22 dX6_name_25 (by decide) (Nat.le_of_ble_eq_true rfl) (by decide) (by decide) (by decide) (by decide) ⟨rfl, Or.inr ⟨hi, by rw [decide_eq_false (p := 0 < z 1) (by omega), Bool.false_and], rfl⟩⟩

end C27
