/-! PURE: of, position, money: both sides answer alike, and where the class throws the reference says so -/
theorem cR.out {G : qG} {ρ : Nat → Nat × Nat} {x o : Nat} {μ : qM} {l : List (Nat → Int)} {T D : Nat → Int} {tr : Nat → Nat → Int} {n : Nat} {B : Nat → Int} (hy : cLY G ρ x) (hl : l.length ≤ 60) (h : cR G ρ x μ l T D tr n B) (ho : (ρ o).1 = o ∧ o ≠ gR G 700 x ∧ o ≠ gR G 701 x ∧ o ≠ x) {v : Int} : cR G ρ x (sA μ o 0 v) l T D tr n B := by
  have hd : dRole ρ o μ (sA μ o 0 v) := dRole.sA ho.1
  obtain ⟨⟨A, V, nx, hf⟩, h2, h3⟩ := h
  refine ⟨⟨A, V, nx, hf.fr hy.1 hl (fun g a e => rfl) (fun a i e => gA_a (fun q => ho.2.1 ?_)) (fun a i e => rfl)⟩, h2.fr hy.2.1 (Ne.symm ho.2.2.1) hd, h3.fr hy (Ne.symm ho.2.2.2) hd⟩
  rw [q, ho.1] at e
  exact e
theorem pR.out {G7 G8 : qG} {ρ : Nat → Nat × Nat} {x m o c : Nat} {μ7 μ8 : qM} (hy : cLY G7 ρ x) (h : pR G7 ρ x G8 m c μ7 μ8) (ho : (ρ o).1 = o ∧ o ≠ gR G7 700 x ∧ o ≠ gR G7 701 x ∧ o ≠ x) {v : Int} : pR G7 ρ x G8 m c (sA μ7 o 0 v) μ8 := by
  obtain ⟨S, n, B, h1, h2, hk, h4⟩ := h
  exact ⟨S, n, B, h1.out hy hk.1.lo.1 ho, h2, hk, h4⟩
theorem pR.up {G7 G8 : qG} {ρ : Nat → Nat × Nat} {x m c : Nat} {μ7 μ8 : qM} (h : pR G7 ρ x G8 m c μ7 μ8) : pR G7 ρ x G8 m (c + 1) μ7 μ8 := by
  obtain ⟨S, n, B, h1, h2, hk, h4⟩ := h
  exact ⟨S, n, B, h1, h2, hk, by omega⟩
section PAIR2
variable {N : Nat} {G7 G8 : qG} {ρ : Nat → Nat × Nat} {x m o c : Nat} {μ7 μ8 : qM}
theorem p_position (hy : cLY G7 ρ x) (ho : (ρ o).1 = o ∧ o ≠ gR G7 700 x ∧ o ≠ gR G7 701 x ∧ o ≠ x) (h : pR G7 ρ x G8 m c μ7 μ8) (t : Int) : ∃ r ν8, f_X8_position N G8 m t μ8 = some (r, ν8) ∧
    ((0 ≤ t ∧ t < 10) ∧ r = gA μ7 (gR G7 305 (gR G7 201 (gR G7 700 x))) t.toNat ∧ gI ν8 804 m = 0 ∧ pR G7 ρ x G8 m (c + 1) (sA μ7 o 0 r) ν8 ∨ ¬ (0 ≤ t ∧ t < 10) ∧ gI ν8 804 m = 1 ∧ pR G7 ρ x G8 m (c + 1) μ7 ν8) := by
  obtain ⟨S, n, B, h1, h2, hk, h4⟩ := h
  obtain ⟨ν8, b1, b2, b3⟩ := z_position8 (N := N) h2 t
  refine ⟨_, ν8, b1, ?_⟩
  obtain ⟨A, V, nx, hf⟩ := id h1.1
  by_cases q : 0 ≤ t ∧ t < 10
  · have e : aIn t 0 9 = true := decide_eq_true ⟨q.1, by omega⟩
    rw [if_pos e] at b3 ⊢
    have e6 := (hf.2.2.2.2.2.1 t.toNat (by omega)).1
    refine Or.inl ⟨q, e6.symm, b3, (pR.out hy ⟨S, n, B, h1, b2, hk, by omega⟩ ho)⟩
  · have e : ¬ aIn t 0 9 = true := fun z => q (by have := of_decide_eq_true z; omega)
    rw [if_neg e] at b3
    exact Or.inr ⟨q, b3, S, n, B, h1, b2, hk, by omega⟩
theorem p_money (hy : cLY G7 ρ x) (ho : (ρ o).1 = o ∧ o ≠ gR G7 700 x ∧ o ≠ gR G7 701 x ∧ o ≠ x) (h : pR G7 ρ x G8 m c μ7 μ8) (t : Int) : ∃ r ν8, f_X8_money N G8 m t μ8 = some (r, ν8) ∧
    ((0 ≤ t ∧ t < 10) ∧ r = gA μ7 (gR G7 306 (gR G7 201 (gR G7 700 x))) t.toNat ∧ gI ν8 804 m = 0 ∧ pR G7 ρ x G8 m (c + 1) (sA μ7 o 0 r) ν8 ∨ ¬ (0 ≤ t ∧ t < 10) ∧ gI ν8 804 m = 1 ∧ pR G7 ρ x G8 m (c + 1) μ7 ν8) := by
  obtain ⟨S, n, B, h1, h2, hk, h4⟩ := h
  obtain ⟨ν8, b1, b2, b3⟩ := z_money8 (N := N) h2 t
  refine ⟨_, ν8, b1, ?_⟩
  obtain ⟨A, V, nx, hf⟩ := id h1.1
  by_cases q : 0 ≤ t ∧ t < 10
  · have e : aIn t 0 9 = true := decide_eq_true ⟨q.1, by omega⟩
    rw [if_pos e] at b3 ⊢
    have e6 := (hf.2.2.2.2.2.1 t.toNat (by omega)).2
    refine Or.inl ⟨q, e6.symm, b3, (pR.out hy ⟨S, n, B, h1, b2, hk, by omega⟩ ho)⟩
  · have e : ¬ aIn t 0 9 = true := fun z => q (by have := of_decide_eq_true z; omega)
    rw [if_neg e] at b3
    exact Or.inr ⟨q, b3, S, n, B, h1, b2, hk, by omega⟩
theorem p_of (hy : cLY G7 ρ x) (ho : (ρ o).1 = o ∧ o ≠ gR G7 700 x ∧ o ≠ gR G7 701 x ∧ o ≠ x) (h : pR G7 ρ x G8 m c μ7 μ8) (hN : 100000 < N) (k w : Int) : ∃ r ν8 f, f_X8_of N G8 m k w μ8 = some (r, ν8) ∧ f_X0_find N G7 (gR G7 200 (gR G7 700 x)) k μ7 = some (f, μ7) ∧
    ((∃ o3, f = some o3 ∧ ((w = 0 ∧ r = gI μ7 401 o3) ∨ (w = 1 ∧ r = gI μ7 402 o3) ∨ (w = 2 ∧ r = gI μ7 403 o3) ∨ (w = 3 ∧ r = gI μ7 404 o3) ∨ (w = 4 ∧ r = gI μ7 405 o3) ∨ (w = 5 ∧ f_X0_grantOf N G7 (gR G7 200 (gR G7 700 x)) o3 μ7 = some (r, μ7)))) ∧ gI ν8 804 m = 0 ∧ pR G7 ρ x G8 m (c + 1) (sA μ7 o 0 r) ν8 ∨ (f = none ∨ w < 0 ∨ 5 < w) ∧ gI ν8 804 m = 1 ∧ pR G7 ρ x G8 m (c + 1) μ7 ν8) := by
  obtain ⟨S, n, B, h1, h2, hk, h4⟩ := h
  obtain ⟨ν8, r, b1, b2, b3, b4⟩ := z_of8 (N := N) h2 hk.1.lo (by omega) k w
  obtain ⟨A, V, nx, hf⟩ := id h1.1
  have e0 := z_find0 (N := N) (n := k) hf.1 hk.1.lo.1 (by omega)
  refine ⟨r, ν8, _, b1, e0, ?_⟩
  cases hp : aPlace k S.1 with
  | none => exact Or.inr ⟨Or.inl rfl, b4 (Or.inl hp), S, n, B, h1, b2, hk, by omega⟩
  | some i =>
    by_cases q : 0 ≤ w ∧ w ≤ 5
    · obtain ⟨er, b5⟩ := b3 i hp (decide_eq_true q)
      obtain ⟨-, hi, -, -⟩ := aPl_some hp
      rw [Nat.zero_add] at hi
      have hg : ∀ k : Nat, k < 6 → gI μ7 (400 + k) (A i) = lG S.1 i k := fun k hk6 => hf.1.2.2.2 i k hi hk6
      refine Or.inl ⟨⟨A i, rfl, ?_⟩, b5, pR.out hy ⟨S, n, B, h1, b2, hk, by omega⟩ ho⟩
      rcases (show w = 0 ∨ w = 1 ∨ w = 2 ∨ w = 3 ∨ w = 4 ∨ w = 5 by omega) with rfl | rfl | rfl | rfl | rfl | rfl
      · exact Or.inl ⟨rfl, er.trans (hg 1 (by decide)).symm⟩
      · exact Or.inr (Or.inl ⟨rfl, er.trans (hg 2 (by decide)).symm⟩)
      · exact Or.inr (Or.inr (Or.inl ⟨rfl, er.trans (hg 3 (by decide)).symm⟩))
      · exact Or.inr (Or.inr (Or.inr (Or.inl ⟨rfl, er.trans (hg 4 (by decide)).symm⟩)))
      · exact Or.inr (Or.inr (Or.inr (Or.inr (Or.inl ⟨rfl, er.trans (hg 5 (by decide)).symm⟩))))
      · refine Or.inr (Or.inr (Or.inr (Or.inr (Or.inr ⟨rfl, ?_⟩))))
        have ok := hk.1.lo.2 i hi
        rw [z_grantOf0 (N := N) hf.2.2.1 (hg 0 (by decide)) (hg 2 (by decide)) ok.2.2.1 ok.1.1, er]
        rfl
    · refine Or.inr ⟨Or.inr (by omega), b4 (Or.inr (decide_eq_false q)), S, n, B, h1, b2, hk, by omega⟩
end PAIR2
