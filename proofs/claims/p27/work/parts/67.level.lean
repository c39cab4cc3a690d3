/-! PURE: the prices of a side one behind the other, and 'level' -/
/-- the reference's next price: behind 0 all -/
def aBehF (s p : Int) (b : Int) (o : Nat → Int) : Int := if o 2 = s ∧ (p = 0 ∨ aBet s p (o 3) = true) ∧ (b = 0 ∨ aBet s (o 3) b = true) then o 3 else b
theorem z_priceBehind8 {N : Nat} {G : qG} {m : Nat} {s p : Int} {μ : qM} {l : List (Nat → Int)} (h : mB G m μ l) (hl : lOk l) (hN : 100 < N) : f_X8_priceBehind N G m s p μ = some (l.foldl (aBehF s p) 0, μ) := by
  have hn := hl.1
  unfold f_X8_priceBehind f_X8_priceBehind_L5
  refine qLoop_end (fun i => (m, s, p, (l.take i).foldl (aBehF s p) 0, (i : Int), μ)) l.length N (by omega) (fun i hi k => ?_) (fun k => ?_)
  · show f_X8_priceBehind_5 N G _ m s p ((l.take i).foldl (aBehF s p) 0) (i : Int) μ = k (m, s, p, (l.take (i + 1)).foldl (aBehF s p) 0, ((i + 1 : Nat) : Int), μ)
    rw [foldl_take _ _ _ hi]
    generalize (l.take i).foldl (aBehF s p) 0 = c
    unfold f_X8_priceBehind_5 f_X8_priceBehind_56 f_X8_priceBehind_70 f_X8_priceBehind_73
    rw [h.1, if_pos (by omega), kb2_p (z8_2 h hn hi)]
    simp only [ckI_p (show in32 ((i : Int) + 1) from ⟨by omega, by omega⟩)]
    rw [cast1]
    unfold aBehF
    by_cases c1 : lG l i 2 = s
    · rw [if_pos c1, kb2_p (z8_3 h hn hi)]
      have fin : ∀ (hp : p = 0 ∨ aBet s p (lG l i 3) = true), (if c = 0 then k (m, s, p, lG l i 3, (i : Int) + 1, μ) else kb2 (f_X8_isBetter N G s (lG l i 3) c μ) fun v3 m2 => if v3 = 0 then k (m, s, p, c, (i : Int) + 1, m2) else k (m, s, p, lG l i 3, (i : Int) + 1, m2)) = k (m, s, p, (if lG l i 2 = s ∧ (p = 0 ∨ aBet s p (lG l i 3) = true) ∧ (c = 0 ∨ aBet s (lG l i 3) c = true) then lG l i 3 else c), (i : Int) + 1, μ) := by
        intro hp
        by_cases c2 : c = 0
        · rw [if_pos c2, if_pos ⟨c1, hp, Or.inl c2⟩]
        · rw [if_neg c2, kb2_p z_isBetter8, b01_ite]
          by_cases c3 : aBet s (lG l i 3) c = true
          · rw [if_pos c3, if_pos ⟨c1, hp, Or.inr c3⟩]
          · rw [if_neg c3, if_neg (fun q => q.2.2.elim c2 c3)]
      by_cases c4 : p = 0
      · rw [if_pos c4]
        exact fin (Or.inl c4)
      · rw [if_neg c4, kb2_p z_isBetter8, b01_ite]
        by_cases c5 : aBet s p (lG l i 3) = true
        · rw [if_pos c5]
          exact fin (Or.inr c5)
        · rw [if_neg c5, if_neg (fun q => q.2.1.elim c4 c5)]
    · rw [if_neg c1, if_neg (fun q => c1 q.1)]
  · show f_X8_priceBehind_5 N G _ m s p ((l.take l.length).foldl (aBehF s p) 0) (l.length : Int) μ = _
    unfold f_X8_priceBehind_5
    rw [h.1, if_neg (by omega), foldl_all]
theorem aBeh_0 {s : Int} {l : List (Nat → Int)} : l.foldl (aBehF s 0) 0 = aBest s l :=
  foldl_same _ _ l 0 (fun i hi c => by unfold aBehF aBestF; simp)
theorem aBeh_p {s p : Int} {l : List (Nat → Int)} (hp : p ≠ 0) : l.foldl (aBehF s p) 0 = aNext s p l :=
  foldl_same _ _ l 0 (fun i hi c => by unfold aBehF aNextF; simp [hp])
/-- what a search for the best of them finds: nothing, or one of them -/
theorem aNext_in {s p : Int} : ∀ (l : List (Nat → Int)) (b : Int), l.foldl (aNextF s p) b = b ∨ ∃ i, i < l.length ∧ lG l i 2 = s ∧ aBet s p (lG l i 3) = true ∧ l.foldl (aNextF s p) b = lG l i 3 := by
  intro l
  induction l with
  | nil => intro b; exact Or.inl rfl
  | cons o t ih =>
    intro b
    rw [List.foldl_cons]
    have e0 : lG (o :: t) 0 = o := rfl
    rcases ih (aNextF s p b o) with h | ⟨i, h1, h2, h3, h4⟩
    · rw [h]
      unfold aNextF
      split
      · rename_i c
        exact Or.inr ⟨0, by simp, by rw [e0]; exact c.1, by rw [e0]; exact c.2.1, by rw [e0]⟩
      · exact Or.inl rfl
    · exact Or.inr ⟨i + 1, by simp; omega, h2, h3, h4⟩
/-- and if there is one, it finds one -/
theorem aNext_ne {s p : Int} : ∀ (l : List (Nat → Int)) (b : Int), (∀ i, i < l.length → 1 ≤ lG l i 3) → b ≠ 0 → l.foldl (aNextF s p) b ≠ 0 := by
  intro l
  induction l with
  | nil => intro b _ hb; exact hb
  | cons o t ih =>
    intro b h hb
    rw [List.foldl_cons]
    refine ih _ (fun i hi => h (i + 1) (by simpa using hi)) ?_
    have h0 : 1 ≤ o 3 := h 0 (by simp)
    unfold aNextF
    split <;> omega
/-- the price j behind the best -/
def aPr (s : Int) (l : List (Nat → Int)) : Nat → Int
  | 0 => aBest s l
  | j + 1 => if aPr s l j = 0 then 0 else aNext s (aPr s l j) l
/-- how many of a side are behind a price -/
def wW (s p : Int) (o : Nat → Int) : Int := if o 2 = s ∧ aBet s p (o 3) = true then 1 else 0
theorem aS_le {w v : (Nat → Int) → Int} : ∀ {l : List (Nat → Int)}, (∀ i, i < l.length → w (lG l i) ≤ v (lG l i)) → aS w l ≤ aS v l := by
  intro l
  induction l with
  | nil => intro _; exact Int.le_refl _
  | cons o t ih =>
    intro h
    have h0 : w o ≤ v o := h 0 (by simp)
    have h1 := ih (fun i hi => h (i + 1) (by simpa using hi))
    rw [aS_cons, aS_cons]
    omega
theorem aS_lt {w v : (Nat → Int) → Int} : ∀ {l : List (Nat → Int)} {j : Nat}, (∀ i, i < l.length → w (lG l i) ≤ v (lG l i)) → j < l.length → w (lG l j) < v (lG l j) → aS w l < aS v l := by
  intro l
  induction l with
  | nil => intro j _ h; cases h
  | cons o t ih =>
    intro j h hj hlt
    have h0 : w o ≤ v o := h 0 (by simp)
    have ht : ∀ i, i < t.length → w (lG t i) ≤ v (lG t i) := fun i hi => h (i + 1) (by simpa using hi)
    rw [aS_cons, aS_cons]
    cases j with
    | zero =>
      have h1 : w o < v o := hlt
      have h2 := aS_le ht
      omega
    | succ j =>
      have h1 := ih ht (by simpa using hj) hlt
      omega
theorem aBet_tr {s p q r : Int} (h1 : aBet s p q = true) (h2 : aBet s q r = true) : aBet s p r = true := by
  unfold aBet at *
  by_cases c : s = 0
  · rw [if_pos c] at *
    have a := of_decide_eq_true h1
    have b := of_decide_eq_true h2
    exact decide_eq_true (by omega)
  · rw [if_neg c] at *
    have a := of_decide_eq_true h1
    have b := of_decide_eq_true h2
    exact decide_eq_true (by omega)
theorem aBet_ir {s p : Int} : aBet s p p = false := by
  unfold aBet
  split <;> simp
theorem aBest_next {s : Int} {l : List (Nat → Int)} (hl : lOk l) (hs : s = 0 ∨ s = 1) : aBest s l = aNext s (if s = 0 then 10000000 else 0) l := by
  refine foldl_same _ _ l 0 (fun i hi c => ?_)
  unfold aNextF aBestF
  have ho := (hl.2 i hi).2.2.2.1
  have hb : aBet s (if s = 0 then 10000000 else 0) (lG l i 3) = true := by
    unfold aBet
    rcases hs with rfl | rfl
    · rw [if_pos rfl, if_pos rfl]; exact decide_eq_true (by omega)
    · rw [if_neg (by decide), if_neg (by decide)]; exact decide_eq_true (by omega)
  simp only [hb, true_and]
/-- where there is a j-th price, fewer than all less j are behind it; and it is a price -/
theorem aPr_bd {s : Int} {l : List (Nat → Int)} (hl : lOk l) (hs : s = 0 ∨ s = 1) : ∀ j, aPr s l j ≠ 0 → aS (wW s (aPr s l j)) l + j + 1 ≤ l.length ∧ (1 ≤ aPr s l j ∧ aPr s l j ≤ 9999999) ∧ ∃ i, i < l.length ∧ lG l i 2 = s ∧ lG l i 3 = aPr s l j := by
  have step : ∀ p, aNext s p l ≠ 0 → aS (wW s (aNext s p l)) l < aS (wW s p) l ∧ (1 ≤ aNext s p l ∧ aNext s p l ≤ 9999999) ∧ ∃ i, i < l.length ∧ lG l i 2 = s ∧ lG l i 3 = aNext s p l := by
    intro p hne
    rcases aNext_in (s := s) (p := p) l 0 with h | ⟨i, h1, h2, h3, h4⟩
    · exact absurd h hne
    · have e : aNext s p l = lG l i 3 := h4
      have ho := (hl.2 i h1).2.2.2.1
      refine ⟨aS_lt (j := i) (fun k hk => ?_) h1 ?_, by rw [e]; exact ho, i, h1, h2, e.symm⟩
      · unfold wW
        rw [e]
        by_cases c : lG l k 2 = s ∧ aBet s (lG l i 3) (lG l k 3) = true
        · rw [if_pos c, if_pos ⟨c.1, aBet_tr h3 c.2⟩]; exact Int.le_refl _
        · rw [if_neg c]; split <;> omega
      · unfold wW
        rw [e, if_neg (fun q => by have := q.2; rw [aBet_ir] at this; cases this), if_pos ⟨h2, h3⟩]
        decide
  have top : ∀ p, aS (wW s p) l ≤ l.length := by
    intro p
    have := (aS_bd (w := wW s p) (M := 1) (l := l) (fun i hi => by unfold wW; split <;> omega)).2
    omega
  intro j
  induction j with
  | zero =>
    intro h
    have e : aPr s l 0 = aNext s (if s = 0 then 10000000 else 0) l := aBest_next hl hs
    rw [e] at h ⊢
    obtain ⟨h1, h2, h3⟩ := step _ h
    have := top (if s = 0 then 10000000 else 0)
    exact ⟨by omega, h2, h3⟩
  | succ j ih =>
    intro h
    by_cases c : aPr s l j = 0
    · exact absurd (show aPr s l (j + 1) = 0 from if_pos c) h
    · have e : aPr s l (j + 1) = aNext s (aPr s l j) l := if_neg c
      rw [e] at h ⊢
      obtain ⟨h1, h2, h3⟩ := step _ h
      have := ih c
      exact ⟨by omega, h2, h3⟩
theorem aPr_nn {s : Int} {l : List (Nat → Int)} (hl : lOk l) (hs : s = 0 ∨ s = 1) (j : Nat) : 0 ≤ aPr s l j := by
  by_cases c : aPr s l j = 0
  · omega
  · have := (aPr_bd hl hs j c).2.1; omega
theorem aPr_0 {s : Int} {l : List (Nat → Int)} {j k : Nat} (hjk : j ≤ k) (h : aPr s l j = 0) : aPr s l k = 0 := by
  induction k with
  | zero => have : j = 0 := by omega
            subst this; exact h
  | succ k ih =>
    by_cases c : j = k + 1
    · subst c; exact h
    · have := ih (by omega)
      exact if_pos this
/-- how many prices there are -/
theorem aPr_ex {s : Int} {l : List (Nat → Int)} (hl : lOk l) (hs : s = 0 ∨ s = 1) : ∃ c, c ≤ l.length ∧ aPr s l c = 0 ∧ ∀ j, j < c → aPr s l j ≠ 0 := by
  have h0 : aPr s l l.length = 0 := by
    refine Classical.byContradiction fun h => ?_
    have h1 := (aPr_bd hl hs l.length h).1
    have h2 := (aS_bd (w := wW s (aPr s l l.length)) (M := 1) (l := l) (fun i hi => by unfold wW; split <;> omega)).1
    omega
  obtain ⟨c, hc, hm⟩ := pk_least (fun c => aPr s l c = 0) ⟨_, h0⟩
  exact ⟨c, Nat.not_lt.mp (fun q => hm _ q h0), hc, fun j hj => hm j hj⟩
