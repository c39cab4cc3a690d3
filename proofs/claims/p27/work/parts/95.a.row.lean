/-! PURE: the market of the law: orders of one side, all at 100 but perhaps a worse one ahead -/
/-- the price of the worse one -/
def pFar (s : Int) : Int := if s = 0 then 99 else 101
/-- the orders: q (0 or 1) worse ones ahead, then n at 100 of sizes sz, numbered from q + 1 on -/
def Rw (l : List (Nat → Int)) (q n : Nat) (s : Int) (sz : Nat → Int) : Prop :=
  l.length = q + n ∧ q ≤ 1 ∧ (∀ i, i < q → lG l i = oMk 1 9 s (pFar s) 5 5) ∧ ∀ k, k < n → lG l (q + k) = oMk ((q : Int) + 1 + (k : Int)) (k : Int) s 100 (sz k) (sz k)
def bst (q n : Nat) (s : Int) : Int := if n = 0 then (if q = 0 then 0 else pFar s) else 100
section RW
variable {l : List (Nat → Int)} {q n : Nat} {s : Int} {sz : Nat → Int}
theorem Rw.o (h : Rw l q n s sz) : ∀ i, i < l.length → lG l i 2 = s ∧ lG l i 0 = (i : Int) + 1 := by
  intro i hi
  rw [h.1] at hi
  have hq := h.2.1
  by_cases c : i < q
  · rw [h.2.2.1 i c]
    exact ⟨rfl, by show (1 : Int) = (i : Int) + 1; omega⟩
  · obtain ⟨k, rfl⟩ : ∃ k, i = q + k := ⟨i - q, by omega⟩
    rw [h.2.2.2 k (by omega)]
    exact ⟨rfl, by show (q : Int) + 1 + k = ((q + k : Nat) : Int) + 1; omega⟩
theorem Rw.nil : Rw [] 0 0 s sz := ⟨rfl, by omega, fun i hi => by omega, fun k hk => by omega⟩
theorem Rw.far : Rw ([] ++ [oMk 1 9 s (pFar s) 5 5]) 1 0 s sz := by
  refine ⟨rfl, by omega, fun i hi => ?_, fun k hk => by omega⟩
  obtain rfl : i = 0 := by omega
  rfl
theorem Rw.add (h : Rw l q n s sz) : Rw (l ++ [oMk ((q : Int) + 1 + (n : Int)) (n : Int) s 100 (sz n) (sz n)]) q (n + 1) s sz := by
  obtain ⟨h1, h2, h3, h4⟩ := h
  refine ⟨by rw [List.length_append, h1]; rfl, h2, fun i hi => ?_, fun k hk => ?_⟩
  · rw [lG_app, if_neg (by omega)]; exact h3 i hi
  · rw [lG_app]
    by_cases c : k = n
    · subst c; rw [if_pos (by omega)]
    · rw [if_neg (by omega)]; exact h4 k (by omega)
theorem aBest_other (h : ∀ i, i < l.length → lG l i 2 ≠ s) : aBest s l = 0 := by
  rcases aBest_in (s := s) l 0 with e | ⟨i, h1, h2, h3⟩
  · exact e
  · exact absurd h2 (h i h1)
theorem aBest_app {o : Nat → Int} : aBest s (l ++ [o]) = aBestF s (aBest s l) o := by
  unfold aBest
  rw [List.foldl_append]
  rfl
theorem aBet_far (hs : s = 0 ∨ s = 1) : aBet s 100 (pFar s) = true := by
  rcases hs with e | e <;> subst e <;> rfl
theorem aBet_same {p : Int} : aBet s p p = false := by
  unfold aBet
  split <;> simp
theorem bst_b (hs : s = 0 ∨ s = 1) : (bst q n s = 0 ∨ aBet s 100 (bst q n s) = true) ↔ n = 0 := by
  unfold bst
  by_cases c : n = 0
  · rw [if_pos c]
    refine ⟨fun _ => c, fun _ => ?_⟩
    by_cases d : q = 0
    · rw [if_pos d]; exact Or.inl rfl
    · rw [if_neg d]; exact Or.inr (aBet_far hs)
  · rw [if_neg c, aBet_same]
    exact ⟨fun e => e.elim (fun e => absurd e (by decide)) (fun e => by cases e), fun e => absurd e c⟩
theorem bst_add (hs : s = 0 ∨ s = 1) (h : aBest s l = bst q n s) {a b z z' : Int} : aBest s (l ++ [oMk a b s 100 z z']) = 100 := by
  rw [aBest_app, h]
  show (if s = s ∧ (bst q n s = 0 ∨ aBet s 100 (bst q n s) = true) then 100 else bst q n s) = 100
  by_cases c : n = 0
  · rw [if_pos ⟨rfl, (bst_b hs).mpr c⟩]
  · rw [if_neg (fun e => c ((bst_b hs).mp e.2))]
    unfold bst
    rw [if_neg c]
/-- where they lie -/
theorem Rw.J0 (h : Rw l q n s sz) : aJ s 100 l q = [] := by
  have hq := h.2.1
  by_cases c : q = 0
  · subst c; rfl
  · obtain rfl : q = 1 := by omega
    have e : ¬ aAt s 100 (lG l 0) = true := by
      rw [h.2.2.1 0 (by omega)]
      intro e
      have e2 : pFar s = 100 := (aAt_e e).2
      unfold pFar at e2
      split at e2 <;> omega
    exact aJ_n (i := 0) e
theorem Rw.at (h : Rw l q n s sz) {k : Nat} (hk : k < n) : aAt s 100 (lG l (q + k)) = true := by
  rw [h.2.2.2 k hk]
  exact decide_eq_true ⟨rfl, rfl⟩
theorem Rw.J (h : Rw l q n s sz) : ∀ i, i ≤ n → (aJ s 100 l (q + i)).length = i ∧ ∀ k, k < i → jG (aJ s 100 l (q + i)) k = q + k := by
  intro i
  induction i with
  | zero =>
    intro _
    rw [show q + 0 = q from rfl, h.J0]
    exact ⟨rfl, fun k hk => absurd hk (Nat.not_lt_zero _)⟩
  | succ i ih =>
    intro hi
    obtain ⟨h1, h2⟩ := ih (by omega)
    have e : aJ s 100 l (q + (i + 1)) = aJ s 100 l (q + i) ++ [q + i] := aJ_y (h.at (by omega))
    rw [e]
    refine ⟨by rw [List.length_append, h1]; rfl, fun k hk => ?_⟩
    rw [jG_app, h1]
    by_cases c : k = i
    · rw [if_pos c, c]
    · rw [if_neg c]; exact h2 k (by omega)
theorem Rw.len (h : Rw l q n s sz) : (aJ s 100 l l.length).length = n := by rw [h.1]; exact (h.J n (Nat.le_refl _)).1
theorem Rw.jGa (h : Rw l q n s sz) {k : Nat} (hk : k < n) : jG (aJ s 100 l l.length) k = q + k := by rw [h.1]; exact (h.J n (Nat.le_refl _)).2 k hk
theorem Rw.jSz (h : Rw l q n s sz) {k : Nat} (hk : k < n) : jS l (aJ s 100 l l.length) k = sz k := by
  unfold jS
  rw [h.jGa hk, h.2.2.2 k hk]
  rfl
/-- where a number lies -/
theorem Rw.place (h : Rw l q n s sz) {k : Nat} (hk : k < n) {m : Int} (hm : m = (q : Int) + 1 + (k : Int)) : aPlace m l = some (q + k) := by
  subst hm
  have hl := h.1
  cases hp : aPlace ((q : Int) + 1 + (k : Int)) l with
  | none =>
    have e := aPl_none hp (q + k) (by omega)
    rw [h.2.2.2 k hk] at e
    exact absurd e (by simp [oMk])
  | some i =>
    obtain ⟨-, h2, h3, -⟩ := aPl_some hp
    rw [Nat.zero_add] at h2
    rw [Nat.sub_zero] at h3
    have e : lG l i 0 = (q : Int) + 1 + (k : Int) := of_decide_eq_true h3
    rw [(h.o i h2).2] at e
    congr 1
    omega
theorem sN_cg {f g : Nat → Int} : ∀ {c : Nat}, (∀ i, i < c → f i = g i) → sumN f c = sumN g c := by
  intro c
  induction c with
  | zero => intro _; rfl
  | succ c ih =>
    intro h
    show sumN f c + f c = sumN g c + g c
    rw [ih (fun i hi => h i (by omega)), h c (by omega)]
end RW
/-! PURE: a take depends on the rows alone -/
section SHC
variable {S S' g g' : Nat → Int} {K L : Int} {c : Nat}
theorem shL_cg (h : ∀ i, i < c → S i = S' i ∧ g i = g' i) : ∀ i, i ≤ c → shL S g K i = shL S' g' K i := by
  intro i
  induction i with
  | zero => intro _; rfl
  | succ i ih =>
    intro hi
    show shL S g K i - min (shL S g K i) (min (S i) (g i)) = shL S' g' K i - min (shL S' g' K i) (min (S' i) (g' i))
    rw [ih (by omega), (h i (by omega)).1, (h i (by omega)).2]
theorem shA_cg (h : ∀ i, i < c → S i = S' i ∧ g i = g' i) {i : Nat} (hi : i < c) : shA S g K i = shA S' g' K i := by
  unfold shA
  rw [shL_cg h i (by omega), (h i hi).1, (h i hi).2]
theorem shZ_cg (h : ∀ i, i < c → S i = S' i ∧ g i = g' i) : shZ S g K c = shZ S' g' K c := by
  unfold shZ
  exact sN_cg (fun i hi => by rw [shA_cg h hi, (h i hi).1])
theorem shB_cg (h : ∀ i, i < c → S i = S' i ∧ g i = g' i) {i : Nat} (hi : i < c) : shB S g K L c i = shB S' g' K L c i := by
  unfold shB
  rw [shL_cg h c (Nat.le_refl _), shA_cg h hi, (h i hi).1, shZ_cg h]
theorem shR_cg (h : ∀ i, i < c → S i = S' i ∧ g i = g' i) : ∀ i, i ≤ c → shR S g K L c i = shR S' g' K L c i := by
  intro i
  induction i with
  | zero =>
    intro _
    show shM2 S g K L c c = shM2 S' g' K L c c
    unfold shM2
    rw [shL_cg h c (Nat.le_refl _), sN_cg (fun i hi => shB_cg h hi)]
  | succ i ih =>
    intro hi
    show shR S g K L c i - min (shR S g K L c i) (S i - shA S g K i - shB S g K L c i) = shR S' g' K L c i - min (shR S' g' K L c i) (S' i - shA S' g' K i - shB S' g' K L c i)
    rw [ih (by omega), (h i (by omega)).1, shA_cg h (show i < c by omega), shB_cg h (show i < c by omega)]
theorem shC_cg (h : ∀ i, i < c → S i = S' i ∧ g i = g' i) {i : Nat} (hi : i < c) : shC S g K L c i = shC S' g' K L c i := by
  unfold shC
  rw [shR_cg h i (by omega), (h i hi).1, shA_cg h hi, shB_cg h hi]
end SHC
/-! PURE: the grant is the first's alone -/
def gOne (g : Int) (k : Nat) : Int := if k = 0 then g else 0
section ONE
variable {sz : Nat → Int} {g K L : Int} {n : Nat}
theorem one_ok (hn : 1 ≤ n ∧ n ≤ 8) (hz : ∀ k, k < n → 1 ≤ sz k ∧ sz k ≤ 1000) (hg : 0 ≤ g ∧ g ≤ 1000) (hK : 0 ≤ K ∧ K ≤ 60000) (hL : 1 ≤ L ∧ L ≤ 50) : shOk sz (gOne g) K L n :=
  ⟨by omega, fun i hi => by have := hz i hi; omega, fun i hi => by unfold gOne; split <;> omega, hK, hL⟩
theorem one_A (h : shOk sz (gOne g) K L n) (hn : 1 ≤ n) : shA sz (gOne g) K 0 = min (min K (sz 0)) g ∧ ∀ k, 1 ≤ k → k < n → shA sz (gOne g) K k = 0 := by
  refine ⟨?_, fun k hk hkn => ?_⟩
  · unfold shA gOne
    rw [if_pos rfl]
    show min K (min (sz 0) g) = _
    omega
  · have h1 := shL_bd h k (by omega)
    have h2 := h.2.1 k hkn
    have e : gOne g k = 0 := if_neg (by omega)
    unfold shA
    rw [e]
    omega
theorem one_L (h : shOk sz (gOne g) K L n) (hn : 1 ≤ n) : ∀ k, 1 ≤ k → k ≤ n → shL sz (gOne g) K k = K - shA sz (gOne g) K 0 := by
  intro k
  induction k with
  | zero => intro h _; omega
  | succ k ih =>
    intro _ hk
    have e : shL sz (gOne g) K (k + 1) = shL sz (gOne g) K k - shA sz (gOne g) K k := rfl
    rw [e]
    by_cases c : k = 0
    · subst c; rfl
    · rw [ih (by omega) (by omega), (one_A h hn).2 k (by omega) (by omega)]; omega
theorem one_Z (h : shOk sz (gOne g) K L n) (hn : 1 ≤ n) : shZ sz (gOne g) K n = sumN sz n - shA sz (gOne g) K 0 := by
  have q : ∀ k, 1 ≤ k → k ≤ n → shZ sz (gOne g) K k = sumN sz k - shA sz (gOne g) K 0 := by
    intro k
    induction k with
    | zero => intro h _; omega
    | succ k ih =>
      intro _ hk
      show shZ sz (gOne g) K k + (sz k - shA sz (gOne g) K k) = sumN sz k + sz k - shA sz (gOne g) K 0
      by_cases c : k = 0
      · subst c
        show (0 : Int) + (sz 0 - shA sz (gOne g) K 0) = 0 + sz 0 - shA sz (gOne g) K 0
        omega
      · rw [ih (by omega) (by omega), (one_A h hn).2 k (by omega) (by omega)]; omega
  exact q n hn (Nat.le_refl _)
end ONE
