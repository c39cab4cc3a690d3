/-! PURE: the rows of orders, and the reference's readings of them -/
def oZ : Nat → Int := fun _ => 0
def lG (l : List (Nat → Int)) (i : Nat) : Nat → Int := l.getD i oZ
/-- an order: 0 number, 1 trader, 2 side, 3 price, 4 size, 5 came -/
def oOk (o : Nat → Int) : Prop := (1 ≤ o 0 ∧ o 0 ≤ 2000000000) ∧ (0 ≤ o 1 ∧ o 1 ≤ 9) ∧ (o 2 = 0 ∨ o 2 = 1) ∧ (1 ≤ o 3 ∧ o 3 ≤ 9999999) ∧ (0 ≤ o 4 ∧ o 4 ≤ 1000) ∧ (1 ≤ o 5 ∧ o 5 ≤ 1000)
def lOk (l : List (Nat → Int)) : Prop := l.length ≤ 60 ∧ ∀ i, i < l.length → oOk (lG l i)
/-- the reference's row of numbers holds these orders -/
def mB (G : qG) (m : Nat) (μ : qM) (l : List (Nat → Int)) : Prop := gA μ (gR G 800 m) 5 = (l.length : Int) ∧ ∀ i k : Nat, i < l.length → k < 6 → gA μ (gR G 800 m) (24 + 6 * i + k) = (lG l i) k
theorem foldl_take {α : Type} (f : α → (Nat → Int) → α) (b : α) (l : List (Nat → Int)) {i : Nat} (hi : i < l.length) : (l.take (i + 1)).foldl f b = f ((l.take i).foldl f b) (lG l i) := by
  unfold lG
  rw [List.take_succ_eq_append_getElem hi, List.foldl_append, List.getD_eq_getElem?_getD, List.getElem?_eq_getElem hi]
  rfl
theorem foldl_all {α : Type} (f : α → (Nat → Int) → α) (b : α) (l : List (Nat → Int)) : (l.take l.length).foldl f b = l.foldl f b := by rw [List.take_length]
theorem z_ofOrder8 {N : Nat} {G : qG} {m : Nat} {x1 x2 : Int} {μ : qM} (h1 : 0 ≤ x1 ∧ x1 < 60) (h2 : 0 ≤ x2 ∧ x2 < 6) : f_X8_ofOrder N G m x1 x2 μ = some (gA μ (gR G 800 m) (24 + 6 * x1 + x2).toNat, μ) := by
  unfold f_X8_ofOrder
  rw [ckI_p ⟨by omega, by omega⟩, ckI_p ⟨by omega, by omega⟩, ckI_p ⟨by omega, by omega⟩, rdA_p ⟨by omega, by omega⟩]
theorem z_ord8 {N : Nat} {G : qG} {m : Nat} {μ : qM} {l : List (Nat → Int)} (h : mB G m μ l) (hn : l.length ≤ 60) {i : Nat} (hi : i < l.length) (k : Nat) (hk : k < 6) {x2 : Int} (hx : x2 = (k : Int)) : f_X8_ofOrder N G m (i : Int) x2 μ = some ((lG l i) k, μ) := by
  rw [z_ofOrder8 ⟨by omega, by omega⟩ ⟨by omega, by omega⟩]
  rw [← h.2 i k hi hk]
  congr 3
  omega
theorem z8_0 {N : Nat} {G : qG} {m : Nat} {μ : qM} {l : List (Nat → Int)} (h : mB G m μ l) (hn : l.length ≤ 60) {i : Nat} (hi : i < l.length) : f_X8_ofOrder N G m (i : Int) 0 μ = some ((lG l i) 0, μ) := z_ord8 h hn hi 0 (by decide) rfl
theorem z8_1 {N : Nat} {G : qG} {m : Nat} {μ : qM} {l : List (Nat → Int)} (h : mB G m μ l) (hn : l.length ≤ 60) {i : Nat} (hi : i < l.length) : f_X8_ofOrder N G m (i : Int) 1 μ = some ((lG l i) 1, μ) := z_ord8 h hn hi 1 (by decide) rfl
theorem z8_2 {N : Nat} {G : qG} {m : Nat} {μ : qM} {l : List (Nat → Int)} (h : mB G m μ l) (hn : l.length ≤ 60) {i : Nat} (hi : i < l.length) : f_X8_ofOrder N G m (i : Int) 2 μ = some ((lG l i) 2, μ) := z_ord8 h hn hi 2 (by decide) rfl
theorem z8_3 {N : Nat} {G : qG} {m : Nat} {μ : qM} {l : List (Nat → Int)} (h : mB G m μ l) (hn : l.length ≤ 60) {i : Nat} (hi : i < l.length) : f_X8_ofOrder N G m (i : Int) 3 μ = some ((lG l i) 3, μ) := z_ord8 h hn hi 3 (by decide) rfl
theorem z8_4 {N : Nat} {G : qG} {m : Nat} {μ : qM} {l : List (Nat → Int)} (h : mB G m μ l) (hn : l.length ≤ 60) {i : Nat} (hi : i < l.length) : f_X8_ofOrder N G m (i : Int) 4 μ = some ((lG l i) 4, μ) := z_ord8 h hn hi 4 (by decide) rfl
theorem z8_5 {N : Nat} {G : qG} {m : Nat} {μ : qM} {l : List (Nat → Int)} (h : mB G m μ l) (hn : l.length ≤ 60) {i : Nat} (hi : i < l.length) : f_X8_ofOrder N G m (i : Int) 5 μ = some ((lG l i) 5, μ) := z_ord8 h hn hi 5 (by decide) rfl
/-- a truth as Java has it -/
def b01 (b : Bool) : Int := if b = true then 1 else 0
theorem b01_t {b : Bool} (h : b = true) : b01 b = 1 := if_pos h
theorem b01_f {b : Bool} (h : b = false) : b01 b = 0 := by rw [h]; rfl
theorem b01_ite {α : Type} {b : Bool} {x y : α} : (if b01 b = 0 then x else y) = if b = true then y else x := by cases b <;> rfl
theorem b01_ite1 {α : Type} {b : Bool} {x y : α} : (if b01 b = 1 then x else y) = if b = true then x else y := by cases b <;> rfl
def aBet (s p q : Int) : Bool := if s = 0 then decide (q < p) else decide (p < q)
theorem z_isBetter8 {N : Nat} {G : qG} {s p q : Int} {μ : qM} : f_X8_isBetter N G s p q μ = some (b01 (aBet s p q), μ) := by
  unfold f_X8_isBetter aBet b01
  by_cases h0 : s = 0
  · by_cases h : q < p <;> simp [h0, h]
  · by_cases h : p < q <;> simp [h0, h]
def aIn (v a b : Int) : Bool := decide (a ≤ v ∧ v ≤ b)
theorem z_within8 {N : Nat} {G : qG} {v a b : Int} {μ : qM} : f_X8_within N G v a b μ = some (b01 (aIn v a b), μ) := by
  unfold f_X8_within
  by_cases h1 : v < a
  · rw [if_pos h1, b01_f (by simp [aIn]; omega)]
  · by_cases h2 : b < v
    · rw [if_neg h1, if_pos h2, b01_f (by simp [aIn]; omega)]
    · rw [if_neg h1, if_neg h2, b01_t (by simp [aIn]; omega)]
/-- the best price of a side, 0 without -/
def aBestF (s : Int) (b : Int) (o : Nat → Int) : Int := if o 2 = s ∧ (b = 0 ∨ aBet s (o 3) b = true) then o 3 else b
def aBest (s : Int) (l : List (Nat → Int)) : Int := l.foldl (aBestF s) 0
theorem z_bestOf8 {N : Nat} {G : qG} {m : Nat} {s : Int} {μ : qM} {l : List (Nat → Int)} (h : mB G m μ l) (hl : lOk l) (hN : 100 < N) : f_X8_bestOf N G m s μ = some (aBest s l, μ) := by
  have hn := hl.1
  unfold f_X8_bestOf f_X8_bestOf_L4
  refine qLoop_end (fun i => (m, s, (l.take i).foldl (aBestF s) 0, (i : Int), μ)) l.length N (by omega) (fun i hi k => ?_) (fun k => ?_)
  · show f_X8_bestOf_4 N G _ m s ((l.take i).foldl (aBestF s) 0) (i : Int) μ = k (m, s, (l.take (i + 1)).foldl (aBestF s) 0, ((i + 1 : Nat) : Int), μ)
    rw [foldl_take _ _ _ hi]
    generalize (l.take i).foldl (aBestF s) 0 = b
    unfold f_X8_bestOf_4 f_X8_bestOf_49 f_X8_bestOf_52
    rw [h.1, if_pos (by omega), kb2_p (z8_2 h hn hi)]
    simp only [ckI_p (show in32 ((i : Int) + 1) from ⟨by omega, by omega⟩)]
    have e1 : ((i + 1 : Nat) : Int) = (i : Int) + 1 := by omega
    rw [e1]
    unfold aBestF
    by_cases c1 : (lG l i) 2 = s
    · rw [if_pos c1, kb2_p (z8_3 h hn hi)]
      by_cases c2 : b = 0
      · rw [if_pos c2, if_pos ⟨c1, Or.inl c2⟩]
      · rw [if_neg c2, kb2_p z_isBetter8, b01_ite]
        by_cases c3 : aBet s ((lG l i) 3) b = true
        · rw [if_pos c3, if_pos ⟨c1, Or.inr c3⟩]
        · rw [if_neg c3, if_neg (fun q => q.2.elim c2 c3)]
    · rw [if_neg c1, if_neg (fun q => c1 q.1)]
  · show f_X8_bestOf_4 N G _ m s ((l.take l.length).foldl (aBestF s) 0) (l.length : Int) μ = _
    unfold f_X8_bestOf_4
    rw [h.1, if_neg (by omega), foldl_all]
    rfl
