/-! PURE: the class's book -/
/-- the book at b holds these orders, in the rows at A -/
def cB (G : qG) (b : Nat) (A : Nat → Nat) (μ : qM) (l : List (Nat → Int)) : Prop :=
  gI μ 1 b = (l.length : Int) ∧ (∀ i, i < 60 → gQ μ (gR G 0 b) i = some (A i) ∧ gK G (A i) = 5) ∧ (∀ i j, i < 60 → j < 60 → A i = A j → i = j) ∧ ∀ i k : Nat, i < l.length → k < 6 → gI μ (400 + k) (A i) = (lG l i) k
theorem z_row0 {α : Type} {G : qG} {b : Nat} {A : Nat → Nat} {μ : qM} {l : List (Nat → Int)} (h : cB G b A μ l) {i : Nat} (hi : i < 60) {k : Nat → Option α} : rdQ (gK G) 5 μ (gR G 0 b) (i : Int) 60 k = k (A i) :=
  rdQ_p ⟨by omega, by omega⟩ (h.2.1 i hi).1 (h.2.1 i hi).2
theorem z_f0 {G : qG} {b : Nat} {A : Nat → Nat} {μ : qM} {l : List (Nat → Int)} (h : cB G b A μ l) {i : Nat} (hi : i < l.length) (k : Nat) (hk : k < 6) : gI μ (400 + k) (A i) = (lG l i) k := h.2.2.2 i k hi hk
theorem z_isBetter7 {N : Nat} {G : qG} {s p q : Int} {μ : qM} : f_X7_isBetter N G s p q μ = some (b01 (aBet s p q), μ) := by
  unfold f_X7_isBetter aBet b01
  by_cases h0 : s = 0
  · by_cases h : q < p <;> simp [h0, h]
  · by_cases h : p < q <;> simp [h0, h]
/-- the best price of a side of those behind one -/
def aNextF (s p : Int) (b : Int) (o : Nat → Int) : Int := if o 2 = s ∧ aBet s p (o 3) = true ∧ (b = 0 ∨ aBet s (o 3) b = true) then o 3 else b
def aNext (s p : Int) (l : List (Nat → Int)) : Int := l.foldl (aNextF s p) 0
theorem z_nextPrice0 {N : Nat} {G : qG} {b : Nat} {A : Nat → Nat} {s p : Int} {μ : qM} {l : List (Nat → Int)} (h : cB G b A μ l) (hl : lOk l) (hN : 100 < N) : f_X0_nextPrice N G b s p μ = some (aNext s p l, μ) := by
  have hn := hl.1
  unfold f_X0_nextPrice f_X0_nextPrice_L5
  refine qLoop_end (fun i => (b, s, p, (l.take i).foldl (aNextF s p) 0, (i : Int), μ)) l.length N (by omega) (fun i hi k => ?_) (fun k => ?_)
  · show f_X0_nextPrice_5 N G _ b s p ((l.take i).foldl (aNextF s p) 0) (i : Int) μ = k (b, s, p, (l.take (i + 1)).foldl (aNextF s p) 0, ((i + 1 : Nat) : Int), μ)
    rw [foldl_take _ _ _ hi]
    generalize (l.take i).foldl (aNextF s p) 0 = c
    unfold f_X0_nextPrice_5 f_X0_nextPrice_62 f_X0_nextPrice_68
    rw [h.1, if_pos (by omega), z_row0 h (by omega)]
    simp only [ckI_p (show in32 ((i : Int) + 1) from ⟨by omega, by omega⟩)]
    have e1 : ((i + 1 : Nat) : Int) = (i : Int) + 1 := by omega
    rw [e1]
    have f2 : gI μ 402 (A i) = (lG l i) 2 := z_f0 h hi 2 (by decide)
    have f3 : gI μ 403 (A i) = (lG l i) 3 := z_f0 h hi 3 (by decide)
    rw [f2, f3]
    unfold aNextF
    by_cases c1 : (lG l i) 2 = s
    · rw [if_pos c1, kb2_p z_isBetter7, b01_ite]
      by_cases c4 : aBet s p ((lG l i) 3) = true
      · rw [if_pos c4]
        by_cases c2 : c = 0
        · rw [if_pos c2, f3, if_pos ⟨c1, c4, Or.inl c2⟩]
        · rw [if_neg c2, f3, kb2_p z_isBetter7, b01_ite]
          by_cases c3 : aBet s ((lG l i) 3) c = true
          · rw [if_pos c3, f3, if_pos ⟨c1, c4, Or.inr c3⟩]
          · rw [if_neg c3, if_neg (fun q => q.2.2.elim c2 c3)]
      · rw [if_neg c4, if_neg (fun q => c4 q.2.1)]
    · rw [if_neg c1, if_neg (fun q => c1 q.1)]
  · show f_X0_nextPrice_5 N G _ b s p ((l.take l.length).foldl (aNextF s p) 0) (l.length : Int) μ = _
    unfold f_X0_nextPrice_5
    rw [h.1, if_neg (by omega), foldl_all]
    rfl
theorem foldl_same {α : Type} (f g : α → (Nat → Int) → α) : ∀ (l : List (Nat → Int)) (b : α), (∀ i, i < l.length → ∀ c, f c (lG l i) = g c (lG l i)) → l.foldl f b = l.foldl g b := by
  intro l
  induction l with
  | nil => intro b _; rfl
  | cons o l ih =>
    intro b h
    have h0 : f b o = g b o := h 0 (by simp) b
    rw [List.foldl_cons, List.foldl_cons, h0]
    exact ih _ (fun i hi c => h (i + 1) (by simpa using hi) c)
theorem z_best0 {N : Nat} {G : qG} {b : Nat} {A : Nat → Nat} {s : Int} {μ : qM} {l : List (Nat → Int)} (h : cB G b A μ l) (hl : lOk l) (hN : 100 < N) (hs : s = 0 ∨ s = 1) : f_X0_best N G b s μ = some (aBest s l, μ) := by
  have e : ∀ p, (p = if s = 0 then 10000000 else 0) → aNext s p l = aBest s l := by
    intro p hp
    refine foldl_same _ _ l 0 (fun i hi c => ?_)
    unfold aNextF aBestF
    have ho := (hl.2 i hi).2.2.2.1
    have hb : aBet s p ((lG l i) 3) = true := by
      unfold aBet
      rcases hs with rfl | rfl
      · rw [if_pos rfl] at hp ⊢; exact decide_eq_true (by omega)
      · rw [if_neg (by decide)] at hp ⊢; exact decide_eq_true (by omega)
    simp only [hb, true_and]
  unfold f_X0_best f_X0_best_12
  by_cases h0 : s = 0
  · rw [if_pos h0, kb2_p (z_nextPrice0 h hl hN), e _ (by rw [if_pos h0])]
  · rw [if_neg h0, kb2_p (z_nextPrice0 h hl hN), e _ (by rw [if_neg h0])]
