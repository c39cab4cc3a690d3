/-! PURE: loops over the rows of orders, by what is left of the list -/
theorem lG_cons (l : List (Nat → Int)) {i : Nat} (hi : i < l.length) : l.drop i = lG l i :: l.drop (i + 1) := by
  unfold lG
  rw [List.drop_eq_getElem_cons hi, List.getD_eq_getElem?_getD, List.getElem?_eq_getElem hi]
  rfl
theorem loop_list {σ ρ τ : Type} {step : (σ → Option ρ) → σ → Option ρ} (l : List (Nat → Int)) (st : Nat → τ → σ) (ok : Nat → τ → Prop) (R : List (Nat → Int) → τ → Option ρ)
    (hs : ∀ i t, i < l.length → ok i t → (∀ k, step k (st i t) = R (lG l i :: l.drop (i + 1)) t) ∨ ∃ t', ok (i + 1) t' ∧ R (lG l i :: l.drop (i + 1)) t = R (l.drop (i + 1)) t' ∧ ∀ k, step k (st i t) = k (st (i + 1) t'))
    (hx : ∀ t, ok l.length t → ∀ k, step k (st l.length t) = R [] t) : ∀ (d i n : Nat) (t : τ), i + d = l.length → d < n → ok i t → qLoop step n (st i t) = R (l.drop i) t := by
  intro d
  induction d with
  | zero =>
    intro i n t hi hn ht
    have e : i = l.length := by omega
    subst e
    rw [qLoop_x (hx t ht) (by omega), List.drop_length]
  | succ d ih =>
    intro i n t hi hn ht
    rw [lG_cons l (by omega)]
    rcases hs i t (by omega) ht with h | ⟨t', h1, h2, h3⟩
    · exact qLoop_x h (by omega)
    · rw [qLoop_t h3 (by omega), h2]
      exact ih (i + 1) (n - 1) t' (by omega) (by omega) h1
/-- the same from the first row -/
theorem loop_list0 {σ ρ τ : Type} {step : (σ → Option ρ) → σ → Option ρ} (l : List (Nat → Int)) (st : Nat → τ → σ) (ok : Nat → τ → Prop) (R : List (Nat → Int) → τ → Option ρ) {N : Nat} (t0 : τ) (hl : l.length ≤ 60) (hN : 100 < N) (h0 : ok 0 t0)
    (hs : ∀ i t, i < l.length → ok i t → (∀ k, step k (st i t) = R (lG l i :: l.drop (i + 1)) t) ∨ ∃ t', ok (i + 1) t' ∧ R (lG l i :: l.drop (i + 1)) t = R (l.drop (i + 1)) t' ∧ ∀ k, step k (st i t) = k (st (i + 1) t'))
    (hx : ∀ t, ok l.length t → ∀ k, step k (st l.length t) = R [] t) : qLoop step N (st 0 t0) = R l t0 := by
  have h := loop_list l st ok R hs hx l.length 0 N t0 (by omega) (by omega) h0
  rwa [List.drop_zero] at h
theorem cast1 (i : Nat) : ((i + 1 : Nat) : Int) = (i : Int) + 1 := by omega
def aAt (s p : Int) (o : Nat → Int) : Bool := decide (o 2 = s ∧ o 3 = p)
theorem z_isAt8 {N : Nat} {G : qG} {m : Nat} {s p : Int} {μ : qM} {l : List (Nat → Int)} (h : mB G m μ l) (hn : l.length ≤ 60) {i : Nat} (hi : i < l.length) : f_X8_isAt N G m (i : Int) s p μ = some (b01 (aAt s p (lG l i)), μ) := by
  unfold f_X8_isAt aAt
  rw [kb2_p (z8_2 h hn hi)]
  by_cases h1 : lG l i 2 = s
  · rw [if_pos h1, kb2_p (z8_3 h hn hi)]
    by_cases h2 : lG l i 3 = p
    · rw [if_pos h2, b01_t (decide_eq_true ⟨h1, h2⟩)]
    · rw [if_neg h2, b01_f (decide_eq_false (fun q => h2 q.2))]
  · rw [if_neg h1, b01_f (decide_eq_false (fun q => h1 q.1))]
theorem z_isAt0 {N : Nat} {G : qG} {b : Nat} {A : Nat → Nat} {s p : Int} {μ : qM} {l : List (Nat → Int)} (h : cB G b A μ l) (hn : l.length ≤ 60) {i : Nat} (hi : i < l.length) : f_X0_isAt N G b (i : Int) s p μ = some (b01 (aAt s p (lG l i)), μ) := by
  unfold f_X0_isAt aAt
  have f2 : gI μ 402 (A i) = lG l i 2 := z_f0 h hi 2 (by decide)
  have f3 : gI μ 403 (A i) = lG l i 3 := z_f0 h hi 3 (by decide)
  rw [z_row0 h (by omega), f2]
  by_cases h1 : lG l i 2 = s
  · rw [if_pos h1, z_row0 h (by omega), f3]
    by_cases h2 : lG l i 3 = p
    · rw [if_pos h2, b01_t (decide_eq_true ⟨h1, h2⟩)]
    · rw [if_neg h2, b01_f (decide_eq_false (fun q => h2 q.2))]
  · rw [if_neg h1, b01_f (decide_eq_false (fun q => h1 q.1))]
/-- where the first order lies of which f holds, counted from i; none: the length's -/
def aPl (f : (Nat → Int) → Bool) : List (Nat → Int) → Nat → Option Nat
  | [], _ => none
  | o :: t, i => if f o = true then some i else aPl f t (i + 1)
theorem aPl_some {f : (Nat → Int) → Bool} : ∀ {l : List (Nat → Int)} {i j : Nat}, aPl f l i = some j → i ≤ j ∧ j < i + l.length ∧ f (lG l (j - i)) = true ∧ ∀ k, k < j - i → f (lG l k) = false := by
  intro l
  induction l with
  | nil => intro i j h; cases h
  | cons o t ih =>
    intro i j h
    unfold aPl at h
    split at h
    · rename_i ho
      cases h
      refine ⟨Nat.le_refl _, by simp, ?_, fun k hk => by omega⟩
      rw [Nat.sub_self]
      exact ho
    · rename_i ho
      obtain ⟨h1, h2, h3, h4⟩ := ih h
      have e : j - i = (j - (i + 1)) + 1 := by omega
      refine ⟨by omega, by simp; omega, by rw [e]; exact h3, fun k hk => ?_⟩
      cases k with
      | zero => exact Bool.eq_false_iff.mpr ho
      | succ k => exact h4 k (by omega)
theorem aPl_none {f : (Nat → Int) → Bool} : ∀ {l : List (Nat → Int)} {i : Nat}, aPl f l i = none → ∀ k, k < l.length → f (lG l k) = false := by
  intro l
  induction l with
  | nil => intro i _ k hk; cases hk
  | cons o t ih =>
    intro i h k hk
    unfold aPl at h
    split at h
    · cases h
    · rename_i ho
      cases k with
      | zero => exact Bool.eq_false_iff.mpr ho
      | succ k => exact ih h k (by simpa using hk)
def aPlace (n : Int) (l : List (Nat → Int)) : Option Nat := aPl (fun o => decide (o 0 = n)) l 0
def oI (x : Option Nat) : Int := match x with | some i => (i : Int) | none => -1
theorem z_placeOf8 {N : Nat} {G : qG} {m : Nat} {n : Int} {μ : qM} {l : List (Nat → Int)} (h : mB G m μ l) (hn : l.length ≤ 60) (hN : 100 < N) : f_X8_placeOf N G m n μ = some (oI (aPlace n l), μ) := by
  unfold f_X8_placeOf f_X8_placeOf_L2
  refine loop_list0 (τ := Unit) l (fun i _ => (m, n, (i : Int), μ)) (fun _ _ => True) (fun t _ => some (oI (aPl (fun o => decide (o 0 = n)) t (l.length - t.length)), μ)) () hn hN trivial (fun i _ hi _ => ?_) (fun _ _ k => ?_) |>.trans (by rw [Nat.sub_self]; rfl)
  · have e : l.length - (lG l i :: l.drop (i + 1)).length = i := by simp; omega
    have e2 : l.length - (l.drop (i + 1)).length = i + 1 := by simp; omega
    rw [e]
    by_cases c : lG l i 0 = n
    · refine Or.inl (fun k => ?_)
      show f_X8_placeOf_2 N G _ m n (i : Int) μ = _
      unfold f_X8_placeOf_2
      rw [h.1, if_pos (by omega), kb2_p (z8_0 h hn hi), if_pos c]
      unfold aPl
      rw [if_pos (decide_eq_true c)]
      rfl
    · refine Or.inr ⟨(), trivial, ?_, fun k => ?_⟩
      · rw [e2]
        conv => lhs; unfold aPl
        rw [if_neg (by simpa using c)]
      · show f_X8_placeOf_2 N G _ m n (i : Int) μ = _
        unfold f_X8_placeOf_2
        rw [h.1, if_pos (by omega), kb2_p (z8_0 h hn hi), if_neg c, ckI_p ⟨by omega, by omega⟩, cast1]
  · show f_X8_placeOf_2 N G _ m n (l.length : Int) μ = _
    unfold f_X8_placeOf_2
    rw [h.1, if_neg (by omega)]
    rfl
theorem z_find0 {N : Nat} {G : qG} {b : Nat} {A : Nat → Nat} {n : Int} {μ : qM} {l : List (Nat → Int)} (h : cB G b A μ l) (hn : l.length ≤ 60) (hN : 100 < N) : f_X0_find N G b n μ = some ((aPlace n l).map A, μ) := by
  unfold f_X0_find f_X0_find_L2
  refine loop_list0 (τ := Unit) l (fun i _ => (b, n, (i : Int), μ)) (fun _ _ => True) (fun t _ => some ((aPl (fun o => decide (o 0 = n)) t (l.length - t.length)).map A, μ)) () hn hN trivial (fun i _ hi _ => ?_) (fun _ _ k => ?_) |>.trans (by rw [Nat.sub_self]; rfl)
  · have e : l.length - (lG l i :: l.drop (i + 1)).length = i := by simp; omega
    have e2 : l.length - (l.drop (i + 1)).length = i + 1 := by simp; omega
    have f0 : gI μ 400 (A i) = lG l i 0 := z_f0 h hi 0 (by decide)
    rw [e]
    by_cases c : lG l i 0 = n
    · refine Or.inl (fun k => ?_)
      show f_X0_find_2 N G _ b n (i : Int) μ = _
      unfold f_X0_find_2
      rw [h.1, if_pos (by omega), z_row0 h (by omega), f0, if_pos c, z_row0 h (by omega)]
      unfold aPl
      rw [if_pos (decide_eq_true c)]
      rfl
    · refine Or.inr ⟨(), trivial, ?_, fun k => ?_⟩
      · rw [e2]
        conv => lhs; unfold aPl
        rw [if_neg (by simpa using c)]
      · show f_X0_find_2 N G _ b n (i : Int) μ = _
        unfold f_X0_find_2
        rw [h.1, if_pos (by omega), z_row0 h (by omega), f0, if_neg c, ckI_p ⟨by omega, by omega⟩, cast1]
  · show f_X0_find_2 N G _ b n (l.length : Int) μ = _
    unfold f_X0_find_2
    rw [h.1, if_neg (by omega)]
    rfl
