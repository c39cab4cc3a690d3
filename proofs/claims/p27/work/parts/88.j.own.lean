/-! PURE: one's own orders at a price -/
def oOwn (so p t0 : Int) (o : Nat → Int) : Bool := aAt so p o && decide (o 1 = t0)
theorem oOwn_t {so p t0 : Int} {o : Nat → Int} : oOwn so p t0 o = true ↔ aAt so p o = true ∧ o 1 = t0 := by
  unfold oOwn
  rw [Bool.and_eq_true, decide_eq_true_iff]
/-- what is left of who comes in, before the i-th order -/
def bL (mode : Int) (w : (Nat → Int) → Bool) (l : List (Nat → Int)) (z : Int) : Nat → Int
  | 0 => z
  | i + 1 => if mode = 3 ∧ w (lG l i) = true then bL mode w l z i - min (lG l i 4) (bL mode w l z i) else bL mode w l z i
/-- what the i-th order loses -/
def bY (mode : Int) (w : (Nat → Int) → Bool) (l : List (Nat → Int)) (z : Int) (i : Nat) : Int :=
  if w (lG l i) = true then (if mode = 3 then min (lG l i 4) (bL mode w l z i) else if mode = 0 ∨ mode = 2 then lG l i 4 else 0) else 0
def vF (mode : Int) (w : (Nat → Int) → Bool) (l : List (Nat → Int)) (z : Int) (i : Nat) : Int := lG l i 4 - bY mode w l z i
def vL (mode : Int) (w : (Nat → Int) → Bool) (l : List (Nat → Int)) (z : Int) : List (Nat → Int) := szs l (vF mode w l z)
def cZ (mode : Int) (w : (Nat → Int) → Bool) (l : List (Nat → Int)) (z : Int) (k : Nat) : Int := sumN (fun i => if vF mode w l z i = 0 then 1 else 0) k
def cY (mode : Int) (w : (Nat → Int) → Bool) (l : List (Nat → Int)) (z : Int) (k : Nat) : Int := sumN (bY mode w l z) k
def aMet (w : (Nat → Int) → Bool) (l : List (Nat → Int)) : Nat → Int
  | 0 => 0
  | k + 1 => if w (lG l k) = true then 1 else aMet w l k
/-- sizes as the first i are through; as those from r on are -/
def pF (mode : Int) (w : (Nat → Int) → Bool) (l : List (Nat → Int)) (z : Int) (i j : Nat) : Int := if j < i then vF mode w l z j else lG l j 4
def fT (mode : Int) (w : (Nat → Int) → Bool) (l : List (Nat → Int)) (z : Int) (r j : Nat) : Int := if r ≤ j then vF mode w l z j else lG l j 4
def vLeft (mode : Int) (w : (Nat → Int) → Bool) (l : List (Nat → Int)) (z : Int) : Int := if aMet w l l.length = 1 ∧ (mode = 1 ∨ mode = 2) then 0 else bL mode w l z l.length
section OWN
variable {mode z : Int} {w : (Nat → Int) → Bool} {l : List (Nat → Int)} {U : Nat → Int} {L1 : Int}
theorem aMet_01 : ∀ k, aMet w l k = 0 ∨ aMet w l k = 1 := by
  intro k
  induction k with
  | zero => exact Or.inl rfl
  | succ k ih =>
    show (if w (lG l k) = true then (1 : Int) else aMet w l k) = 0 ∨ (if w (lG l k) = true then (1 : Int) else aMet w l k) = 1
    split
    · exact Or.inr rfl
    · exact ih
theorem aMet_0 : ∀ {k}, aMet w l k = 0 → ∀ j, j < k → ¬ w (lG l j) = true := by
  intro k
  induction k with
  | zero => intro _ j hj; cases hj
  | succ k ih =>
    intro h j hj
    have h' : (if w (lG l k) = true then (1 : Int) else aMet w l k) = 0 := h
    split at h'
    · cases h'
    · rename_i c
      by_cases d : j = k
      · subst d; exact c
      · exact ih h' j (by omega)
theorem aMet_no {k : Nat} (h : ∀ j, j < k → ¬ w (lG l j) = true) : aMet w l k = 0 := by
  induction k with
  | zero => rfl
  | succ k ih =>
    show (if w (lG l k) = true then (1 : Int) else aMet w l k) = 0
    rw [if_neg (h k (by omega))]
    exact ih (fun j hj => h j (by omega))
theorem aMet_1 {j : Nat} (hw : w (lG l j) = true) : ∀ {k}, j < k → aMet w l k = 1 := by
  intro k
  induction k with
  | zero => intro h; cases h
  | succ k ih =>
    intro h
    show (if w (lG l k) = true then (1 : Int) else aMet w l k) = 1
    by_cases c : w (lG l k) = true
    · rw [if_pos c]
    · rw [if_neg c]
      refine ih ?_
      rcases Nat.lt_or_ge j k with q | q
      · exact q
      · have : j = k := by omega
        subst this
        exact absurd hw c
theorem bL_bd (hz : 0 ≤ z) (hl : lOk l) : ∀ i, i ≤ l.length → 0 ≤ bL mode w l z i ∧ bL mode w l z i ≤ z := by
  intro i
  induction i with
  | zero => intro _; exact ⟨hz, Int.le_refl _⟩
  | succ i ih =>
    intro hi
    have h1 := ih (by omega)
    have h2 := (hl.2 i (by omega)).2.2.2.2.1
    show 0 ≤ (if mode = 3 ∧ w (lG l i) = true then bL mode w l z i - min (lG l i 4) (bL mode w l z i) else bL mode w l z i) ∧ (if mode = 3 ∧ w (lG l i) = true then bL mode w l z i - min (lG l i 4) (bL mode w l z i) else bL mode w l z i) ≤ z
    split <;> omega
theorem bY_bd (hz : 0 ≤ z) (hl : lOk l) {i : Nat} (hi : i < l.length) : 0 ≤ bY mode w l z i ∧ bY mode w l z i ≤ lG l i 4 := by
  have h1 := bL_bd (mode := mode) (w := w) hz hl i (by omega)
  have h2 := (hl.2 i hi).2.2.2.2.1
  unfold bY
  split
  · split
    · omega
    · split <;> omega
  · omega
theorem vF_bd (hz : 0 ≤ z) (hl : lOk l) {i : Nat} (hi : i < l.length) : 0 ≤ vF mode w l z i ∧ vF mode w l z i ≤ lG l i 4 := by
  have := bY_bd (mode := mode) (w := w) hz hl hi
  unfold vF
  omega
theorem vL_lOk (hz : 0 ≤ z) (hl : lOk l) : lOk (vL mode w l z) := szs_lOk hl (fun i hi => by have h1 := vF_bd (mode := mode) (w := w) hz hl hi; have h2 := (hl.2 i hi).2.2.2.2.1; omega)
theorem uOk.prev (h : uOk l U L1) (hz : 0 ≤ z) : uOk ((vL mode w l z).filter aKp) (aSw U (vL mode w l z)) L1 :=
  uOk.mk (vL_lOk hz h.lo).flt kp_pos (h.inc.szs.flt) h.l1 (aSw_top (fun i hi => ((vL_lOk hz h.lo).2 i hi).ns) h.top)
theorem vLeft_bd (hz : 0 ≤ z) (hl : lOk l) : 0 ≤ vLeft mode w l z ∧ vLeft mode w l z ≤ z := by
  have := bL_bd (mode := mode) (w := w) hz hl l.length (Nat.le_refl _)
  unfold vLeft
  split <;> omega
theorem bL_mono (hl : lOk l) (hz : 0 ≤ z) : ∀ e i, i + e ≤ l.length → bL mode w l z (i + e) ≤ bL mode w l z i := by
  intro e
  induction e with
  | zero => intro i _; exact Int.le_refl _
  | succ e ih =>
    intro i hi
    have h1 := ih i (by omega)
    have h2 := (hl.2 (i + e) (by omega)).2.2.2.2.1
    have h3 := bL_bd (mode := mode) (w := w) hz hl (i + e) (by omega)
    show (if mode = 3 ∧ w (lG l (i + e)) = true then bL mode w l z (i + e) - min (lG l (i + e) 4) (bL mode w l z (i + e)) else bL mode w l z (i + e)) ≤ _
    split <;> omega
/-- if something is left of who comes in, nothing is left of its own -/
theorem own_gone (hm : 0 ≤ mode ∧ mode ≤ 3) (hl : lOk l) (hz : 0 ≤ z) (hv : 0 < vLeft mode w l z) {i : Nat} (hi : i < l.length) (hw : w (lG l i) = true) : vF mode w l z i = 0 := by
  have hmet := aMet_1 hw hi
  unfold vLeft at hv
  by_cases c : mode = 1 ∨ mode = 2
  · rw [if_pos ⟨hmet, c⟩] at hv; omega
  · rw [if_neg (fun q => c q.2)] at hv
    unfold vF bY
    rw [if_pos hw]
    by_cases c3 : mode = 3
    · rw [if_pos c3]
      have h1 := bL_mono (mode := mode) (w := w) hl hz (l.length - (i + 1)) (i + 1) (by omega)
      rw [show i + 1 + (l.length - (i + 1)) = l.length by omega] at h1
      have h2 : bL mode w l z (i + 1) = bL mode w l z i - min (lG l i 4) (bL mode w l z i) := if_pos ⟨c3, hw⟩
      omega
    · rw [if_neg c3, if_pos (by omega)]
      omega
theorem aS_pos {v : (Nat → Int) → Int} : ∀ {L : List (Nat → Int)} {i : Nat}, (∀ j, j < L.length → 0 ≤ v (lG L j)) → i < L.length → v (lG L i) ≤ aS v L := by
  intro L
  induction L with
  | nil => intro i _ h; cases h
  | cons o t ih =>
    intro i h hi
    have h0 : 0 ≤ v o := h 0 (by simp)
    have ht : ∀ j, j < t.length → 0 ≤ v (lG t j) := fun j hj => h (j + 1) (by simpa using hj)
    rw [aS_cons]
    cases i with
    | zero =>
      have : 0 ≤ aS v t := by
        clear ih hi h
        induction t with
        | nil => exact Int.le_refl _
        | cons a t ih2 =>
          have h1 : 0 ≤ v a := ht 0 (by simp)
          have h2 := ih2 (fun j hj => ht (j + 1) (by simpa using hj))
          rw [aS_cons]; omega
      show v o ≤ v o + aS v t
      omega
    | succ i =>
      have := ih (i := i) ht (by simpa using hi)
      show v (lG t i) ≤ v o + aS v t
      omega
theorem flt_lt {p : (Nat → Int) → Bool} : ∀ {L : List (Nat → Int)} {i : Nat}, i < L.length → ¬ p (lG L i) = true → (L.filter p).length < L.length := by
  intro L
  induction L with
  | nil => intro i h; cases h
  | cons o t ih =>
    intro i hi hp
    cases i with
    | zero =>
      have hp' : ¬ p o = true := hp
      rw [List.filter_cons_of_neg hp', List.length_cons]
      exact Nat.lt_succ_of_le flt_le
    | succ i =>
      have := ih (i := i) (by simpa using hi) hp
      by_cases c : p o = true
      · rw [List.filter_cons_of_pos c, List.length_cons, List.length_cons]; omega
      · rw [List.filter_cons_of_neg c, List.length_cons]; omega
theorem aBest_in {s : Int} : ∀ (l : List (Nat → Int)) (b : Int), l.foldl (aBestF s) b = b ∨ ∃ i, i < l.length ∧ lG l i 2 = s ∧ l.foldl (aBestF s) b = lG l i 3 := by
  intro l
  induction l with
  | nil => intro b; exact Or.inl rfl
  | cons o t ih =>
    intro b
    rw [List.foldl_cons]
    rcases ih (aBestF s b o) with h | ⟨i, h1, h2, h3⟩
    · rw [h]
      unfold aBestF
      split
      · rename_i c
        exact Or.inr ⟨0, by simp, c.1, rfl⟩
      · exact Or.inl rfl
    · exact Or.inr ⟨i + 1, by simpa using h1, h2, h3⟩
end OWN
