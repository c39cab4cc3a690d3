/-! PURE: how a take is shared over rows of sizes S with grants g: (a) shA, (b) shB, (c) shC -/
def shL (S g : Nat → Int) (K : Int) : Nat → Int
  | 0 => K
  | i + 1 => shL S g K i - min (shL S g K i) (min (S i) (g i))
def shA (S g : Nat → Int) (K : Int) (i : Nat) : Int := min (shL S g K i) (min (S i) (g i))
def sumN (f : Nat → Int) : Nat → Int
  | 0 => 0
  | i + 1 => sumN f i + f i
/-- the sizes behind (a), together -/
def shZ (S g : Nat → Int) (K : Int) (c : Nat) : Int := sumN (fun i => S i - shA S g K i) c
def portion (r s z L : Int) : Int := if 0 < z then (if (r * s).tdiv z < L then 0 else (r * s).tdiv z) else 0
def shB (S g : Nat → Int) (K L : Int) (c i : Nat) : Int := portion (shL S g K c) (S i - shA S g K i) (shZ S g K c) L
def shM2 (S g : Nat → Int) (K L : Int) (c i : Nat) : Int := shL S g K c - sumN (shB S g K L c) i
def shR (S g : Nat → Int) (K L : Int) (c : Nat) : Nat → Int
  | 0 => shM2 S g K L c c
  | i + 1 => shR S g K L c i - min (shR S g K L c i) (S i - shA S g K i - shB S g K L c i)
def shC (S g : Nat → Int) (K L : Int) (c i : Nat) : Int := min (shR S g K L c i) (S i - shA S g K i - shB S g K L c i)
/-- what bounds hold of rows that are shared -/
def shOk (S g : Nat → Int) (K L : Int) (c : Nat) : Prop := c ≤ 68 ∧ (∀ i, i < c → 0 ≤ S i ∧ S i ≤ 1000) ∧ (∀ i, i < c → 0 ≤ g i ∧ g i ≤ 1000) ∧ (0 ≤ K ∧ K ≤ 60000) ∧ (1 ≤ L ∧ L ≤ 50)
section SH
variable {S g : Nat → Int} {K L : Int} {c : Nat}
theorem shL_bd (h : shOk S g K L c) : ∀ i, i ≤ c → 0 ≤ shL S g K i ∧ shL S g K i ≤ K := by
  intro i
  induction i with
  | zero => intro _; exact ⟨h.2.2.2.1.1, Int.le_refl _⟩
  | succ i ih =>
    intro hi
    have h1 := ih (by omega)
    have h2 := h.2.1 i (by omega)
    have h3 := h.2.2.1 i (by omega)
    show 0 ≤ shL S g K i - min (shL S g K i) (min (S i) (g i)) ∧ shL S g K i - min (shL S g K i) (min (S i) (g i)) ≤ K
    constructor <;> omega
theorem shA_bd (h : shOk S g K L c) {i : Nat} (hi : i < c) : 0 ≤ shA S g K i ∧ shA S g K i ≤ S i ∧ shA S g K i ≤ g i ∧ shA S g K i ≤ shL S g K i := by
  have h1 := shL_bd h i (by omega)
  have h2 := h.2.1 i hi
  have h3 := h.2.2.1 i hi
  unfold shA
  refine ⟨?_, ?_, ?_, ?_⟩ <;> omega
theorem sumN_bd {f : Nat → Int} {M : Int} : ∀ {c : Nat}, (∀ i, i < c → 0 ≤ f i ∧ f i ≤ M) → 0 ≤ sumN f c ∧ sumN f c ≤ M * c := by
  intro c
  induction c with
  | zero => intro _; exact ⟨Int.le_refl _, by simp [sumN]⟩
  | succ c ih =>
    intro h
    obtain ⟨h1, h2⟩ := ih (fun i hi => h i (by omega))
    have h3 := h c (by omega)
    show 0 ≤ sumN f c + f c ∧ sumN f c + f c ≤ M * ((c + 1 : Nat) : Int)
    rw [Int.natCast_succ, Int.mul_add, Int.mul_one]
    constructor <;> omega
theorem shZ_bd (h : shOk S g K L c) : ∀ i, i ≤ c → 0 ≤ shZ S g K i ∧ shZ S g K i ≤ 1000 * (i : Int) := by
  intro i hi
  refine sumN_bd (fun j hj => ?_)
  have h1 := shA_bd h (i := j) (by omega)
  have h2 := h.2.1 j (by omega)
  constructor <;> omega
theorem mul_bd2 {a b A B : Int} (ha : 0 ≤ a ∧ a ≤ A) (hb : 0 ≤ b ∧ b ≤ B) : 0 ≤ a * b ∧ a * b ≤ A * B := by
  refine ⟨Int.mul_nonneg ha.1 hb.1, ?_⟩
  have h1 : a * b ≤ A * b := Int.mul_le_mul_of_nonneg_right ha.2 hb.1
  have h2 : A * b ≤ A * B := Int.mul_le_mul_of_nonneg_left hb.2 (by omega)
  omega
theorem tdiv_bd {a z M : Int} (ha : 0 ≤ a ∧ a ≤ M) (hz : 0 < z) : 0 ≤ a.tdiv z ∧ a.tdiv z ≤ M := by
  rw [Int.tdiv_eq_ediv_of_nonneg ha.1]
  refine ⟨Int.ediv_nonneg ha.1 (by omega), ?_⟩
  have := Int.ediv_le_self z ha.1
  omega
theorem portion_bd {r s z L : Int} (hr : 0 ≤ r ∧ r ≤ 60000) (hs : 0 ≤ s ∧ s ≤ 1000) : 0 ≤ portion r s z L ∧ portion r s z L ≤ 60000000 := by
  have h1 := mul_bd2 hr hs
  unfold portion
  split
  · rename_i hz
    have h2 := tdiv_bd (a := r * s) (M := 60000000) ⟨h1.1, by omega⟩ hz
    split <;> constructor <;> omega
  · constructor <;> omega
/-- a share of r of a part s of z is at most r -/
theorem portion_le {r s z L : Int} (hr : 0 ≤ r) (hs : 0 ≤ s) (hsz : s ≤ z) : portion r s z L ≤ r := by
  unfold portion
  split
  · rename_i hz
    split
    · exact hr
    · rw [Int.tdiv_eq_ediv_of_nonneg (Int.mul_nonneg hr hs)]
      have h1 : r * s ≤ r * z := Int.mul_le_mul_of_nonneg_left hsz hr
      have h2 : r * s / z ≤ r * z / z := Int.ediv_le_ediv hz h1
      rwa [Int.mul_ediv_cancel _ (by omega)] at h2
  · exact hr
theorem sumN_one {f : Nat → Int} : ∀ {c j : Nat}, (∀ i, i < c → 0 ≤ f i) → j < c → f j ≤ sumN f c := by
  intro c
  induction c with
  | zero => intro j _ h; cases h
  | succ c ih =>
    intro j h hj
    show f j ≤ sumN f c + f c
    have h0 : 0 ≤ sumN f c := by
      clear ih hj
      induction c with
      | zero => exact Int.le_refl _
      | succ c ih2 =>
        have := ih2 (fun i hi => h i (by omega))
        have h3 := h c (by omega)
        show 0 ≤ sumN f c + f c
        omega
    by_cases e : j = c
    · subst e; omega
    · have := ih (fun i hi => h i (by omega)) (show j < c by omega)
      have h3 := h c (by omega)
      omega
theorem shB_bd (h : shOk S g K L c) {i : Nat} (hi : i < c) : 0 ≤ shB S g K L c i ∧ shB S g K L c i ≤ K := by
  have h1 := shL_bd h c (Nat.le_refl _)
  have h2 := shA_bd h hi
  have h3 := h.2.1 i hi
  have h4 := h.2.2.2.1
  unfold shB
  refine ⟨(portion_bd ⟨h1.1, by omega⟩ ⟨by omega, by omega⟩).1, ?_⟩
  have h5 : S i - shA S g K i ≤ shZ S g K c := sumN_one (f := fun i => S i - shA S g K i) (fun j hj => by have := shA_bd h hj; omega) hi
  have := portion_le (L := L) h1.1 (show 0 ≤ S i - shA S g K i by omega) h5
  omega
theorem shM2_bd (h : shOk S g K L c) : ∀ i, i ≤ c → shM2 S g K L c i ≤ 60000 ∧ -4080000 ≤ shM2 S g K L c i := by
  intro i hi
  have h1 := shL_bd h c (Nat.le_refl _)
  have h2 := sumN_bd (f := shB S g K L c) (M := 60000) (c := i) (fun j hj => by have := shB_bd h (i := j) (by omega); have := h.2.2.2.1; omega)
  have h3 := h.1
  have h4 := h.2.2.2.1
  unfold shM2
  constructor <;> omega
theorem shR_bd (h : shOk S g K L c) : ∀ i, i ≤ c → -60000000 - 61000 * (c : Int) + 61000 * ((c : Int) - i) ≤ shR S g K L c i ∧ shR S g K L c i ≤ 60000 + 61000 * (i : Int) := by
  intro i
  induction i with
  | zero =>
    intro _
    have h1 := shM2_bd h c (Nat.le_refl _)
    show _ ≤ shM2 S g K L c c ∧ shM2 S g K L c c ≤ _
    constructor <;> omega
  | succ i ih =>
    intro hi
    have h1 := ih (by omega)
    have h2 := shA_bd h (i := i) (by omega)
    have h3 := shB_bd h (i := i) (by omega)
    have h4 := h.2.1 i (by omega)
    have h5 := h.2.2.2.1
    show _ ≤ shR S g K L c i - min (shR S g K L c i) (S i - shA S g K i - shB S g K L c i) ∧ shR S g K L c i - min (shR S g K L c i) (S i - shA S g K i - shB S g K L c i) ≤ _
    constructor <;> omega
end SH
/-- f is written into an array, j places -/
def wrM (μ : qM) (a : Nat) (f : Nat → Int) : Nat → qM
  | 0 => μ
  | j + 1 => sA (wrM μ a f j) a j (f j)
theorem wrM_at {μ : qM} {a : Nat} {f : Nat → Int} : ∀ j, (∀ g b, gI (wrM μ a f j) g b = gI μ g b) ∧ (∀ b i, gQ (wrM μ a f j) b i = gQ μ b i) ∧ (∀ b i, b ≠ a → gA (wrM μ a f j) b i = gA μ b i) ∧ (∀ i, i < j → gA (wrM μ a f j) a i = f i) ∧ ∀ i, j ≤ i → gA (wrM μ a f j) a i = gA μ a i := by
  intro j
  induction j with
  | zero => exact ⟨fun _ _ => rfl, fun _ _ => rfl, fun _ _ _ => rfl, fun i hi => by omega, fun _ _ => rfl⟩
  | succ j ih =>
    obtain ⟨h1, h2, h3, h4, h5⟩ := ih
    refine ⟨h1, h2, fun b i hb => (gA_a hb).trans (h3 b i hb), fun i hi => ?_, fun i hi => (gA_i (by omega)).trans (h5 i (by omega))⟩
    by_cases e : i = j
    · subst e; exact gA_s
    · exact (gA_i e).trans (h4 i (by omega))
theorem z_portion5 {N : Nat} {G : qG} {r s z L : Int} {μ : qM} (hr : 0 ≤ r ∧ r ≤ 60000) (hs : 0 ≤ s ∧ s ≤ 1000) : f_X5_portion N G r s z L μ = some (portion r s z L, μ) := by
  have h1 := mul_bd2 hr hs
  unfold f_X5_portion portion
  by_cases hz : 0 < z
  · have h2 := tdiv_bd (a := r * s) (M := 60000000) ⟨h1.1, by omega⟩ hz
    rw [if_pos hz, if_pos hz, ckI_p ⟨by omega, by omega⟩, ckD_p (by omega), ckI_p ⟨by omega, by omega⟩]
    split <;> rfl
  · rw [if_neg hz, if_neg hz]
