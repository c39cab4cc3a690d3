/-! PURE: the mathematics of sharing -/
theorem shL_sum {S g : Nat → Int} {K : Int} : ∀ i, shL S g K i = K - sumN (shA S g K) i := by
  intro i
  induction i with
  | zero => show K = K - 0; omega
  | succ i ih =>
    show shL S g K i - shA S g K i = K - (sumN (shA S g K) i + shA S g K i)
    omega
theorem sumN_sub {f g : Nat → Int} : ∀ c, sumN (fun i => f i - g i) c = sumN f c - sumN g c := by
  intro c
  induction c with
  | zero => rfl
  | succ c ih =>
    show sumN (fun i => f i - g i) c + (f c - g c) = sumN f c + f c - (sumN g c + g c)
    omega
theorem sumN_le {f g : Nat → Int} : ∀ {c : Nat}, (∀ i, i < c → f i ≤ g i) → sumN f c ≤ sumN g c := by
  intro c
  induction c with
  | zero => intro _; exact Int.le_refl _
  | succ c ih =>
    intro h
    have h1 := ih (fun i hi => h i (by omega))
    have h2 := h c (by omega)
    show sumN f c + f c ≤ sumN g c + g c
    omega
theorem sumN_pos {f : Nat → Int} {c : Nat} (h : ∀ i, i < c → 0 ≤ f i) : 0 ≤ sumN f c := by
  have := sumN_le (f := fun _ => 0) (g := f) (c := c) h
  have e : ∀ c, sumN (fun _ => 0) c = 0 := by
    intro c
    induction c with
    | zero => rfl
    | succ c ih => show sumN _ c + 0 = 0; omega
  rw [e] at this
  exact this
/-- the parts of a sum behind a place -/
theorem sumN_tail {f : Nat → Int} {r : Nat} : ∀ e, sumN (fun i => if r < i then f i else 0) (r + 1 + e) = sumN f (r + 1 + e) - sumN f (r + 1) := by
  have h0 : ∀ c, c ≤ r + 1 → sumN (fun i => if r < i then f i else 0) c = 0 := by
    intro c
    induction c with
    | zero => intro _; rfl
    | succ c ih =>
      intro hc
      show sumN (fun i => if r < i then f i else 0) c + (if r < c then f c else 0) = 0
      rw [ih (by omega), if_neg (by omega)]
      rfl
  intro e
  induction e with
  | zero => rw [h0 _ (Nat.le_refl _)]; show 0 = sumN f (r + 1) - sumN f (r + 1); omega
  | succ e ih =>
    show sumN (fun i => if r < i then f i else 0) (r + 1 + e) + (if r < r + 1 + e then f (r + 1 + e) else 0) = sumN f (r + 1 + e) + f (r + 1 + e) - sumN f (r + 1)
    rw [ih, if_pos (by omega)]
    omega
theorem sumN_tl {f : Nat → Int} {r c : Nat} (h : r < c) : sumN (fun i => if r < i then f i else 0) c = sumN f c - sumN f (r + 1) := by
  obtain ⟨e, rfl⟩ : ∃ e, c = r + 1 + e := ⟨c - (r + 1), by omega⟩
  exact sumN_tail e
theorem sumN_hd {f : Nat → Int} {r : Nat} : ∀ e, sumN (fun i => if i < r then f i else 0) (r + e) = sumN f r := by
  have h0 : ∀ c, c ≤ r → sumN (fun i => if i < r then f i else 0) c = sumN f c := by
    intro c
    induction c with
    | zero => intro _; rfl
    | succ c ih =>
      intro hc
      show sumN (fun i => if i < r then f i else 0) c + (if c < r then f c else 0) = sumN f c + f c
      rw [ih (by omega), if_pos (by omega)]
  intro e
  induction e with
  | zero => exact h0 _ (Nat.le_refl _)
  | succ e ih =>
    show sumN (fun i => if i < r then f i else 0) (r + e) + (if r + e < r then f (r + e) else 0) = sumN f r
    rw [ih, if_neg (by omega), Int.add_zero]
theorem sumN_hh {f : Nat → Int} {r c : Nat} (h : r ≤ c) : sumN (fun i => if i < r then f i else 0) c = sumN f r := by
  obtain ⟨e, rfl⟩ : ∃ e, c = r + e := ⟨c - r, by omega⟩
  exact sumN_hd e
/-- a portion, multiplied back -/
theorem portion_mul {r s z L : Int} (hr : 0 ≤ r) (hs : 0 ≤ s) (hz : 0 ≤ z) : portion r s z L * z ≤ r * s := by
  unfold portion
  have h0 := Int.mul_nonneg hr hs
  split
  · rename_i hz'
    split
    · omega
    · rw [Int.tdiv_eq_ediv_of_nonneg h0]
      exact Int.ediv_mul_le _ (by omega)
  · omega
theorem portion_le_s {r s z L : Int} (hr : 0 ≤ r) (hs : 0 ≤ s) (hrz : r ≤ z) : portion r s z L ≤ s := by
  have h := portion_le (L := L) hs hr hrz
  unfold portion at h ⊢
  rw [Int.mul_comm r s]
  exact h
theorem portion_nn {r s z L : Int} (hr : 0 ≤ r) (hs : 0 ≤ s) : 0 ≤ portion r s z L := by
  unfold portion
  split
  · split
    · omega
    · rw [Int.tdiv_eq_ediv_of_nonneg (Int.mul_nonneg hr hs)]
      exact Int.ediv_nonneg (Int.mul_nonneg hr hs) (by omega)
  · omega
theorem portion_mono {r r' s z L : Int} (hr : 0 ≤ r) (hrr : r ≤ r') (hs : 0 ≤ s) : portion r s z L ≤ portion r' s z L := by
  unfold portion
  split
  · rename_i hz
    have h1 : r * s ≤ r' * s := Int.mul_le_mul_of_nonneg_right hrr hs
    have h0 := Int.mul_nonneg hr hs
    rw [Int.tdiv_eq_ediv_of_nonneg h0, Int.tdiv_eq_ediv_of_nonneg (Int.le_trans h0 h1)]
    have h2 : r * s / z ≤ r' * s / z := Int.ediv_le_ediv hz h1
    have h3 : 0 ≤ r' * s / z := Int.ediv_nonneg (Int.le_trans h0 h1) (by omega)
    split
    · split <;> omega
    · split <;> omega
  · exact Int.le_refl _
/-- it is some only where it is the least at least -/
theorem portion_some {r s z L : Int} (hr : 0 ≤ r) (hs : 0 ≤ s) (h : 0 < portion r s z L) : L * z ≤ r * s := by
  unfold portion at h
  split at h
  · rename_i hz
    split at h
    · omega
    · rename_i hL
      rw [Int.tdiv_eq_ediv_of_nonneg (Int.mul_nonneg hr hs)] at hL
      have h1 : L ≤ r * s / z := by omega
      have h2 : L * z ≤ r * s / z * z := Int.mul_le_mul_of_nonneg_right h1 (by omega)
      have h3 := Int.ediv_mul_le (r * s) (b := z) (by omega)
      omega
  · omega
section SHM
variable {S g : Nat → Int} {K L : Int} {c : Nat}
theorem shZ_eq : shZ S g K c = sumN S c - sumN (shA S g K) c := sumN_sub c
theorem shL_leZ (hK : K ≤ sumN S c) : shL S g K c ≤ shZ S g K c := by
  rw [shL_sum, shZ_eq]
  omega
theorem shB_le (ho : shOk S g K L c) (hK : K ≤ sumN S c) {i : Nat} (hi : i < c) : 0 ≤ shB S g K L c i ∧ shB S g K L c i ≤ S i - shA S g K i := by
  have h1 := (shL_bd ho c (Nat.le_refl _)).1
  have h2 := shA_bd ho hi
  exact ⟨portion_nn h1 (by omega), portion_le_s h1 (by omega) (shL_leZ hK)⟩
/-- the shares together are no more than what is shared -/
theorem shB_sum (ho : shOk S g K L c) (hK : K ≤ sumN S c) : sumN (shB S g K L c) c ≤ shL S g K c := by
  have h1 := (shL_bd ho c (Nat.le_refl _)).1
  have hz := (shZ_bd ho c (Nat.le_refl _)).1
  have key : ∀ j, j ≤ c → sumN (shB S g K L c) j * shZ S g K c ≤ shL S g K c * shZ S g K j := by
    intro j
    induction j with
    | zero => intro _; show 0 * _ ≤ _ * 0; omega
    | succ j ih =>
      intro hj
      have h2 := shA_bd ho (i := j) (by omega)
      have h3 := portion_mul (L := L) h1 (show 0 ≤ S j - shA S g K j by omega) hz
      have h4 := ih (by omega)
      show (sumN (shB S g K L c) j + shB S g K L c j) * shZ S g K c ≤ shL S g K c * (shZ S g K j + (S j - shA S g K j))
      rw [Int.add_mul, Int.mul_add]
      have h5 : shB S g K L c j * shZ S g K c ≤ shL S g K c * (S j - shA S g K j) := h3
      omega
  by_cases hp : 0 < shZ S g K c
  · have := key c (Nat.le_refl _)
    exact Int.le_of_mul_le_mul_right this hp
  · have e : shL S g K c = 0 := by have := shL_leZ (g := g) hK; omega
    have b0 : ∀ i, i < c → shB S g K L c i ≤ 0 := fun i _ => by unfold shB portion; rw [if_neg hp]; exact Int.le_refl _
    have := sumN_le (f := shB S g K L c) (g := fun _ => 0) (c := c) b0
    have e0 : ∀ c, sumN (fun _ => 0) c = 0 := by
      intro c
      induction c with
      | zero => rfl
      | succ c ih => show sumN _ c + 0 = 0; omega
    rw [e0] at this
    omega
theorem shR_nn (ho : shOk S g K L c) (hK : K ≤ sumN S c) : ∀ i, 0 ≤ shR S g K L c i := by
  intro i
  induction i with
  | zero =>
    have := shB_sum ho hK
    show 0 ≤ shL S g K c - sumN (shB S g K L c) c
    omega
  | succ i ih =>
    show 0 ≤ shR S g K L c i - min (shR S g K L c i) (S i - shA S g K i - shB S g K L c i)
    omega
theorem shC_le (ho : shOk S g K L c) (hK : K ≤ sumN S c) {i : Nat} (hi : i < c) : 0 ≤ shC S g K L c i ∧ shC S g K L c i ≤ S i - shA S g K i - shB S g K L c i := by
  have h1 := shR_nn ho hK i
  have h2 := (shB_le ho hK hi).2
  unfold shC
  constructor <;> omega
theorem shR_sum : ∀ i, shR S g K L c i = shL S g K c - sumN (shB S g K L c) c - sumN (shC S g K L c) i := by
  intro i
  induction i with
  | zero => show shL S g K c - sumN (shB S g K L c) c = shL S g K c - sumN (shB S g K L c) c - 0; omega
  | succ i ih =>
    show shR S g K L c i - shC S g K L c i = shL S g K c - sumN (shB S g K L c) c - (sumN (shC S g K L c) i + shC S g K L c i)
    omega
/-- as long as something is left over, all before are full -/
theorem shC_full (ho : shOk S g K L c) (hK : K ≤ sumN S c) : ∀ r, r ≤ c → 0 < shR S g K L c r → ∀ i, i < r → shC S g K L c i = S i - shA S g K i - shB S g K L c i := by
  intro r
  induction r with
  | zero => intro _ _ i h; cases h
  | succ r ih =>
    intro hrc h i hi
    have hcap := (shC_le ho hK (i := r) (by omega)).1
    have e : shR S g K L c (r + 1) = shR S g K L c r - shC S g K L c r := rfl
    have hr : shC S g K L c r = min (shR S g K L c r) (S r - shA S g K r - shB S g K L c r) := rfl
    by_cases d : i = r
    · subst d
      omega
    · have h1 := shR_nn ho hK r
      refine ih (by omega) ?_ i (by omega)
      by_cases q : 0 < shR S g K L c r
      · exact q
      · exfalso
        have : shR S g K L c r = 0 := by omega
        rw [this] at e hr
        have h2 := shR_nn ho hK (r + 1)
        omega
/-- all of the take is shared -/
theorem sh_all (ho : shOk S g K L c) (hK : K ≤ sumN S c) : sumN (shA S g K) c + sumN (shB S g K L c) c + sumN (shC S g K L c) c = K := by
  have h0 : shR S g K L c c = 0 := by
    have h1 := shR_nn ho hK c
    by_cases q : 0 < shR S g K L c c
    · exfalso
      have h2 := shC_full ho hK c (Nat.le_refl _) q
      have e := shR_sum (S := S) (g := g) (K := K) (L := L) (c := c) c
      have e2 : sumN (shC S g K L c) c = sumN (fun i => (S i - shA S g K i) - shB S g K L c i) c := sumN_congr h2
      rw [sumN_sub] at e2
      have e3 : sumN (fun i => S i - shA S g K i) c = shZ S g K c := rfl
      have h3 := shL_leZ (g := g) hK
      omega
    · omega
  have e := shR_sum (S := S) (g := g) (K := K) (L := L) (c := c) c
  have e2 := shL_sum (S := S) (g := g) (K := K) c
  omega
/-- a take of all fills all -/
theorem sh_fill (ho : shOk S g K L c) (hK : K = sumN S c) {i : Nat} (hi : i < c) : shA S g K i + shB S g K L c i + shC S g K L c i = S i := by
  have hK' : K ≤ sumN S c := by omega
  have h1 := sh_all ho hK'
  have key : ∀ j, j ≤ c → sumN (fun i => S i - (shA S g K i + shB S g K L c i + shC S g K L c i)) j = sumN S j - (sumN (shA S g K) j + sumN (shB S g K L c) j + sumN (shC S g K L c) j) := by
    intro j
    induction j with
    | zero => intro _; rfl
    | succ j ih =>
      intro hj
      have := ih (by omega)
      show sumN (fun i => S i - (shA S g K i + shB S g K L c i + shC S g K L c i)) j + (S j - (shA S g K j + shB S g K L c j + shC S g K L c j)) = sumN S j + S j - (sumN (shA S g K) j + shA S g K j + (sumN (shB S g K L c) j + shB S g K L c j) + (sumN (shC S g K L c) j + shC S g K L c j))
      omega
  have h2 := key c (Nat.le_refl _)
  have nn : ∀ j, j < c → 0 ≤ S j - (shA S g K j + shB S g K L c j + shC S g K L c j) := fun j hj => by have := shC_le ho hK' hj; omega
  have h3 := sumN_one nn hi
  have h4 := nn i hi
  omega
/-- what one has is no more than the take -/
theorem sh_leK (ho : shOk S g K L c) (hK : K ≤ sumN S c) {i : Nat} (hi : i < c) : 0 ≤ shA S g K i ∧ shA S g K i + shB S g K L c i + shC S g K L c i ≤ K ∧ shA S g K i + shB S g K L c i + shC S g K L c i ≤ S i := by
  have h1 := sh_all ho hK
  have a := sumN_one (f := shA S g K) (fun j hj => (shA_bd ho hj).1) hi
  have b := sumN_one (f := shB S g K L c) (fun j hj => (shB_bd ho hj).1) hi
  have d := sumN_one (f := shC S g K L c) (fun j hj => (shC_le ho hK hj).1) hi
  have := shC_le ho hK hi
  have := (shA_bd ho hi).1
  exact ⟨by omega, by omega, by omega⟩
/-- beside grants: with a take of as much as they are, at least, they are given in full -/
theorem shA_ge (h0 : ∀ i, i < c → 0 ≤ min (S i) (g i)) (hK : sumN (fun i => min (S i) (g i)) c ≤ K) : ∀ i, i ≤ c → shL S g K i = K - sumN (fun i => min (S i) (g i)) i ∧ ∀ j, j < i → shA S g K j = min (S j) (g j) := by
  have mono : ∀ e i, i + e ≤ c → sumN (fun i => min (S i) (g i)) i ≤ sumN (fun i => min (S i) (g i)) (i + e) := by
    intro e
    induction e with
    | zero => intro i _; exact Int.le_refl _
    | succ e ih =>
      intro i hi
      have h1 := ih i (by omega)
      have h2 := h0 (i + e) (by omega)
      show _ ≤ sumN (fun i => min (S i) (g i)) (i + e) + min (S (i + e)) (g (i + e))
      omega
  intro i
  induction i with
  | zero => intro _; exact ⟨by show K = K - 0; omega, fun j hj => by cases hj⟩
  | succ i ih =>
    intro hi
    obtain ⟨h1, h2⟩ := ih (by omega)
    have h3 := mono (c - (i + 1)) (i + 1) (by omega)
    rw [show i + 1 + (c - (i + 1)) = c by omega] at h3
    have e : sumN (fun i => min (S i) (g i)) (i + 1) = sumN (fun i => min (S i) (g i)) i + min (S i) (g i) := rfl
    have hA : shA S g K i = min (S i) (g i) := by
      unfold shA
      omega
    refine ⟨?_, fun j hj => ?_⟩
    · show shL S g K i - shA S g K i = _
      rw [hA]; omega
    · by_cases d : j = i
      · subst d; exact hA
      · exact h2 j (by omega)
/-- with a smaller take nothing is left behind the grants -/
theorem shL_zero (h0 : ∀ i, i < c → 0 ≤ min (S i) (g i)) (hK0 : 0 ≤ K) : ∀ i, i ≤ c → shL S g K i = max 0 (K - sumN (fun i => min (S i) (g i)) i) := by
  intro i
  induction i with
  | zero => intro _; show K = max 0 (K - 0); omega
  | succ i ih =>
    intro hi
    have h1 := ih (by omega)
    have h2 := h0 i (by omega)
    have e : sumN (fun i => min (S i) (g i)) (i + 1) = sumN (fun i => min (S i) (g i)) i + min (S i) (g i) := rfl
    show shL S g K i - min (shL S g K i) (min (S i) (g i)) = _
    omega
end SHM
