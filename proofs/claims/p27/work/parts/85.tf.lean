/-! PURE: 'takeFor': the least take, step by step and by leaps -/
section TFM
variable {S g : Nat → Int} {K L : Int} {c r : Nat}
theorem sumN_add {f g : Nat → Int} : ∀ c, sumN (fun i => f i + g i) c = sumN f c + sumN g c := by
  intro c
  induction c with
  | zero => rfl
  | succ c ih => show sumN (fun i => f i + g i) c + (f c + g c) = sumN f c + f c + (sumN g c + g c); omega
theorem sumN_split {f : Nat → Int} (hr : r < c) : sumN f c = sumN f (r + 1) + sumN (fun i => if r < i then f i else 0) c := by rw [sumN_tl hr]; omega
/-- if something is left over for a row, all before it are full -/
theorem tf_over (ho : shOk S g K L c) (hK : K ≤ sumN S c) (hr : r < c) (hC : 0 < shC S g K L c r) : sumN (fun i => S i - shA S g K i) r + shB S g K L c r + shC S g K L c r + sumN (fun i => if r < i then shB S g K L c i else 0) c ≤ shL S g K c := by
  have h0 : 0 < shR S g K L c r := by unfold shC at hC; omega
  have h1 := shC_full ho hK r (by omega) h0
  have h2 := sh_all ho hK
  have h3 := shL_sum (S := S) (g := g) (K := K) c
  have e1 : sumN (fun i => S i - shA S g K i) r = sumN (shB S g K L c) r + sumN (shC S g K L c) r := by
    rw [← sumN_add]
    exact sumN_congr (fun i hi => by have := h1 i hi; omega)
  have h4 := sumN_split (f := shB S g K L c) hr
  have h5 : sumN (shC S g K L c) (r + 1) ≤ sumN (shC S g K L c) c := by
    have := sumN_tl (f := shC S g K L c) hr
    have nn : 0 ≤ sumN (fun i => if r < i then shC S g K L c i else 0) c := sumN_pos (fun i hi => by split; exact (shC_le ho hK hi).1; exact Int.le_refl _)
    omega
  have h6 : sumN (shB S g K L c) (r + 1) = sumN (shB S g K L c) r + shB S g K L c r := rfl
  have h7 : sumN (shC S g K L c) (r + 1) = sumN (shC S g K L c) r + shC S g K L c r := rfl
  omega
/-- a row is full only when those up to it can be -/
theorem tf_full (ho : shOk S g K L c) (hK : K ≤ sumN S c) (hr : r < c) (hA : shA S g K r < S r) (h : S r ≤ shA S g K r + shB S g K L c r + shC S g K L c r) : (S r - shA S g K r) + sumN (fun i => S i - shA S g K i) r + sumN (fun i => if r < i then shB S g K L c i else 0) c ≤ shL S g K c := by
  by_cases hC : 0 < shC S g K L c r
  · have := tf_over ho hK hr hC
    omega
  · have hB : S r - shA S g K r ≤ shB S g K L c r := by omega
    have h1 := (shL_bd ho c (Nat.le_refl _)).1
    have hz := shZ_bd ho c (Nat.le_refl _)
    have h2 := portion_mul (L := L) h1 (show 0 ≤ S r - shA S g K r by omega) hz.1
    have h3 : (S r - shA S g K r) * shZ S g K c ≤ shL S g K c * (S r - shA S g K r) := by
      have : (S r - shA S g K r) * shZ S g K c ≤ shB S g K L c r * shZ S g K c := Int.mul_le_mul_of_nonneg_right hB hz.1
      exact Int.le_trans this h2
    have h4 : shZ S g K c ≤ shL S g K c := by
      rw [Int.mul_comm] at h3
      exact Int.le_of_mul_le_mul_right h3 (by omega)
    have h5 := sumN_split (f := fun i => S i - shA S g K i) hr
    have h6 : sumN (fun i => if r < i then shB S g K L c i else 0) c ≤ sumN (fun i => if r < i then S i - shA S g K i else 0) c := sumN_le (fun i hi => by split; exact (shB_le ho hK hi).2; exact Int.le_refl _)
    have h7 : sumN (fun i => S i - shA S g K i) (r + 1) = sumN (fun i => S i - shA S g K i) r + (S r - shA S g K r) := rfl
    have h8 : shZ S g K c = sumN (fun i => S i - shA S g K i) c := rfl
    omega
/-- it has something beside a grant only by its own share, or when those before it are full -/
theorem tf_one (ho : shOk S g K L c) (hK : K ≤ sumN S c) (hr : r < c) (hA : shA S g K r = 0) (h : 1 ≤ shA S g K r + shB S g K L c r + shC S g K L c r) : L * shZ S g K c ≤ shL S g K c * S r ∨ 1 + sumN (fun i => S i - shA S g K i) r + sumN (fun i => if r < i then shB S g K L c i else 0) c ≤ shL S g K c := by
  have h1 := (shL_bd ho c (Nat.le_refl _)).1
  have h2 := ho.2.1 r hr
  by_cases hB : 0 < shB S g K L c r
  · refine Or.inl ?_
    have := portion_some h1 (show 0 ≤ S r - shA S g K r by omega) hB
    rw [hA, Int.sub_zero] at this
    exact this
  · refine Or.inr ?_
    have := shB_le ho hK hr
    have := tf_over ho hK hr (by omega)
    omega
/-- two takes beyond the grants: the sizes left are alike, the shares of the greater no less -/
theorem tf_two {K' : Int} (ho : shOk S g K L c) (hG : sumN (fun i => min (S i) (g i)) c ≤ K) (hKK : K ≤ K') (hr : r < c) : (∀ i, i < c → shA S g K' i = shA S g K i) ∧ shL S g K' c = shL S g K c + (K' - K) ∧ sumN (fun i => S i - shA S g K' i) r = sumN (fun i => S i - shA S g K i) r ∧ shZ S g K' c = shZ S g K c ∧ sumN (fun i => if r < i then shB S g K L c i else 0) c ≤ sumN (fun i => if r < i then shB S g K' L c i else 0) c := by
  have h0 : ∀ i, i < c → 0 ≤ min (S i) (g i) := fun i hi => by have := ho.2.1 i hi; have := ho.2.2.1 i hi; omega
  obtain ⟨a1, a2⟩ := shA_ge h0 hG c (Nat.le_refl _)
  obtain ⟨b1, b2⟩ := shA_ge h0 (Int.le_trans hG hKK) c (Nat.le_refl _)
  have e : ∀ i, i < c → shA S g K' i = shA S g K i := fun i hi => by rw [a2 i hi, b2 i hi]
  have ez : shZ S g K' c = shZ S g K c := sumN_congr (fun i hi => by rw [e i hi])
  have eL : shL S g K' c = shL S g K c + (K' - K) := by omega
  have hL := (shL_bd ho c (Nat.le_refl _)).1
  refine ⟨e, eL, sumN_congr (fun i hi => by rw [e i (by omega)]), ez, sumN_le (fun i hi => ?_)⟩
  split
  · unfold shB
    rw [ez, e i hi]
    have := (shA_bd ho hi).2.1
    exact portion_mono hL (by omega) (by omega)
  · exact Int.le_refl _
/-- with a take of the grants alone, or less, nothing comes behind them -/
theorem tf_none (ho : shOk S g K L c) (hG : K ≤ sumN (fun i => min (S i) (g i)) c) (hr : r < c) : shA S g K r + shB S g K L c r + shC S g K L c r ≤ min (S r) (g r) := by
  have h0 : ∀ i, i < c → 0 ≤ min (S i) (g i) := fun i hi => by have := ho.2.1 i hi; have := ho.2.2.1 i hi; omega
  have e := shL_zero h0 ho.2.2.2.1.1 c (Nat.le_refl _)
  have e0 : shL S g K c = 0 := by omega
  have b0 : ∀ i, shB S g K L c i = 0 := by
    intro i
    unfold shB portion
    rw [e0, Int.zero_mul, Int.zero_tdiv]
    split
    · split <;> rfl
    · rfl
  have s0 : ∀ j, sumN (shB S g K L c) j = 0 := by
    intro j
    induction j with
    | zero => rfl
    | succ j ih => show sumN _ j + shB S g K L c j = 0; rw [ih, b0]; rfl
  have r0 : ∀ j, j ≤ c → shR S g K L c j ≤ 0 ∧ (∀ i, i < j → shC S g K L c i ≤ 0) := by
    intro j
    induction j with
    | zero => intro _; exact ⟨by show shL S g K c - sumN (shB S g K L c) c ≤ 0; rw [e0, s0]; omega, fun i hi => by cases hi⟩
    | succ j ih =>
      intro hj
      obtain ⟨q1, q2⟩ := ih (by omega)
      have hA := shA_bd ho (i := j) (by omega)
      have eb := b0 j
      have eC : shC S g K L c j = min (shR S g K L c j) (S j - shA S g K j - shB S g K L c j) := rfl
      have eR : shR S g K L c (j + 1) = shR S g K L c j - shC S g K L c j := rfl
      refine ⟨by omega, fun i hi => ?_⟩
      by_cases d : i = j
      · subst d; omega
      · exact q2 i (by omega)
  have hC := (r0 c (Nat.le_refl _)).2 r hr
  have hB := b0 r
  have hA : shA S g K r ≤ min (S r) (g r) := by unfold shA; omega
  omega
/-- a leap: a take greater by less than that does no more -/
def tfStep (S g : Nat → Int) (K L : Int) (c r : Nat) (W : Int) : Int :=
  if 1 < W then (min W (S r - shA S g K r) + sumN (fun i => S i - shA S g K i) r) - (shL S g K c - sumN (fun i => if r < i then shB S g K L c i else 0) c)
  else min ((min W (S r - shA S g K r) + sumN (fun i => S i - shA S g K i) r) - (shL S g K c - sumN (fun i => if r < i then shB S g K L c i else 0) c)) ((L * shZ S g K c + S r - 1).tdiv (S r) - shL S g K c)
theorem tf_leap {K' W : Int} (ho : shOk S g K L c) (hG : sumN (fun i => min (S i) (g i)) c ≤ K) (hKK : K < K') (hK' : K' ≤ sumN S c) (hb : sumN S c ≤ 60000) (hr : r < c) (hp : 1 ≤ S r) (hW : W = 1 ∨ W = S r) (hm : min (S r) (g r) < W) (h : W ≤ shA S g K' r + shB S g K' L c r + shC S g K' L c r) : tfStep S g K L c r W ≤ K' - K := by
  have ho' : shOk S g K' L c := ⟨ho.1, ho.2.1, ho.2.2.1, ⟨by have := ho.2.2.2.1; omega, by omega⟩, ho.2.2.2.2⟩
  obtain ⟨t1, t2, t3, t4, t5⟩ := tf_two (r := r) ho hG (Int.le_of_lt hKK) hr
  have h0 : ∀ i, i < c → 0 ≤ min (S i) (g i) := fun i hi => by have := ho.2.1 i hi; have := ho.2.2.1 i hi; omega
  have hA : shA S g K r = min (S r) (g r) := (shA_ge h0 hG c (Nat.le_refl _)).2 r hr
  have hAr := t1 r hr
  unfold tfStep
  by_cases c1 : 1 < W
  · rw [if_pos c1]
    have hW' : W = S r := by omega
    have := tf_full ho' hK' hr (by omega) (by omega)
    rw [hAr, t2, t3] at this
    omega
  · rw [if_neg c1]
    have hW1 : W = 1 := by omega
    have hg := ho.2.2.1 r hr
    have hA0 : shA S g K r = 0 := by omega
    rcases tf_one ho' hK' hr (by omega) (by omega) with q | q
    · rw [t4, t2] at q
      have hs := hp
      have hz := (shZ_bd ho c (Nat.le_refl _)).1
      have hL := ho.2.2.2.2.1
      have hLz := Int.mul_nonneg (show 0 ≤ L by omega) hz
      have e : (L * shZ S g K c + S r - 1).tdiv (S r) = (L * shZ S g K c + S r - 1) / S r := Int.tdiv_eq_ediv_of_nonneg (by omega)
      have lt : (L * shZ S g K c + S r - 1) / S r < shL S g K c + (K' - K) + 1 := by
        refine Int.ediv_lt_of_lt_mul (by omega) ?_
        rw [Int.add_mul, Int.one_mul]
        omega
      rw [e]
      omega
    · rw [t2, t3] at q
      omega
end TFM
