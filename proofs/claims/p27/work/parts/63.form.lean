/-! PURE: the form of an order, on both sides -/
def aForm (t s p z d : Int) : Bool := decide ((0 ≤ t ∧ t ≤ 9) ∧ (0 ≤ s ∧ s ≤ 1) ∧ (1 ≤ p ∧ p ≤ 9999999) ∧ (1 ≤ z ∧ z ≤ 1000) ∧ (0 ≤ d ∧ d ≤ 3))
theorem aForm_t {t s p z d : Int} (h : aForm t s p z d = true) : (0 ≤ t ∧ t ≤ 9) ∧ (s = 0 ∨ s = 1) ∧ (1 ≤ p ∧ p ≤ 9999999) ∧ (1 ≤ z ∧ z ≤ 1000) ∧ (0 ≤ d ∧ d ≤ 3) := by
  have := of_decide_eq_true h
  obtain ⟨a, b, c, e, f⟩ := this
  exact ⟨a, by omega, c, e, f⟩
theorem z_isOrder8 {N : Nat} {G : qG} {t s p z d : Int} {μ : qM} : f_X8_isOrder N G t s p z d μ = some (b01 (aForm t s p z d), μ) := by
  unfold f_X8_isOrder
  rw [kb2_p z_within8, b01_ite]
  unfold aIn aForm
  by_cases h1 : 0 ≤ t ∧ t ≤ 9
  · rw [if_pos (decide_eq_true h1), kb2_p z_within8, b01_ite]
    unfold aIn
    by_cases h2 : 0 ≤ s ∧ s ≤ 1
    · rw [if_pos (decide_eq_true h2), kb2_p z_within8, b01_ite]
      unfold aIn
      by_cases h3 : 1 ≤ p ∧ p ≤ 9999999
      · rw [if_pos (decide_eq_true h3), kb2_p z_within8, b01_ite]
        unfold aIn
        by_cases h4 : 1 ≤ z ∧ z ≤ 1000
        · rw [if_pos (decide_eq_true h4), kb2_p z_within8, b01_ite]
          unfold aIn
          by_cases h5 : 0 ≤ d ∧ d ≤ 3
          · rw [if_pos (decide_eq_true h5), b01_t (decide_eq_true ⟨h1, h2, h3, h4, h5⟩)]
          · rw [if_neg (by simpa using h5), b01_f (decide_eq_false (fun q => h5 q.2.2.2.2))]
        · rw [if_neg (by simpa using h4), b01_f (decide_eq_false (fun q => h4 q.2.2.2.1))]
      · rw [if_neg (by simpa using h3), b01_f (decide_eq_false (fun q => h3 q.2.2.1))]
    · rw [if_neg (by simpa using h2), b01_f (decide_eq_false (fun q => h2 q.2.1))]
  · rw [if_neg (by simpa using h1), b01_f (decide_eq_false (fun q => h1 q.1))]
theorem z_isTrader7 {N : Nat} {G : qG} {t : Int} {μ : qM} : f_X7_isTrader N G t μ = some (b01 (aIn t 0 9), μ) := by
  unfold f_X7_isTrader aIn
  by_cases h1 : t < 0
  · rw [if_pos h1, b01_f (decide_eq_false (by omega))]
  · by_cases h2 : t < 10
    · rw [if_neg h1, if_pos h2, b01_t (decide_eq_true (by omega))]
    · rw [if_neg h1, if_neg h2, b01_f (decide_eq_false (by omega))]
theorem z_isSide7 {N : Nat} {G : qG} {s : Int} {μ : qM} : f_X7_isSide N G s μ = some (b01 (aIn s 0 1), μ) := by
  unfold f_X7_isSide f_X7_isSide_9 aIn
  by_cases h1 : s = 0
  · rw [if_pos h1, b01_t (decide_eq_true (by omega))]
  · by_cases h2 : s = 1
    · rw [if_neg h1, if_pos h2, b01_t (decide_eq_true (by omega))]
    · rw [if_neg h1, if_neg h2, b01_f (decide_eq_false (by omega))]
theorem z_isForm7 {N : Nat} {G : qG} {t s p z d : Int} {μ : qM} : f_X7_isForm N G t s p z d μ = some (b01 (aForm t s p z d), μ) := by
  unfold f_X7_isForm
  rw [kb2_p z_isTrader7, b01_ite]
  unfold aIn aForm
  by_cases h1 : 0 ≤ t ∧ t ≤ 9
  · rw [if_pos (decide_eq_true h1), kb2_p z_isSide7, b01_ite]
    unfold aIn
    by_cases h2 : 0 ≤ s ∧ s ≤ 1
    · rw [if_pos (decide_eq_true h2)]
      by_cases h3 : (1 ≤ p ∧ p ≤ 9999999) ∧ (1 ≤ z ∧ z ≤ 1000) ∧ (0 ≤ d ∧ d ≤ 3)
      · rw [if_neg (by omega), if_neg (by omega), if_neg (by omega), if_neg (by omega), if_neg (by omega), if_pos (by omega), b01_t (decide_eq_true ⟨h1, h2, h3⟩)]
      · rw [b01_f (decide_eq_false (fun q => h3 q.2.2))]
        repeat' split
        all_goals first | rfl | (exfalso; omega)
    · rw [if_neg (by simpa using h2), b01_f (decide_eq_false (fun q => h2 q.2.1))]
  · rw [if_neg (by simpa using h1), b01_f (decide_eq_false (fun q => h1 q.1))]
/-- price times size of an order's form is a long -/
theorem mul_bd {p z : Int} (hp : 1 ≤ p ∧ p ≤ 9999999) (hz : 1 ≤ z ∧ z ≤ 1000) : 1 ≤ p * z ∧ p * z ≤ 9999999000 := by
  have h1 : p * z ≤ 9999999 * z := Int.mul_le_mul_of_nonneg_right hp.2 (by omega)
  have h2 : 1 * z ≤ p * z := Int.mul_le_mul_of_nonneg_right hp.1 (by omega)
  omega
def aDear (p z : Int) : Bool := decide (p * z ≤ 2147483647)
theorem z_isInt8 {N : Nat} {G : qG} {p z : Int} {μ : qM} (hp : 1 ≤ p ∧ p ≤ 9999999) (hz : 1 ≤ z ∧ z ≤ 1000) : f_X8_isInt N G p z μ = some (b01 (aDear p z), μ) := by
  have hb := mul_bd hp hz
  unfold f_X8_isInt aDear
  rw [ckJ_p ⟨by omega, by omega⟩]
  by_cases h : 2147483647 < p * z
  · rw [if_pos h, b01_f (decide_eq_false (by omega))]
  · rw [if_neg h, b01_t (decide_eq_true (by omega))]
theorem z_isWorthInt7 {N : Nat} {G : qG} {p z : Int} {μ : qM} (hp : 1 ≤ p ∧ p ≤ 9999999) (hz : 1 ≤ z ∧ z ≤ 1000) : f_X7_isWorthInt N G p z μ = some (b01 (aDear p z), μ) := by
  have hb := mul_bd hp hz
  unfold f_X7_isWorthInt aDear
  rw [ckJ_p ⟨by omega, by omega⟩]
  by_cases h : 2147483647 < p * z
  · rw [if_pos h, b01_f (decide_eq_false (by omega))]
  · rw [if_neg h, b01_t (decide_eq_true (by omega))]
