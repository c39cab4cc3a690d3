/-! PURE: the words, reference; a line, in itself -/
section KIND8
variable {N : Nat} {G : qG} {m n q : Nat} {μ ν : qM} {B : Nat → Int}
theorem z_isW8_3 (hx : mTx G m μ n B) (hk : mTk m μ n B q) (hq : q ≤ n) {c1 c2 c3 : Int}  : f_X8_isWord N G m c1 c2 c3 0 0 μ = some (b01 (wIs n B q [c1, c2, c3]), μ) := by
  obtain ⟨k4, k5, k6, -⟩ := hk
  have he := tkE_le (B := B) hq
  have h500 := hx.2.1
  have un : wIs n B q [c1, c2, c3] = true ↔ (tkK n B q = 1 ∧ tkE n B q - tkA n B q = 3 ∧ B (tkA n B q + 0) = c1 ∧ B (tkA n B q + 1) = c2 ∧ B (tkA n B q + 2) = c3) := by
    constructor
    · intro h
      have h := of_decide_eq_true h
      exact ⟨h.1, h.2.1, h.2.2 0 (show 0 < 3 by decide), h.2.2 1 (show 1 < 3 by decide), h.2.2 2 (show 2 < 3 by decide)⟩
    · rintro ⟨h1, h2, g0, g1, g2⟩
      refine wIs_t ⟨h1, h2, fun i hi => ?_⟩
      have hi' : i < 3 := hi
      have c : i = 0 ∨ i = 1 ∨ i = 2 := by omega
      rcases c with rfl | rfl | rfl
      · exact g0
      · exact g1
      · exact g2
  have no : ¬ (tkK n B q = 1 ∧ tkE n B q - tkA n B q = 3 ∧ B (tkA n B q + 0) = c1 ∧ B (tkA n B q + 1) = c2 ∧ B (tkA n B q + 2) = c3) → some ((0 : Int), μ) = some (b01 (wIs n B q [c1, c2, c3]), μ) := fun y => by
    have : wIs n B q [c1, c2, c3] = false := Bool.eq_false_iff.mpr (fun h => y (un.mp h))
    rw [b01_f this]
  have sv : ∀ i, i < tkE n B q - tkA n B q → seV n B (tkA n B q + i) = B (tkA n B q + i) := fun i hi => if_pos (by omega)
  unfold f_X8_isWord
  rw [if_neg (by decide), if_neg (by decide)]
  unfold f_X8_isWord_19
  rw [k6]
  by_cases a1 : tkK n B q = 1
  · rw [if_pos a1, k5, k4, ckI_p ⟨by omega, by omega⟩]
    by_cases a2 : tkE n B q - tkA n B q = 3
    · rw [if_pos (by omega), kb2_p (z_see8 hx _), show tkA n B q = tkA n B q + 0 from rfl, sv 0 (by omega)]
      by_cases b0 : B (tkA n B q + 0) = c1
      · rw [if_pos b0, k4, ckI_p ⟨by omega, by omega⟩, show (tkA n B q : Int) + 1 = ((tkA n B q + 1 : Nat) : Int) by omega, kb2_p (z_see8 hx _), sv 1 (by omega)]
        by_cases b1 : B (tkA n B q + 1) = c2
        · rw [if_pos b1, k4, ckI_p ⟨by omega, by omega⟩, show (tkA n B q : Int) + 2 = ((tkA n B q + 2 : Nat) : Int) by omega, kb2_p (z_see8 hx _), sv 2 (by omega)]
          by_cases b2 : B (tkA n B q + 2) = c3
          · unfold f_X8_isWord_106 f_X8_isWord_127
            rw [if_pos b2, if_pos (by decide), if_pos (by decide), b01_t (un.mpr ⟨a1, a2, b0, b1, b2⟩)]
          · rw [if_neg b2]; exact no (fun y => b2 y.2.2.2.2)
        · rw [if_neg b1]; exact no (fun y => b1 y.2.2.2.1)
      · rw [if_neg b0]; exact no (fun y => b0 y.2.2.1)
    · rw [if_neg (by omega)]; exact no (fun y => a2 y.2.1)
  · rw [if_neg a1]; exact no (fun y => a1 y.1)
theorem z_isW8_4 (hx : mTx G m μ n B) (hk : mTk m μ n B q) (hq : q ≤ n) {c1 c2 c3 c4 : Int} (h4 : 0 < c4) : f_X8_isWord N G m c1 c2 c3 c4 0 μ = some (b01 (wIs n B q [c1, c2, c3, c4]), μ) := by
  obtain ⟨k4, k5, k6, -⟩ := hk
  have he := tkE_le (B := B) hq
  have h500 := hx.2.1
  have un : wIs n B q [c1, c2, c3, c4] = true ↔ (tkK n B q = 1 ∧ tkE n B q - tkA n B q = 4 ∧ B (tkA n B q + 0) = c1 ∧ B (tkA n B q + 1) = c2 ∧ B (tkA n B q + 2) = c3 ∧ B (tkA n B q + 3) = c4) := by
    constructor
    · intro h
      have h := of_decide_eq_true h
      exact ⟨h.1, h.2.1, h.2.2 0 (show 0 < 4 by decide), h.2.2 1 (show 1 < 4 by decide), h.2.2 2 (show 2 < 4 by decide), h.2.2 3 (show 3 < 4 by decide)⟩
    · rintro ⟨h1, h2, g0, g1, g2, g3⟩
      refine wIs_t ⟨h1, h2, fun i hi => ?_⟩
      have hi' : i < 4 := hi
      have c : i = 0 ∨ i = 1 ∨ i = 2 ∨ i = 3 := by omega
      rcases c with rfl | rfl | rfl | rfl
      · exact g0
      · exact g1
      · exact g2
      · exact g3
  have no : ¬ (tkK n B q = 1 ∧ tkE n B q - tkA n B q = 4 ∧ B (tkA n B q + 0) = c1 ∧ B (tkA n B q + 1) = c2 ∧ B (tkA n B q + 2) = c3 ∧ B (tkA n B q + 3) = c4) → some ((0 : Int), μ) = some (b01 (wIs n B q [c1, c2, c3, c4]), μ) := fun y => by
    have : wIs n B q [c1, c2, c3, c4] = false := Bool.eq_false_iff.mpr (fun h => y (un.mp h))
    rw [b01_f this]
  have sv : ∀ i, i < tkE n B q - tkA n B q → seV n B (tkA n B q + i) = B (tkA n B q + i) := fun i hi => if_pos (by omega)
  unfold f_X8_isWord
  rw [if_neg (by decide), if_pos h4]
  unfold f_X8_isWord_19
  rw [k6]
  by_cases a1 : tkK n B q = 1
  · rw [if_pos a1, k5, k4, ckI_p ⟨by omega, by omega⟩]
    by_cases a2 : tkE n B q - tkA n B q = 4
    · rw [if_pos (by omega), kb2_p (z_see8 hx _), show tkA n B q = tkA n B q + 0 from rfl, sv 0 (by omega)]
      by_cases b0 : B (tkA n B q + 0) = c1
      · rw [if_pos b0, k4, ckI_p ⟨by omega, by omega⟩, show (tkA n B q : Int) + 1 = ((tkA n B q + 1 : Nat) : Int) by omega, kb2_p (z_see8 hx _), sv 1 (by omega)]
        by_cases b1 : B (tkA n B q + 1) = c2
        · rw [if_pos b1, k4, ckI_p ⟨by omega, by omega⟩, show (tkA n B q : Int) + 2 = ((tkA n B q + 2 : Nat) : Int) by omega, kb2_p (z_see8 hx _), sv 2 (by omega)]
          by_cases b2 : B (tkA n B q + 2) = c3
          · rw [if_pos b2, if_neg (by decide), k4, ckI_p ⟨by omega, by omega⟩, show (tkA n B q : Int) + 3 = ((tkA n B q + 3 : Nat) : Int) by omega, kb2_p (z_see8 hx _), sv 3 (by omega)]
            by_cases b3 : B (tkA n B q + 3) = c4
            · unfold f_X8_isWord_106 f_X8_isWord_127
              rw [if_pos b3, if_pos (by decide), b01_t (un.mpr ⟨a1, a2, b0, b1, b2, b3⟩)]
            · rw [if_neg b3]; exact no (fun y => b3 y.2.2.2.2.2)
          · rw [if_neg b2]; exact no (fun y => b2 y.2.2.2.2.1)
        · rw [if_neg b1]; exact no (fun y => b1 y.2.2.2.1)
      · rw [if_neg b0]; exact no (fun y => b0 y.2.2.1)
    · rw [if_neg (by omega)]; exact no (fun y => a2 y.2.1)
  · rw [if_neg a1]; exact no (fun y => a1 y.1)
theorem z_isW8_5 (hx : mTx G m μ n B) (hk : mTk m μ n B q) (hq : q ≤ n) {c1 c2 c3 c4 c5 : Int} (h4 : 0 < c4) (h5 : 0 < c5) : f_X8_isWord N G m c1 c2 c3 c4 c5 μ = some (b01 (wIs n B q [c1, c2, c3, c4, c5]), μ) := by
  obtain ⟨k4, k5, k6, -⟩ := hk
  have he := tkE_le (B := B) hq
  have h500 := hx.2.1
  have un : wIs n B q [c1, c2, c3, c4, c5] = true ↔ (tkK n B q = 1 ∧ tkE n B q - tkA n B q = 5 ∧ B (tkA n B q + 0) = c1 ∧ B (tkA n B q + 1) = c2 ∧ B (tkA n B q + 2) = c3 ∧ B (tkA n B q + 3) = c4 ∧ B (tkA n B q + 4) = c5) := by
    constructor
    · intro h
      have h := of_decide_eq_true h
      exact ⟨h.1, h.2.1, h.2.2 0 (show 0 < 5 by decide), h.2.2 1 (show 1 < 5 by decide), h.2.2 2 (show 2 < 5 by decide), h.2.2 3 (show 3 < 5 by decide), h.2.2 4 (show 4 < 5 by decide)⟩
    · rintro ⟨h1, h2, g0, g1, g2, g3, g4⟩
      refine wIs_t ⟨h1, h2, fun i hi => ?_⟩
      have hi' : i < 5 := hi
      have c : i = 0 ∨ i = 1 ∨ i = 2 ∨ i = 3 ∨ i = 4 := by omega
      rcases c with rfl | rfl | rfl | rfl | rfl
      · exact g0
      · exact g1
      · exact g2
      · exact g3
      · exact g4
  have no : ¬ (tkK n B q = 1 ∧ tkE n B q - tkA n B q = 5 ∧ B (tkA n B q + 0) = c1 ∧ B (tkA n B q + 1) = c2 ∧ B (tkA n B q + 2) = c3 ∧ B (tkA n B q + 3) = c4 ∧ B (tkA n B q + 4) = c5) → some ((0 : Int), μ) = some (b01 (wIs n B q [c1, c2, c3, c4, c5]), μ) := fun y => by
    have : wIs n B q [c1, c2, c3, c4, c5] = false := Bool.eq_false_iff.mpr (fun h => y (un.mp h))
    rw [b01_f this]
  have sv : ∀ i, i < tkE n B q - tkA n B q → seV n B (tkA n B q + i) = B (tkA n B q + i) := fun i hi => if_pos (by omega)
  unfold f_X8_isWord
  rw [if_pos h5]
  unfold f_X8_isWord_19
  rw [k6]
  by_cases a1 : tkK n B q = 1
  · rw [if_pos a1, k5, k4, ckI_p ⟨by omega, by omega⟩]
    by_cases a2 : tkE n B q - tkA n B q = 5
    · rw [if_pos (by omega), kb2_p (z_see8 hx _), show tkA n B q = tkA n B q + 0 from rfl, sv 0 (by omega)]
      by_cases b0 : B (tkA n B q + 0) = c1
      · rw [if_pos b0, k4, ckI_p ⟨by omega, by omega⟩, show (tkA n B q : Int) + 1 = ((tkA n B q + 1 : Nat) : Int) by omega, kb2_p (z_see8 hx _), sv 1 (by omega)]
        by_cases b1 : B (tkA n B q + 1) = c2
        · rw [if_pos b1, k4, ckI_p ⟨by omega, by omega⟩, show (tkA n B q : Int) + 2 = ((tkA n B q + 2 : Nat) : Int) by omega, kb2_p (z_see8 hx _), sv 2 (by omega)]
          by_cases b2 : B (tkA n B q + 2) = c3
          · rw [if_pos b2, if_neg (by decide), k4, ckI_p ⟨by omega, by omega⟩, show (tkA n B q : Int) + 3 = ((tkA n B q + 3 : Nat) : Int) by omega, kb2_p (z_see8 hx _), sv 3 (by omega)]
            by_cases b3 : B (tkA n B q + 3) = c4
            · unfold f_X8_isWord_106 f_X8_isWord_127
              rw [if_pos b3, if_neg (by decide), k4, ckI_p ⟨by omega, by omega⟩, show (tkA n B q : Int) + 4 = ((tkA n B q + 4 : Nat) : Int) by omega, kb2_p (z_see8 hx _), sv 4 (by omega)]
              by_cases b4 : B (tkA n B q + 4) = c5
              · rw [if_pos b4, b01_t (un.mpr ⟨a1, a2, b0, b1, b2, b3, b4⟩)]
              · rw [if_neg b4]; exact no (fun y => b4 y.2.2.2.2.2.2)
            · rw [if_neg b3]; exact no (fun y => b3 y.2.2.2.2.2.1)
          · rw [if_neg b2]; exact no (fun y => b2 y.2.2.2.2.1)
        · rw [if_neg b1]; exact no (fun y => b1 y.2.2.2.1)
      · rw [if_neg b0]; exact no (fun y => b0 y.2.2.1)
    · rw [if_neg (by omega)]; exact no (fun y => a2 y.2.1)
  · rw [if_neg a1]; exact no (fun y => a1 y.1)
theorem kdH_e : kdH n B q = if wIs n B q (wdL 0) = true then 0 else if wIs n B q (wdL 1) = true then 1 else if wIs n B q (wdL 2) = true then 2 else if wIs n B q (wdL 3) = true then 3 else if wIs n B q (wdL 4) = true then 4 else if wIs n B q (wdL 5) = true then 5 else if wIs n B q (wdL 6) = true then 6 else if wIs n B q (wdL 7) = true then 7 else -1 := rfl
theorem mdH_e : mdH n B q = if wIs n B q (wdL 8) = true then 0 else if wIs n B q (wdL 9) = true then 1 else if wIs n B q (wdL 10) = true then 2 else if wIs n B q (wdL 11) = true then 3 else -1 := rfl
theorem kdH_r : -1 ≤ kdH n B q ∧ kdH n B q ≤ 7 := by rw [kdH_e]; repeat' split
                                                     all_goals omega
theorem mdH_r : -1 ≤ mdH n B q ∧ mdH n B q ≤ 3 := by rw [mdH_e]; repeat' split
                                                     all_goals omega
theorem z_kindHere8 (hx : mTx G m μ n B) (hk : mTk m μ n B q) (hq : q ≤ n) : f_X8_kindHere N G m μ = some (kdH n B q, μ) := by
  unfold f_X8_kindHere
  rw [kdH_e]
  rw [kb2_p (z_isW8_3 (N := N) hx hk hq ), b01_ite, show wIs n B q [98, 117, 121] = wIs n B q (wdL 0) from rfl]
  by_cases b0 : wIs n B q (wdL 0) = true
  · rw [if_pos b0, if_pos b0]
  rw [if_neg b0, if_neg b0]
  rw [kb2_p (z_isW8_4 (N := N) hx hk hq (by decide)), b01_ite, show wIs n B q [115, 101, 108, 108] = wIs n B q (wdL 1) from rfl]
  by_cases b1 : wIs n B q (wdL 1) = true
  · rw [if_pos b1, if_pos b1]
  rw [if_neg b1, if_neg b1]
  rw [kb2_p (z_isW8_3 (N := N) hx hk hq ), b01_ite, show wIs n B q [111, 102, 102] = wIs n B q (wdL 2) from rfl]
  by_cases b2 : wIs n B q (wdL 2) = true
  · rw [if_pos b2, if_pos b2]
  rw [if_neg b2, if_neg b2]
  rw [kb2_p (z_isW8_3 (N := N) hx hk hq ), b01_ite, show wIs n B q [99, 117, 116] = wIs n B q (wdL 3) from rfl]
  by_cases b3 : wIs n B q (wdL 3) = true
  · rw [if_pos b3, if_pos b3]
  rw [if_neg b3, if_neg b3]
  rw [kb2_p (z_isW8_5 (N := N) hx hk hq (by decide) (by decide)), b01_ite, show wIs n B q [103, 114, 97, 110, 116] = wIs n B q (wdL 4) from rfl]
  by_cases b4 : wIs n B q (wdL 4) = true
  · rw [if_pos b4, if_pos b4]
  rw [if_neg b4, if_neg b4]
  rw [kb2_p (z_isW8_5 (N := N) hx hk hq (by decide) (by decide)), b01_ite, show wIs n B q [108, 101, 97, 115, 116] = wIs n B q (wdL 5) from rfl]
  by_cases b5 : wIs n B q (wdL 5) = true
  · rw [if_pos b5, if_pos b5]
  rw [if_neg b5, if_neg b5]
  rw [kb2_p (z_isW8_4 (N := N) hx hk hq (by decide)), b01_ite, show wIs n B q [99, 97, 108, 108] = wIs n B q (wdL 6) from rfl]
  by_cases b6 : wIs n B q (wdL 6) = true
  · rw [if_pos b6, if_pos b6]
  rw [if_neg b6, if_neg b6]
  rw [kb2_p (z_isW8_4 (N := N) hx hk hq (by decide)), b01_ite, show wIs n B q [111, 112, 101, 110] = wIs n B q (wdL 7) from rfl]
  by_cases b7 : wIs n B q (wdL 7) = true
  · rw [if_pos b7, if_pos b7]
  rw [if_neg b7, if_neg b7]
end KIND8
