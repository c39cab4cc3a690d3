/-! PURE: 'ahead' on both sides -/
def aAh (l : List (Nat → Int)) (i : Nat) (w : Int) : Int := if w = 0 then aS (wZ (lG l i 2) (lG l i 3)) (l.take i) else aS (wB (lG l i 2) (lG l i 3)) l
theorem aS_app {w : (Nat → Int) → Int} : ∀ {a b : List (Nat → Int)}, aS w (a ++ b) = aS w a + aS w b := by
  intro a b
  induction a with
  | nil => show aS w b = 0 + aS w b; omega
  | cons o t ih => show w o + aS w (t ++ b) = w o + aS w t + aS w b; rw [ih]; omega
theorem aS_take1 {w : (Nat → Int) → Int} (l : List (Nat → Int)) {i : Nat} (hi : i < l.length) : aS w (l.take (i + 1)) = aS w (l.take i) + w (lG l i) := by
  have e : l.take (i + 1) = l.take i ++ [lG l i] := by
    unfold lG
    rw [List.take_succ_eq_append_getElem hi, List.getD_eq_getElem?_getD, List.getElem?_eq_getElem hi]
    rfl
  rw [e, aS_app]
  show _ + (w (lG l i) + 0) = _
  omega
theorem lG_take {l : List (Nat → Int)} {i j : Nat} (h : j < i) : lG (l.take i) j = lG l j := by
  unfold lG
  rw [List.getD_eq_getElem?_getD, List.getD_eq_getElem?_getD, List.getElem?_take_of_lt h]
theorem lOk.take {l : List (Nat → Int)} (h : lOk l) (i : Nat) : lOk (l.take i) := by
  refine ⟨by rw [List.length_take]; have := h.1; omega, fun j hj => ?_⟩
  rw [List.length_take] at hj
  rw [lG_take (by omega)]
  exact h.2 j (by omega)
theorem aS_tk_bd {w : (Nat → Int) → Int} {l : List (Nat → Int)} (hw : ∀ i, i < l.length → 0 ≤ w (lG l i) ∧ w (lG l i) ≤ 1000) {i : Nat} (hi : i ≤ l.length) : 0 ≤ aS w (l.take i) ∧ aS w (l.take i) ≤ 1000 * (i : Int) := by
  have h := aS_bd (w := w) (M := 1000) (l := l.take i) (fun j hj => by rw [List.length_take] at hj; rw [lG_take (by omega)]; exact hw j (by omega))
  rw [List.length_take, Nat.min_eq_left hi] at h
  exact h
section AH
variable {N : Nat} {G : qG} {μ : qM} {l : List (Nat → Int)}
theorem z_earlier0 {b : Nat} {A : Nat → Nat} (h : cB G b A μ l) (hl : lOk l) (hN : 100 < N) {i : Nat} (hi : i < l.length) : f_X0_earlierSizes N G b (A i) μ = some (aS (wZ (lG l i 2) (lG l i 3)) (l.take i), μ) := by
  have hn := hl.1
  have e2 : gI μ 402 (A i) = lG l i 2 := z_f0 h hi 2 (by decide)
  have e3 : gI μ 403 (A i) = lG l i 3 := z_f0 h hi 3 (by decide)
  unfold f_X0_earlierSizes f_X0_earlierSizes_L4
  refine qLoop_end (fun j => (b, A i, aS (wZ (lG l i 2) (lG l i 3)) (l.take j), (j : Int), μ)) i N (by omega) (fun j hj k => ?_) (fun k => ?_)
  · show f_X0_earlierSizes_4 N G _ b (A i) (aS (wZ (lG l i 2) (lG l i 3)) (l.take j)) (j : Int) μ = k (b, A i, aS (wZ (lG l i 2) (lG l i 3)) (l.take (j + 1)), ((j + 1 : Nat) : Int), μ)
    have hj' : j < l.length := by omega
    have b1 := aS_tk_bd (wZ_bd (s := lG l i 2) (p := lG l i 3) hl) (i := j) (by omega)
    have b2 := wZ_bd (s := lG l i 2) (p := lG l i 3) hl j hj'
    have f4 : gI μ 404 (A j) = lG l j 4 := z_f0 h hj' 4 (by decide)
    rw [aS_take1 l hj']
    generalize aS (wZ (lG l i 2) (lG l i 3)) (l.take j) = S at b1 ⊢
    unfold f_X0_earlierSizes_4
    rw [h.1, if_pos (by omega), z_row0 h (by omega), if_neg (fun e => by have := h.2.2.1 j i (by omega) (by omega) e; omega), e2, e3, kb2_p (z_isAt0 h hn hj'), b01_ite]
    unfold f_X0_earlierSizes_52
    unfold wZ at b2 ⊢
    by_cases c1 : aAt (lG l i 2) (lG l i 3) (lG l j) = true
    · rw [if_pos c1] at b2
      rw [if_pos c1, if_pos c1, z_row0 h (by omega), f4, ckI_p ⟨by omega, by omega⟩, ckI_p ⟨by omega, by omega⟩, cast1]
    · rw [if_neg c1, if_neg c1, ckI_p ⟨by omega, by omega⟩, ckI_p ⟨by omega, by omega⟩, cast1]
  · show f_X0_earlierSizes_4 N G _ b (A i) (aS (wZ (lG l i 2) (lG l i 3)) (l.take i)) (i : Int) μ = _
    unfold f_X0_earlierSizes_4
    rw [h.1, if_pos (by omega), z_row0 h (by omega), if_pos rfl]
theorem z_better0 {b : Nat} {A : Nat → Nat} (h : cB G b A μ l) (hl : lOk l) (hN : 100 < N) {i : Nat} (hi : i < l.length) : f_X0_betterSizes N G b (A i) μ = some (aS (wB (lG l i 2) (lG l i 3)) l, μ) := by
  have hn := hl.1
  have e2 : gI μ 402 (A i) = lG l i 2 := z_f0 h hi 2 (by decide)
  have e3 : gI μ 403 (A i) = lG l i 3 := z_f0 h hi 3 (by decide)
  unfold f_X0_betterSizes f_X0_betterSizes_L4
  refine qLoop_end (fun j => (b, A i, aS (wB (lG l i 2) (lG l i 3)) (l.take j), (j : Int), μ)) l.length N (by omega) (fun j hj k => ?_) (fun k => ?_)
  · show f_X0_betterSizes_4 N G _ b (A i) (aS (wB (lG l i 2) (lG l i 3)) (l.take j)) (j : Int) μ = k (b, A i, aS (wB (lG l i 2) (lG l i 3)) (l.take (j + 1)), ((j + 1 : Nat) : Int), μ)
    have b1 := aS_tk_bd (wB_bd (s := lG l i 2) (p := lG l i 3) hl) (i := j) (by omega)
    have b2 := wB_bd (s := lG l i 2) (p := lG l i 3) hl j hj
    have f4 : gI μ 404 (A j) = lG l j 4 := z_f0 h hj 4 (by decide)
    have f2 : gI μ 402 (A j) = lG l j 2 := z_f0 h hj 2 (by decide)
    have f3 : gI μ 403 (A j) = lG l j 3 := z_f0 h hj 3 (by decide)
    rw [aS_take1 l hj]
    generalize aS (wB (lG l i 2) (lG l i 3)) (l.take j) = S at b1 ⊢
    unfold f_X0_betterSizes_4 f_X0_betterSizes_60
    rw [h.1, if_pos (by omega), z_row0 h (by omega), f2, f3, e2, e3]
    unfold wB at b2 ⊢
    by_cases c1 : lG l j 2 = lG l i 2
    · rw [if_pos c1, c1, kb2_p z_isBetter7, b01_ite]
      by_cases c2 : aBet (lG l i 2) (lG l j 3) (lG l i 3) = true
      · rw [if_pos ⟨c1, c2⟩] at b2
        rw [if_pos c2, if_pos ⟨rfl, c2⟩, f4, ckI_p ⟨by omega, by omega⟩, ckI_p ⟨by omega, by omega⟩, cast1]
      · rw [if_neg c2, if_neg (fun q => c2 q.2), ckI_p ⟨by omega, by omega⟩, cast1, Int.add_zero]
    · rw [if_neg c1, if_neg (fun q => c1 q.1), ckI_p ⟨by omega, by omega⟩, cast1, Int.add_zero]
  · show f_X0_betterSizes_4 N G _ b (A i) (aS (wB (lG l i 2) (lG l i 3)) (l.take l.length)) (l.length : Int) μ = _
    unfold f_X0_betterSizes_4
    rw [h.1, if_neg (by omega), List.take_length]
theorem z_ahead7 {ρ : Nat → Nat × Nat} {x : Nat} {T D : Nat → Int} {tr : Nat → Nat → Int} {n : Nat} {B : Nat → Int} (h : cR G ρ x μ l T D tr n B) (hl : lOk l) (hN : 100 < N) (k w : Int) : f_X7_ahead N G x k w μ = some ((match aPlace k l with | some i => if aIn w 0 1 = true then aAh l i w else -1 | none => -1), μ) := by
  obtain ⟨A, V, nx, hf⟩ := h.1
  have h1 := hf.1
  unfold f_X7_ahead
  rw [kb2_p (z_find0 h1 hl.1 hN)]
  cases hp : aPlace k l with
  | none => rfl
  | some i =>
    obtain ⟨-, hi, -, -⟩ := aPl_some hp
    rw [Nat.zero_add] at hi
    show (if w < 0 then some ((-1 : Int), μ) else if 1 < w then some (-1, μ) else if w = 0 then kb2 (f_X0_earlierSizes N G (gR G 200 (gR G 700 x)) (A i) μ) fun v10 m9 => some (v10, m9) else kb2 (f_X0_betterSizes N G (gR G 200 (gR G 700 x)) (A i) μ) fun v8 m7 => some (v8, m7)) = some (if aIn w 0 1 = true then aAh l i w else -1, μ)
    rw [kb2_p (z_earlier0 h1 hl hN hi), kb2_p (z_better0 h1 hl hN hi)]
    unfold aIn aAh
    by_cases c : 0 ≤ w ∧ w ≤ 1
    · rw [if_neg (by omega), if_neg (by omega), if_pos (decide_eq_true c), ite_some]
    · rw [if_neg (c := decide (0 ≤ w ∧ w ≤ 1) = true) (fun q => c (of_decide_eq_true q))]
      by_cases d : w < 0
      · rw [if_pos d]
      · rw [if_neg d, if_pos (by omega)]
theorem aS_none {w : (Nat → Int) → Int} : ∀ {l : List (Nat → Int)}, (∀ i, i < l.length → w (lG l i) = 0) → aS w l = 0 := by
  intro l
  induction l with
  | nil => intro _; rfl
  | cons o t ih =>
    intro h
    have h0 : w o = 0 := h 0 (by simp)
    rw [aS_cons, h0, ih (fun i hi => h (i + 1) (by simpa using hi))]
    rfl
theorem z_ahead8 {m : Nat} {T D : Nat → Int} {tr : Nat → Nat → Int} {n : Nat} {B : Nat → Int} (h : mR G m μ l T D tr n B) (hl : lOk l) (hN : 100 < N) (k w : Int) : ∃ ν, f_X8_ahead N G m k w μ = some ((match aPlace k l with | some i => if aIn w 0 1 = true then aAh l i w else -1 | none => -1), ν) ∧ mR G m ν l T D tr n B := by
  have hn := hl.1
  have h1 := h.fld (f := 804) (a := m) (v := 0) (by decide)
  unfold f_X8_ahead
  rw [kp_p, kb2_p (z_placeOf8 h1.1 hn hN)]
  cases hp : aPlace k l with
  | none => rw [oI_none, if_pos (by decide)]; exact ⟨_, rfl, h1⟩
  | some i =>
    obtain ⟨-, hi, -, -⟩ := aPl_some hp
    rw [Nat.zero_add] at hi
    rw [oI_some, if_neg (by omega), kb2_p z_within8, b01_ite]
    show ∃ ν, _ = some (if aIn w 0 1 = true then aAh l i w else -1, ν) ∧ _
    by_cases c : aIn w 0 1 = true
    · have hw : 0 ≤ w ∧ w ≤ 1 := of_decide_eq_true c
      rw [if_pos c, if_pos c, kb2_p (z8_2 h1.1 hn hi)]
      refine ⟨_, ?_, h1⟩
      generalize sI μ 804 m 0 = μ1 at h1
      have hB := h1.1
      -- what each row adds
      have hv : ∀ j, j < l.length → 0 ≤ (if w = 0 then (if j < i then wZ (lG l i 2) (lG l i 3) (lG l j) else 0) else wB (lG l i 2) (lG l i 3) (lG l j)) ∧ (if w = 0 then (if j < i then wZ (lG l i 2) (lG l i 3) (lG l j) else 0) else wB (lG l i 2) (lG l i 3) (lG l j)) ≤ 1000 := by
        intro j hj
        have b1 := wZ_bd (s := lG l i 2) (p := lG l i 3) hl j hj
        have b2 := wB_bd (s := lG l i 2) (p := lG l i 3) hl j hj
        split
        · split <;> omega
        · exact b2
      -- the sums as they rise
      have goal := qLoop_end (step := fun k p => f_X8_ahead_41 N G (fun x0 x2 x3 x4 x5 x6 m0 => k (x0, x2, x3, x4, x5, x6, m0)) p.1 p.2.1 p.2.2.1 p.2.2.2.1 p.2.2.2.2.1 p.2.2.2.2.2.1 p.2.2.2.2.2.2)
        (fun j => (m, w, (i : Int), lG l i 2, sumN (fun j => if w = 0 then (if j < i then wZ (lG l i 2) (lG l i 3) (lG l j) else 0) else wB (lG l i 2) (lG l i 3) (lG l j)) j, (j : Int), μ1)) l.length N (r := some (sumN (fun j => if w = 0 then (if j < i then wZ (lG l i 2) (lG l i 3) (lG l j) else 0) else wB (lG l i 2) (lG l i 3) (lG l j)) l.length, μ1)) (by omega) (fun j hj k => ?_) (fun k => ?_)
      · have e : sumN (fun j => if w = 0 then (if j < i then wZ (lG l i 2) (lG l i 3) (lG l j) else 0) else wB (lG l i 2) (lG l i 3) (lG l j)) l.length = aAh l i w := by
          have q : ∀ (f : Nat → Int) (g : (Nat → Int) → Int) (c : Nat), c ≤ l.length → (∀ j, j < c → f j = g (lG l j)) → sumN f c = aS g (l.take c) := by
            intro f g c
            induction c with
            | zero => intro _ _; rfl
            | succ c ih =>
              intro hc hg
              rw [aS_take1 l (by omega), ← ih (by omega) (fun j hj => hg j (by omega)), ← hg c (by omega)]
              rfl
          unfold aAh
          by_cases d : w = 0
          · rw [if_pos d]
            have q1 := q (fun j => if w = 0 then (if j < i then wZ (lG l i 2) (lG l i 3) (lG l j) else 0) else wB (lG l i 2) (lG l i 3) (lG l j)) (wZ (lG l i 2) (lG l i 3)) i (by omega) (fun j hj => by rw [if_pos d, if_pos hj])
            rw [← q1]
            have q2 : ∀ e, sumN (fun j => if w = 0 then (if j < i then wZ (lG l i 2) (lG l i 3) (lG l j) else 0) else wB (lG l i 2) (lG l i 3) (lG l j)) (i + e) = sumN (fun j => if w = 0 then (if j < i then wZ (lG l i 2) (lG l i 3) (lG l j) else 0) else wB (lG l i 2) (lG l i 3) (lG l j)) i := by
              intro e
              induction e with
              | zero => rfl
              | succ e ih =>
                show sumN _ (i + e) + _ = _
                rw [ih]
                dsimp only
                rw [if_pos d, if_neg (show ¬ Nat.add i e < i from Nat.not_lt.mpr (Nat.le_add_right i e)), Int.add_zero]
            rw [show l.length = i + (l.length - i) by omega, q2]
          · rw [if_neg d, q _ (wB (lG l i 2) (lG l i 3)) l.length (Nat.le_refl _) (fun j hj => by rw [if_neg d]), List.take_length]
        rw [← e]
        exact goal
      · have b1 := sumN_bd (c := j) (fun j' hj' => hv j' (by omega))
        have b2 := hv j hj
        show f_X8_ahead_41 N G _ m w (i : Int) (lG l i 2) _ (j : Int) μ1 = k (m, w, (i : Int), lG l i 2, sumN _ j + (if w = 0 then (if j < i then wZ (lG l i 2) (lG l i 3) (lG l j) else 0) else wB (lG l i 2) (lG l i 3) (lG l j)), ((j + 1 : Nat) : Int), μ1)
        generalize hS : sumN (fun j => if w = 0 then (if j < i then wZ (lG l i 2) (lG l i 3) (lG l j) else 0) else wB (lG l i 2) (lG l i 3) (lG l j)) j = S at b1
        unfold f_X8_ahead_41 f_X8_ahead_97 f_X8_ahead_119 f_X8_ahead_138
        rw [hB.1, if_pos (by omega), kb2_p (z8_2 hB hn hj)]
        have q1 : ckI ((j : Int) + 1) = fun (kk : Int → Option (Int × qM)) => kk ((j + 1 : Nat) : Int) := by funext kk; rw [ckI_p ⟨by omega, by omega⟩, cast1]
        simp only [q1]
        unfold wZ wB aAt at b2 ⊢
        by_cases c1 : lG l j 2 = lG l i 2
        · rw [if_pos c1]
          by_cases d : w = 0
          · simp only [if_pos d] at b2 ⊢
            by_cases c2 : j < i
            · rw [if_pos (by omega), if_pos c2] at *
              rw [kb2_p (z8_3 hB hn hj), kb2_p (z8_3 hB hn hi)]
              by_cases c3 : lG l j 3 = lG l i 3
              · rw [if_pos (decide_eq_true ⟨c1, c3⟩)] at b2
                rw [if_pos c3, if_neg (by decide), kb2_p (z8_4 hB hn hj), ckI_p ⟨by omega, by omega⟩, if_pos (decide_eq_true ⟨c1, c3⟩)]
              · rw [if_neg c3, if_pos trivial, if_neg (by simp [c3]), Int.add_zero]
            · rw [if_neg (by omega), if_pos trivial, if_neg c2, Int.add_zero]
          · simp only [if_neg d] at b2 ⊢
            rw [kb2_p (z8_3 hB hn hj), kb2_p (z8_3 hB hn hi), kb2_p z_isBetter8, b01_ite]
            by_cases c3 : aBet (lG l i 2) (lG l j 3) (lG l i 3) = true
            · rw [if_pos ⟨c1, c3⟩] at b2
              rw [if_pos c3, if_pos ⟨c1, c3⟩, kb2_p (z8_4 hB hn hj), ckI_p ⟨by omega, by omega⟩]
            · rw [if_neg c3, if_neg (fun q => c3 q.2), Int.add_zero]
        · rw [if_neg c1]
          have e0 : (if w = 0 then (if j < i then (if decide (lG l j 2 = lG l i 2 ∧ lG l j 3 = lG l i 3) = true then lG l j 4 else 0) else 0) else if lG l j 2 = lG l i 2 ∧ aBet (lG l i 2) (lG l j 3) (lG l i 3) = true then lG l j 4 else 0) = 0 := by
            simp [c1]
          rw [e0, Int.add_zero]
      · show f_X8_ahead_41 N G _ m w (i : Int) (lG l i 2) _ (l.length : Int) μ1 = _
        unfold f_X8_ahead_41
        rw [hB.1, if_neg (by omega)]
    · rw [if_neg c, if_neg c]
      exact ⟨_, rfl, h1⟩
end AH
