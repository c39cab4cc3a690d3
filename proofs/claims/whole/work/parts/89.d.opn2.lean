/-! PURE: the course of a side stays in order -/
section OINV
variable {s p pr L1 : Int} {l L : List (Nat → Int)} {X : OS}
/-- what the k-th at the price loses -/
def oH (s L1 : Int) (X : OS) (k : Nat) : Int := if aS (wZ s X.2.2.2) X.1 ≤ X.2.2.1 then oS s X.2.2.2 X.1 k else oB s X.2.2.2 L1 X.2.2.1 X.1 k + oC s X.2.2.2 L1 X.2.2.1 X.1 k
theorem oStep_1 : (oStep s pr L1 X).1 = upL s X.2.2.2 (oH s L1 X) X.1 0 := by
  unfold oStep oH
  by_cases c : aS (wZ s X.2.2.2) X.1 ≤ X.2.2.1
  · rw [if_pos c]
    show upL s X.2.2.2 (oS s X.2.2.2 X.1) X.1 0 = _
    congr 1
    funext k
    rw [if_pos c]
  · rw [if_neg c]
    show upL s X.2.2.2 _ X.1 0 = _
    congr 1
    funext k
    rw [if_neg c]
theorem oStep_3 : (oStep s pr L1 X).2.2.1 = if aS (wZ s X.2.2.2) X.1 ≤ X.2.2.1 then X.2.2.1 - aS (wZ s X.2.2.2) X.1 else 0 := by
  unfold oStep
  split <;> rfl
theorem oStep_4 : (oStep s pr L1 X).2.2.2 = aNext s X.2.2.2 X.1 := by
  unfold oStep
  split <;> rfl
theorem oIv_v (h : oIv s X) : X.2.2.1 ≤ 60000 := by
  obtain ⟨h1, h2, h3, h4⟩ := h
  by_cases c : 0 < X.2.2.1
  · have hb := aS_bd (w := wSd s) (M := 1000) (l := X.1) (fun i hi => by have := (h1.2 i hi).2.2.2.2.1; unfold wSd; split <;> omega)
    have h60 := h1.1
    have := (h4 c).1
    omega
  · omega
/-- what it loses: no more than it has; all, where all go -/
theorem oH_bd (h : oIv s X) (hL1 : 1 ≤ L1 ∧ L1 ≤ 50) {k : Nat} (hk : k < (lvl s X.2.2.2 X.1).length) : 0 ≤ oH s L1 X k ∧ oH s L1 X k ≤ oS s X.2.2.2 X.1 k ∧ (aS (wZ s X.2.2.2) X.1 ≤ X.2.2.1 → oH s L1 X k = oS s X.2.2.2 X.1 k) := by
  have hv := oIv_v h
  obtain ⟨h1, h2, h3, h4⟩ := h
  have oo := oOk' (s := s) (p := X.2.2.2) (L1 := L1) (X := X) (L := X.1) h1 ⟨h3, hv⟩ hL1
  have hS := oo.2.1 k hk
  unfold oH
  by_cases c : aS (wZ s X.2.2.2) X.1 ≤ X.2.2.1
  · rw [if_pos c]; exact ⟨hS.1, Int.le_refl _, fun _ => rfl⟩
  · rw [if_neg c]
    have hK : X.2.2.1 ≤ sumN (oS s X.2.2.2 X.1) (lvl s X.2.2.2 X.1).length := by rw [oS_sum]; omega
    have a := shA_bd oo hk
    have b := shB_le oo hK hk
    have d := shC_le oo hK hk
    unfold oB oC
    exact ⟨by omega, by omega, fun q => absurd q c⟩
theorem oH_sum (h : oIv s X) (hL1 : 1 ≤ L1 ∧ L1 ≤ 50) : sumN (oH s L1 X) (lvl s X.2.2.2 X.1).length = min X.2.2.1 (aS (wZ s X.2.2.2) X.1) := by
  have hv := oIv_v h
  obtain ⟨h1, h2, h3, h4⟩ := h
  have oo := oOk' (s := s) (p := X.2.2.2) (L1 := L1) (X := X) (L := X.1) h1 ⟨h3, hv⟩ hL1
  by_cases c : aS (wZ s X.2.2.2) X.1 ≤ X.2.2.1
  · have e : sumN (oH s L1 X) (lvl s X.2.2.2 X.1).length = sumN (oS s X.2.2.2 X.1) (lvl s X.2.2.2 X.1).length := sumN_congr (fun i hi => by unfold oH; rw [if_pos c])
    rw [e, oS_sum]; omega
  · have hK : X.2.2.1 ≤ sumN (oS s X.2.2.2 X.1) (lvl s X.2.2.2 X.1).length := by rw [oS_sum]; omega
    have al := sh_all oo hK
    have a0 : sumN (shA (oS s X.2.2.2 X.1) (fun _ => 0) X.2.2.1) (lvl s X.2.2.2 X.1).length = 0 := by
      have e0 : ∀ c, sumN (fun _ => (0 : Int)) c = 0 := by
        intro c
        induction c with
        | zero => rfl
        | succ c ih => show sumN _ c + 0 = 0; omega
      refine Eq.trans (sumN_congr (f' := fun _ => (0 : Int)) (fun i hi => ?_)) (e0 _)
      have q1 := (shA_bd oo hi).1
      have q2 : shA (oS s X.2.2.2 X.1) (fun _ => 0) X.2.2.1 i ≤ 0 := (shA_bd oo hi).2.2.1
      show shA (oS s X.2.2.2 X.1) (fun _ => 0) X.2.2.1 i = 0
      omega
    have e : sumN (oH s L1 X) (lvl s X.2.2.2 X.1).length = sumN (oB s X.2.2.2 L1 X.2.2.1 X.1) (lvl s X.2.2.2 X.1).length + sumN (oC s X.2.2.2 L1 X.2.2.1 X.1) (lvl s X.2.2.2 X.1).length := by
      rw [← sumN_add]
      exact sumN_congr (fun i hi => by unfold oH; rw [if_neg c])
    rw [e]
    have e2 : sumN (oB s X.2.2.2 L1 X.2.2.1 X.1) (lvl s X.2.2.2 X.1).length = sumN (shB (oS s X.2.2.2 X.1) (fun _ => 0) X.2.2.1 L1 (lvl s X.2.2.2 X.1).length) (lvl s X.2.2.2 X.1).length := rfl
    have e3 : sumN (oC s X.2.2.2 L1 X.2.2.1 X.1) (lvl s X.2.2.2 X.1).length = sumN (shC (oS s X.2.2.2 X.1) (fun _ => 0) X.2.2.1 L1 (lvl s X.2.2.2 X.1).length) (lvl s X.2.2.2 X.1).length := rfl
    omega
theorem lvl_rk {i : Nat} (hi : i < l.length) (h : aAt s p (lG l i) = true) : (lvl s p (l.take i)).length < (lvl s p l).length ∧ lG (lvl s p l) (lvl s p (l.take i)).length = lG l i := by
  obtain ⟨g1, g2, -, -⟩ := flt_gen (p := aAt s p) hi h
  exact ⟨g1, g2⟩
theorem oStep_sz (h : oIv s X) (hL1 : 1 ≤ L1 ∧ L1 ≤ 50) {i : Nat} (hi : i < X.1.length) : (0 ≤ lG (oStep s pr L1 X).1 i 4 ∧ lG (oStep s pr L1 X).1 i 4 ≤ lG X.1 i 4) ∧ (¬ aAt s X.2.2.2 (lG X.1 i) = true → lG (oStep s pr L1 X).1 i = lG X.1 i) ∧ (aAt s X.2.2.2 (lG X.1 i) = true → aS (wZ s X.2.2.2) X.1 ≤ X.2.2.1 → lG (oStep s pr L1 X).1 i 4 = 0) := by
  have hz := (h.1.2 i hi).2.2.2.2.1
  rw [oStep_1, upL_at _ _ _ hi, Nat.zero_add]
  by_cases c : aAt s X.2.2.2 (lG X.1 i) = true
  · obtain ⟨r1, r2⟩ := lvl_rk hi c
    obtain ⟨b1, b2, b3⟩ := oH_bd h hL1 r1
    have e : oS s X.2.2.2 X.1 (lvl s X.2.2.2 (X.1.take i)).length = lG X.1 i 4 := by unfold oS; rw [r2]
    rw [if_pos c, upd1_s]
    exact ⟨⟨by omega, by omega⟩, fun q => absurd c q, fun _ q => by have := b3 q; omega⟩
  · rw [if_neg c]
    exact ⟨⟨hz.1, Int.le_refl _⟩, fun _ => rfl, fun q => absurd q c⟩
theorem oStep_inv (h : oIv s X) (hL1 : 1 ≤ L1 ∧ L1 ≤ 50) (hz : 0 < X.2.2.1) : oIv s (oStep s pr L1 X) := by
  have len : (oStep s pr L1 X).1.length = X.1.length := by rw [oStep_1, upL_len]
  have h' := h
  obtain ⟨h1, h2, h3, h4⟩ := h
  obtain ⟨k1, k2, k3, k4, k5⟩ := h4 hz
  have hb := aS_bd (w := wZ s X.2.2.2) (wZ_bd h1)
  have fo : ∀ i w, i < X.1.length → w ≠ 4 → lG (oStep s pr L1 X).1 i w = lG X.1 i w := fun i w hi hw => by rw [oStep_1]; exact upL_o hi hw
  refine ⟨⟨by rw [len]; exact h1.1, fun i hi => ?_⟩, fun i j hij hj => ?_, ?_, fun hz' => ?_⟩
  · rw [len] at hi
    have o := h1.2 i hi
    have := (oStep_sz (pr := pr) h' hL1 hi).1
    have hz4 := o.2.2.2.2.1
    unfold oOk
    rw [fo i 0 hi (by decide), fo i 1 hi (by decide), fo i 2 hi (by decide), fo i 3 hi (by decide), fo i 5 hi (by decide)]
    exact ⟨o.1, o.2.1, o.2.2.1, o.2.2.2.1, ⟨by omega, by omega⟩, o.2.2.2.2.2⟩
  · rw [len] at hj
    rw [fo i 0 (by omega) (by decide), fo j 0 hj (by decide)]
    exact h2 i j hij hj
  · rw [oStep_3]; split <;> omega
  · rw [oStep_3] at hz' ⊢
    have call : aS (wZ s X.2.2.2) X.1 ≤ X.2.2.1 := by
      by_cases c : aS (wZ s X.2.2.2) X.1 ≤ X.2.2.1
      · exact c
      · rw [if_neg c] at hz'; omega
    rw [if_pos call] at hz' ⊢
    rw [oStep_4]
    have sd : aS (wSd s) (oStep s pr L1 X).1 = aS (wSd s) X.1 - aS (wZ s X.2.2.2) X.1 := by
      rw [oStep_1, aS_sd_up, Nat.zero_add, oH_sum h' hL1]
      have : sumN (oH s L1 X) 0 = 0 := rfl
      omega
    -- there is one behind
    have ex : ∃ i, i < X.1.length ∧ lG X.1 i 2 = s ∧ aBet s X.2.2.2 (lG X.1 i 3) = true := by
      refine Decidable.byContradiction (fun hn => ?_)
      have : aS (wSd s) (oStep s pr L1 X).1 = 0 := aS_none (fun i hi => by
        rw [len] at hi
        unfold wSd
        by_cases c : lG (oStep s pr L1 X).1 i 2 = s
        · rw [if_pos c]
          rw [fo i 2 hi (by decide)] at c
          obtain ⟨a1, a2, a3⟩ := oStep_sz (pr := pr) h' hL1 hi
          by_cases d : aAt s X.2.2.2 (lG X.1 i) = true
          · exact a3 d call
          · have : ¬ 0 < lG X.1 i 4 := fun q => by
              have n1 := k4 i hi c q
              have n2 : ¬ aBet s X.2.2.2 (lG X.1 i 3) = true := fun q2 => hn ⟨i, hi, c, q2⟩
              exact d (decide_eq_true ⟨c, (aBet_tot n1 n2)⟩)
            omega
        · rw [if_neg c])
      omega
    obtain ⟨i0, hi0, s0, bt0⟩ := ex
    have price1 : ∀ i, i < X.1.length → 1 ≤ lG X.1 i 3 := fun i hi => (h1.2 i hi).2.2.2.1.1
    have nx := (aNext_max (s := s) (p := X.2.2.2) X.1 0 price1).2
    have n0 : aNext s X.2.2.2 X.1 ≠ 0 := (nx i0 hi0 s0 bt0).1
    rcases aNext_in (s := s) (p := X.2.2.2) X.1 0 with q | ⟨j, hj, c1, c2, c3⟩
    · exact absurd q n0
    · have c3' : aNext s X.2.2.2 X.1 = lG X.1 j 3 := c3
      refine ⟨by omega, n0, ⟨j, by rw [len]; exact hj, ?_⟩, fun i hi hs hp => ?_, fun i hi hs hb' => ?_⟩
      · unfold aAt
        rw [fo j 2 hj (by decide), fo j 3 hj (by decide)]
        exact decide_eq_true ⟨c1, c3'.symm⟩
      · rw [len] at hi
        rw [fo i 2 hi (by decide)] at hs
        rw [fo i 3 hi (by decide)]
        obtain ⟨a1, a2, a3⟩ := oStep_sz (pr := pr) h' hL1 hi
        have nat : ¬ aAt s X.2.2.2 (lG X.1 i) = true := fun q => by have := a3 q call; omega
        have n1 := k4 i hi hs (by omega)
        have bt : aBet s X.2.2.2 (lG X.1 i 3) = true := Decidable.byContradiction (fun q => nat (decide_eq_true ⟨hs, aBet_tot n1 q⟩))
        exact (nx i hi hs bt).2
      · rw [len] at hi
        rw [fo i 2 hi (by decide)] at hs
        rw [fo i 3 hi (by decide), c3'] at hb'
        have bt : aBet s X.2.2.2 (lG X.1 i 3) = true := Decidable.byContradiction (fun q => hb' (aBet_tr2 (p := X.2.2.2) (by
          intro q2
          exact q q2) c2 |> fun q3 => by
            -- the price isn't behind: so the next is behind it
            exact q3))
        have nat : ¬ aAt s X.2.2.2 (lG X.1 i) = true := fun q => by
          rw [(aAt_e q).2, aBet_ir] at bt
          cases bt
        rw [(oStep_sz (pr := pr) h' hL1 hi).2.1 nat]
        exact k5 i hi hs (aBet_as bt)
end OINV
