/-! PURE: the class's deal, and the reference's shares, compute (a), (b), (c) -/
def shNe (G : qG) (h : Nat) : Prop := (gR G 501 h ≠ gR G 503 h ∧ gR G 501 h ≠ gR G 504 h ∧ gR G 501 h ≠ gR G 505 h) ∧ (gR G 502 h ≠ gR G 503 h ∧ gR G 502 h ≠ gR G 504 h ∧ gR G 502 h ≠ gR G 505 h) ∧ gR G 503 h ≠ gR G 504 h ∧ gR G 503 h ≠ gR G 505 h ∧ gR G 504 h ≠ gR G 505 h
/-- what the sharing holds: c rows of sizes S with grants g -/
def shIn (G : qG) (h : Nat) (μ : qM) (S g : Nat → Int) (c : Nat) : Prop := gI μ 506 h = (c : Int) ∧ ∀ i, i < c → gA μ (gR G 501 h) i = S i ∧ gA μ (gR G 502 h) i = g i
theorem z_deal5 {N : Nat} {G : qG} {h : Nat} {μ : qM} {S g : Nat → Int} {K L : Int} {c : Nat} (hne : shNe G h) (hi : shIn G h μ S g c) (ho : shOk S g K L c) (hN : 100 < N) :
    f_X5_deal N G h K L μ = some (wrM (wrM (wrM μ (gR G 503 h) (shA S g K) c) (gR G 504 h) (shB S g K L c) c) (gR G 505 h) (shC S g K L c) c) := by
  obtain ⟨⟨n1, n2, n3⟩, ⟨m1, m2, m3⟩, n34, n35, n45⟩ := hne
  have hc := ho.1
  have hK := ho.2.2.2.1
  -- the third loop
  have L3 : ∀ μ2 : qM, gI μ2 506 h = (c : Int) → (∀ i, i < c → gA μ2 (gR G 501 h) i = S i) → (∀ i, i < c → gA μ2 (gR G 503 h) i = shA S g K i) → (∀ i, i < c → gA μ2 (gR G 504 h) i = shB S g K L c i) → f_X5_deal_L145 N G h (shM2 S g K L c c) 0 μ2 = some (wrM μ2 (gR G 505 h) (shC S g K L c) c) := by
    intro μ2 e1 e2 e3 e4
    unfold f_X5_deal_L145
    refine qLoop_end (fun j => (h, shR S g K L c j, (j : Int), wrM μ2 (gR G 505 h) (shC S g K L c) j)) c N (by omega) (fun j hj k => ?_) (fun k => ?_)
    · show f_X5_deal_145 N G _ h (shR S g K L c j) (j : Int) (wrM μ2 (gR G 505 h) (shC S g K L c) j) = k (h, shR S g K L c (j + 1), ((j + 1 : Nat) : Int), wrM μ2 (gR G 505 h) (shC S g K L c) (j + 1))
      obtain ⟨w1, w2, w3, w4, w5⟩ := wrM_at (μ := μ2) (a := gR G 505 h) (f := shC S g K L c) j
      have b1 := shA_bd ho hj
      have b2 := shB_bd ho hj
      have b3 := ho.2.1 j hj
      have b4 := shR_bd ho j (by omega)
      have b5 := shR_bd ho (j + 1) (by omega)
      unfold f_X5_deal_145
      rw [w1, e1, if_pos (by omega), rdA_p ⟨by omega, by omega⟩, rdA_p ⟨by omega, by omega⟩, Int.toNat_natCast, w3 _ _ n3, w3 _ _ n35, e2 j hj, e3 j hj, ckI_p ⟨by omega, by omega⟩, rdA_p ⟨by omega, by omega⟩, Int.toNat_natCast, w3 _ _ n45, e4 j hj, ckI_p ⟨by omega, by omega⟩, kp_p, wrA_p ⟨by omega, by omega⟩, rdA_p ⟨by omega, by omega⟩, Int.toNat_natCast, gA_s]
      have e5 : shR S g K L c j - min (shR S g K L c j) (S j - shA S g K j - shB S g K L c j) = shR S g K L c (j + 1) := rfl
      rw [e5, ckI_p (show in32 (shR S g K L c (j + 1)) from ⟨by omega, by omega⟩), ckI_p ⟨by omega, by omega⟩, cast1]
      rfl
    · show f_X5_deal_145 N G _ h (shR S g K L c c) (c : Int) (wrM μ2 (gR G 505 h) (shC S g K L c) c) = _
      unfold f_X5_deal_145
      rw [(wrM_at c).1, e1, if_neg (by omega)]
  -- the second
  have L2 : ∀ μ1 : qM, gI μ1 506 h = (c : Int) → (∀ i, i < c → gA μ1 (gR G 501 h) i = S i) → (∀ i, i < c → gA μ1 (gR G 503 h) i = shA S g K i) → f_X5_deal_L87 N G h L (shL S g K c) (shZ S g K c) (shL S g K c) 0 μ1 = some (wrM (wrM μ1 (gR G 504 h) (shB S g K L c) c) (gR G 505 h) (shC S g K L c) c) := by
    intro μ1 e1 e2 e3
    unfold f_X5_deal_L87
    have s0 : shM2 S g K L c 0 = shL S g K c := by show shL S g K c - 0 = _; omega
    have goal := qLoop_end (step := fun k p => f_X5_deal_87 N G (fun x0 x2 x3 x4 x5 x6 m0 => k (x0, x2, x3, x4, x5, x6, m0)) p.1 p.2.1 p.2.2.1 p.2.2.2.1 p.2.2.2.2.1 p.2.2.2.2.2.1 p.2.2.2.2.2.2) (fun j => (h, L, shM2 S g K L c j, shZ S g K c, shL S g K c, (j : Int), wrM μ1 (gR G 504 h) (shB S g K L c) j)) c N (r := some (wrM (wrM μ1 (gR G 504 h) (shB S g K L c) c) (gR G 505 h) (shC S g K L c) c)) (by omega) (fun j hj k => ?_) (fun k => ?_)
    · rw [s0] at goal
      exact goal
    · show f_X5_deal_87 N G _ h L (shM2 S g K L c j) (shZ S g K c) (shL S g K c) (j : Int) (wrM μ1 (gR G 504 h) (shB S g K L c) j) = k (h, L, shM2 S g K L c (j + 1), shZ S g K c, shL S g K c, ((j + 1 : Nat) : Int), wrM μ1 (gR G 504 h) (shB S g K L c) (j + 1))
      obtain ⟨w1, w2, w3, w4, w5⟩ := wrM_at (μ := μ1) (a := gR G 504 h) (f := shB S g K L c) j
      have b1 := shA_bd ho hj
      have b3 := ho.2.1 j hj
      have b4 := shL_bd ho c (Nat.le_refl _)
      have b5 := shM2_bd ho (j + 1) (by omega)
      unfold f_X5_deal_87
      rw [w1, e1, if_pos (by omega), rdA_p ⟨by omega, by omega⟩, rdA_p ⟨by omega, by omega⟩, Int.toNat_natCast, w3 _ _ n2, w3 _ _ n34, e2 j hj, e3 j hj, ckI_p ⟨by omega, by omega⟩, kb2_p (z_portion5 ⟨by omega, by omega⟩ ⟨by omega, by omega⟩), wrA_p ⟨by omega, by omega⟩, rdA_p ⟨by omega, by omega⟩, Int.toNat_natCast, gA_s]
      have e5 : shM2 S g K L c j - portion (shL S g K c) (S j - shA S g K j) (shZ S g K c) L = shM2 S g K L c (j + 1) := by
        show shL S g K c - sumN (shB S g K L c) j - shB S g K L c j = shL S g K c - (sumN (shB S g K L c) j + shB S g K L c j)
        omega
      rw [e5, ckI_p (show in32 (shM2 S g K L c (j + 1)) from ⟨by omega, by omega⟩), ckI_p ⟨by omega, by omega⟩, cast1]
      rfl
    · show f_X5_deal_87 N G _ h L (shM2 S g K L c c) (shZ S g K c) (shL S g K c) (c : Int) (wrM μ1 (gR G 504 h) (shB S g K L c) c) = _
      obtain ⟨w1, w2, w3, w4, w5⟩ := wrM_at (μ := μ1) (a := gR G 504 h) (f := shB S g K L c) c
      unfold f_X5_deal_87
      rw [w1, e1, if_neg (by omega)]
      exact L3 _ (by rw [w1, e1]) (fun i hi => by rw [w3 _ _ n2]; exact e2 i hi) (fun i hi => by rw [w3 _ _ n34]; exact e3 i hi) w4
  -- the first
  unfold f_X5_deal f_X5_deal_L8
  refine qLoop_end (fun j => (h, L, shL S g K j, shZ S g K j, (j : Int), wrM μ (gR G 503 h) (shA S g K) j)) c N (by omega) (fun j hj k => ?_) (fun k => ?_)
  · show f_X5_deal_8 N G _ h L (shL S g K j) (shZ S g K j) (j : Int) (wrM μ (gR G 503 h) (shA S g K) j) = k (h, L, shL S g K (j + 1), shZ S g K (j + 1), ((j + 1 : Nat) : Int), wrM μ (gR G 503 h) (shA S g K) (j + 1))
    obtain ⟨w1, w2, w3, w4, w5⟩ := wrM_at (μ := μ) (a := gR G 503 h) (f := shA S g K) j
    have b1 := shA_bd ho hj
    have b3 := ho.2.1 j hj
    have b4 := shL_bd ho (j + 1) (by omega)
    have b5 := shZ_bd ho (j + 1) (by omega)
    unfold f_X5_deal_8
    have ea : min (shL S g K j) (min (S j) (g j)) = shA S g K j := rfl
    rw [w1, hi.1, if_pos (by omega), rdA_p ⟨by omega, by omega⟩, rdA_p ⟨by omega, by omega⟩, Int.toNat_natCast, w3 _ _ n1, w3 _ _ m1, (hi.2 j hj).1, (hi.2 j hj).2, kp_p, kp_p, ea, wrA_p ⟨by omega, by omega⟩, rdA_p ⟨by omega, by omega⟩, Int.toNat_natCast, gA_s]
    have e5 : shL S g K j - shA S g K j = shL S g K (j + 1) := rfl
    have e6 : shZ S g K j + (S j - shA S g K j) = shZ S g K (j + 1) := rfl
    rw [e5, ckI_p (show in32 (shL S g K (j + 1)) from ⟨by omega, by omega⟩), rdA_p ⟨by omega, by omega⟩, rdA_p ⟨by omega, by omega⟩, Int.toNat_natCast, gA_s, gA_a n1, w3 _ _ n1, (hi.2 j hj).1, ckI_p ⟨by omega, by omega⟩]
    rw [e6, ckI_p (show in32 (shZ S g K (j + 1)) from ⟨by omega, by omega⟩), ckI_p ⟨by omega, by omega⟩, cast1]
    rfl
  · show f_X5_deal_8 N G _ h L (shL S g K c) (shZ S g K c) (c : Int) (wrM μ (gR G 503 h) (shA S g K) c) = _
    obtain ⟨w1, w2, w3, w4, w5⟩ := wrM_at (μ := μ) (a := gR G 503 h) (f := shA S g K) c
    unfold f_X5_deal_8
    rw [w1, hi.1, if_neg (by omega)]
    exact L2 _ (by rw [w1, hi.1]) (fun i hii => by rw [w3 _ _ n1]; exact (hi.2 i hii).1) w4
