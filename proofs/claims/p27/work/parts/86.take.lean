/-! PURE: 'takeFor' on both sides -/
def tHas (S g : Nat → Int) (K L : Int) (c r : Nat) : Int := shA S g K r + shB S g K L c r + shC S g K L c r
/-- the least take by which row r has W at least -/
def tfLeast (S g : Nat → Int) (L : Int) (c r : Nat) (W v : Int) : Prop := 1 ≤ v ∧ v ≤ sumN S c ∧ W ≤ tHas S g v L c r ∧ ∀ K, 1 ≤ K → K < v → tHas S g K L c r < W
theorem tfLeast.uq {S g : Nat → Int} {L : Int} {c r : Nat} {W v w : Int} (h1 : tfLeast S g L c r W v) (h2 : tfLeast S g L c r W w) : v = w := by
  rcases Int.lt_trichotomy v w with q | q | q
  · have := h2.2.2.2 v h1.1 q; have := h1.2.2.1; omega
  · exact q
  · have := h1.2.2.2 w h2.1 q; have := h2.2.2.1; omega
/-- what is alike in all that takeFor does: rows, their order, no second grant -/
def tfIn (S g : Nat → Int) (L : Int) (c r : Nat) (W : Int) : Prop := shOk S g 0 L c ∧ sumN S c ≤ 60000 ∧ r < c ∧ 1 ≤ S r ∧ (W = 1 ∨ W = S r) ∧ ∀ j, j < c → 0 < g r → 0 < g j → j = r
theorem tfIn.ok {S g : Nat → Int} {L K : Int} {c r : Nat} {W : Int} (h : tfIn S g L c r W) (hK : 0 ≤ K ∧ K ≤ 60000) : shOk S g K L c := ⟨h.1.1, h.1.2.1, h.1.2.2.1, hK, h.1.2.2.2.2⟩
theorem tfIn.all {S g : Nat → Int} {L : Int} {c r : Nat} {W : Int} (h : tfIn S g L c r W) : 1 ≤ sumN S c ∧ S r ≤ sumN S c ∧ W ≤ tHas S g (sumN S c) L c r := by
  have h1 := sumN_one (f := S) (fun i hi => (h.1.2.1 i hi).1) h.2.2.1
  have h2 := h.2.2.2.1
  have h3 := h.2.1
  have h4 := sh_fill (K := sumN S c) (h.ok ⟨by omega, by omega⟩) rfl h.2.2.1
  have h5 := h.2.2.2.2.1
  unfold tHas
  refine ⟨by omega, by omega, by omega⟩
/-- by the grant alone -/
theorem tf_grant {S g : Nat → Int} {L : Int} {c r : Nat} {W : Int} (h : tfIn S g L c r W) (hW : W ≤ min (S r) (g r)) : tfLeast S g L c r W W := by
  have h1 := h.all
  have h2 := h.2.2.2.1
  have h5 := h.2.2.2.2.1
  have h60 := h.2.1
  have ho := h.ok (K := W) ⟨by omega, by omega⟩
  have z : ∀ j, j < r → g j = 0 := fun j hj => by
    have b := h.1.2.2.1 j (by have := h.2.2.1; omega)
    by_cases q : 0 < g j
    · have := h.2.2.2.2.2 j (by have := h.2.2.1; omega) (by omega) q; omega
    · omega
  have e : ∀ i, i ≤ r → shL S g W i = W := by
    intro i
    induction i with
    | zero => intro _; rfl
    | succ i ih =>
      intro hi
      have a := ih (by omega)
      have b := z i (by omega)
      have b2 := h.1.2.1 i (by have := h.2.2.1; omega)
      show shL S g W i - min (shL S g W i) (min (S i) (g i)) = W
      omega
  have hA : shA S g W r = W := by unfold shA; rw [e r (Nat.le_refl _)]; omega
  refine ⟨by omega, by omega, ?_, fun K hK1 hK2 => ?_⟩
  · have := shC_le ho (by omega) h.2.2.1
    have := (shB_bd ho h.2.2.1).1
    unfold tHas
    omega
  · have := (sh_leK (h.ok (K := K) ⟨by omega, by omega⟩) (by omega) h.2.2.1).2.1
    unfold tHas
    omega
section TFP
variable {N : Nat} {G : qG} {μ ν : qM} {S g : Nat → Int} {L W : Int} {c r : Nat}
theorem z_idle5 {h : Nat} {K R : Int} (hi : tfIn S g L c r W) (hK : 0 ≤ K ∧ K ≤ sumN S c) (hR : R = shL S g K c) (h6 : gI μ 506 h = (c : Int)) (h1 : ∀ k, k < c → gA μ (gR G 501 h) k = S k)
    (hr : ∀ k, k < c → gA μ (gR G 503 h) k = shA S g K k ∧ gA μ (gR G 504 h) k = shB S g K L c k) (hN : 100 < N) :
    f_X5_idleStep N G h (r : Int) R W L μ = some (tfStep S g K L c r W, μ) ∧ -1000000 ≤ tfStep S g K L c r W ∧ tfStep S g K L c r W ≤ 1000000 := by
  have ho := hi.ok (K := K) ⟨hK.1, by have := hi.2.1; omega⟩
  have hrc := hi.2.2.1
  have hc := ho.1
  have hS1 := hi.2.2.2.1
  have hW := hi.2.2.2.2.1
  have hL := ho.2.2.2.2
  have hKb := ho.2.2.2.1
  have bS := ho.2.1 r hrc
  have bA := shA_bd ho hrc
  have hl := shL_bd ho c (Nat.le_refl _)
  have bs : ∀ j, j < c → 0 ≤ S j - shA S g K j ∧ S j - shA S g K j ≤ 1000 := fun j hj => by have := ho.2.1 j hj; have := shA_bd ho hj; omega
  have bB : ∀ j, j < c → 0 ≤ shB S g K L c j ∧ shB S g K L c j ≤ 60000 := fun j hj => by have := shB_bd ho hj; omega
  have bZ := shZ_bd ho c (Nat.le_refl _)
  -- the three sums as they rise
  have s5 : ∀ j, j ≤ c → 0 ≤ sumN (fun i => S i - shA S g K i) j ∧ sumN (fun i => S i - shA S g K i) j ≤ 1000 * (j : Int) := fun j hj => sumN_bd (fun i hi' => bs i (by omega))
  have s6 : ∀ j, j ≤ c → 0 ≤ sumN (fun i => if i < r then S i - shA S g K i else 0) j ∧ sumN (fun i => if i < r then S i - shA S g K i else 0) j ≤ 1000 * (j : Int) := fun j hj => sumN_bd (fun i hi' => by have := bs i (by omega); split <;> omega)
  have s7 : ∀ j, j ≤ c → 0 ≤ sumN (fun i => if r < i then shB S g K L c i else 0) j ∧ sumN (fun i => if r < i then shB S g K L c i else 0) j ≤ 60000 * (j : Int) := fun j hj => sumN_bd (fun i hi' => by have := bB i (by omega); split <;> omega)
  have eh := sumN_hh (f := fun i => S i - shA S g K i) (Nat.le_of_lt hrc)
  have hmw := mul_bd2 (a := L) (b := shZ S g K c) (A := 50) (B := 68000) ⟨by omega, hL.2⟩ ⟨bZ.1, by omega⟩
  have hlack : -5000000 ≤ (min W (S r - shA S g K r) + sumN (fun i => S i - shA S g K i) r) - (shL S g K c - sumN (fun i => if r < i then shB S g K L c i else 0) c) ∧ (min W (S r - shA S g K r) + sumN (fun i => S i - shA S g K i) r) - (shL S g K c - sumN (fun i => if r < i then shB S g K L c i else 0) c) ≤ 5000000 := by
    have := s5 r (by omega)
    have := s7 c (Nat.le_refl _)
    omega
  have hown := tdiv_bd (a := L * shZ S g K c + S r - 1) (z := S r) (M := 3402000) ⟨by omega, by omega⟩ (by omega)
  have hbsum : sumN (fun i => if r < i then shB S g K L c i else 0) c ≤ 60000 := by
    have q1 := sumN_tl (f := shB S g K L c) hrc
    have q2 := shB_sum ho hK.2
    have q3 := sumN_pos (f := shB S g K L c) (c := r + 1) (fun i hi' => (bB i (by omega)).1)
    omega
  have hsr : sumN (fun i => S i - shA S g K i) r ≤ 68000 := by have := s5 r (by omega); omega
  refine ⟨?_, ?_, ?_⟩
  · subst hR
    unfold f_X5_idleStep
    rw [rdA_p ⟨by omega, by omega⟩, rdA_p ⟨by omega, by omega⟩, Int.toNat_natCast, h1 r hrc, (hr r hrc).1, ckI_p ⟨by omega, by omega⟩, kp_p]
    unfold f_X5_idleStep_L28
    have goal := qLoop_end (step := fun k p => f_X5_idleStep_28 N G (fun x0 x1 x2 x3 x4 x5 x6 x7 x8 m0 => k (x0, x1, x2, x3, x4, x5, x6, x7, x8, m0)) p.1 p.2.1 p.2.2.1 p.2.2.2.1 p.2.2.2.2.1 p.2.2.2.2.2.1 p.2.2.2.2.2.2.1 p.2.2.2.2.2.2.2.1 p.2.2.2.2.2.2.2.2.1 p.2.2.2.2.2.2.2.2.2)
      (fun j => (h, (r : Int), shL S g K c, W, L, sumN (fun i => S i - shA S g K i) j, min W (S r - shA S g K r) + sumN (fun i => if i < r then S i - shA S g K i else 0) j, sumN (fun i => if r < i then shB S g K L c i else 0) j, (j : Int), μ)) c N (r := some (tfStep S g K L c r W, μ)) (by omega) (fun j hj k => ?_) (fun k => ?_)
    · have e0 : min W (S r - shA S g K r) + sumN (fun i => if i < r then S i - shA S g K i else 0) 0 = min W (S r - shA S g K r) := by show _ + 0 = _; omega
      rw [e0] at goal
      exact goal
    · show f_X5_idleStep_28 N G _ h (r : Int) (shL S g K c) W L (sumN (fun i => S i - shA S g K i) j) (min W (S r - shA S g K r) + sumN (fun i => if i < r then S i - shA S g K i else 0) j) (sumN (fun i => if r < i then shB S g K L c i else 0) j) (j : Int) μ = k (h, (r : Int), shL S g K c, W, L, sumN (fun i => S i - shA S g K i) j + (S j - shA S g K j), min W (S r - shA S g K r) + (sumN (fun i => if i < r then S i - shA S g K i else 0) j + (if j < r then S j - shA S g K j else 0)), sumN (fun i => if r < i then shB S g K L c i else 0) j + (if r < j then shB S g K L c j else 0), ((j + 1 : Nat) : Int), μ)
      have b5 := s5 j (by omega)
      have b6 := s6 j (by omega)
      have b7 := s7 j (by omega)
      have bsj := bs j hj
      have bBj := bB j hj
      generalize sumN (fun i => S i - shA S g K i) j = z5 at *
      generalize sumN (fun i => if i < r then S i - shA S g K i else 0) j = z6 at *
      generalize sumN (fun i => if r < i then shB S g K L c i else 0) j = z7 at *
      unfold f_X5_idleStep_28
      rw [h6, if_pos (by omega), rdA_p ⟨by omega, by omega⟩, rdA_p ⟨by omega, by omega⟩, Int.toNat_natCast, h1 j hj, (hr j hj).1, ckI_p ⟨by omega, by omega⟩, ckI_p ⟨by omega, by omega⟩]
      unfold f_X5_idleStep_75 f_X5_idleStep_97
      by_cases q1 : j < r
      · rw [if_pos (by omega), if_pos q1, if_neg (show ¬ r < j by omega), ckI_p ⟨by omega, by omega⟩, if_neg (by omega), ckI_p ⟨by omega, by omega⟩, ckI_p ⟨by omega, by omega⟩, cast1, Int.add_assoc]
      · rw [if_neg (by omega), if_neg q1, ckI_p ⟨by omega, by omega⟩]
        by_cases q2 : r < j
        · rw [if_pos (by omega), if_pos q2, rdA_p ⟨by omega, by omega⟩, Int.toNat_natCast, (hr j hj).2, ckI_p ⟨by omega, by omega⟩, ckI_p ⟨by omega, by omega⟩, cast1, Int.add_assoc]
        · rw [if_neg (by omega), if_neg q2, ckI_p ⟨by omega, by omega⟩, ckI_p ⟨by omega, by omega⟩, cast1, Int.add_assoc]
    · show f_X5_idleStep_28 N G _ h (r : Int) (shL S g K c) W L (sumN (fun i => S i - shA S g K i) c) (min W (S r - shA S g K r) + sumN (fun i => if i < r then S i - shA S g K i else 0) c) (sumN (fun i => if r < i then shB S g K L c i else 0) c) (c : Int) μ = _
      have e5 : sumN (fun i => S i - shA S g K i) c = shZ S g K c := rfl
      have b7 := s7 c (Nat.le_refl _)
      unfold f_X5_idleStep_28 tfStep
      rw [h6, if_neg (by omega), eh, e5, ckI_p ⟨by omega, by omega⟩, ckI_p ⟨by omega, by omega⟩]
      by_cases q : 1 < W
      · rw [if_pos q, if_pos q]
      · rw [if_neg q, if_neg q, rdA_p ⟨by omega, by omega⟩, Int.toNat_natCast, h1 r hrc, if_pos (by omega), ckI_p ⟨by omega, by omega⟩, rdA_p ⟨by omega, by omega⟩, Int.toNat_natCast, h1 r hrc, ckI_p ⟨by omega, by omega⟩, ckI_p ⟨by omega, by omega⟩, rdA_p ⟨by omega, by omega⟩, Int.toNat_natCast, h1 r hrc, ckD_p (by omega), ckI_p ⟨by omega, by omega⟩, ckI_p ⟨by omega, by omega⟩, kp_p]
  · unfold tfStep
    have b7 := s7 c (Nat.le_refl _)
    have b5 := s5 r (by omega)
    split <;> omega
  · unfold tfStep
    split <;> omega
theorem z_least5 {ρ : Nat → Nat × Nat} {f : Nat} (hy : cLay G ρ f) (hi : tfIn S g L c r W) {O : Nat → Nat} {o : Nat} (h6 : gI μ 506 (gR G 202 f) = (c : Int)) (h7 : gI μ 507 (gR G 202 f) = sumN S c)
    (hr : ∀ k, k < c → gQ μ (gR G 500 (gR G 202 f)) k = some (O k) ∧ gA μ (gR G 501 (gR G 202 f)) k = S k ∧ gA μ (gR G 502 (gR G 202 f)) k = g k) (hO : ∀ k, k < c → gK G (O k) = 5 ∧ (O k = o ↔ k = r)) (hN : 100000 < N) :
    ∃ v ν, f_X5_leastTake N G (gR G 202 f) o W L μ = some (v, ν) ∧ dP ρ (pSh f) μ ν ∧ tfLeast S g L c r W v := by
  have hrc := hi.2.2.1
  have hc := hi.1.1
  have hS1 := hi.2.2.2.1
  have hW := hi.2.2.2.2.1
  have h60 := hi.2.1
  have hall := hi.all
  have bS := hi.1.2.1
  have bg := hi.1.2.2.1
  have hL := hi.1.2.2.2.2
  have bm : ∀ i, i < c → 0 ≤ min (S i) (g i) ∧ min (S i) (g i) ≤ 1000 := fun i hi' => by have := bS i hi'; have := bg i hi'; omega
  have sm : ∀ j, j ≤ c → 0 ≤ sumN (fun i => min (S i) (g i)) j ∧ sumN (fun i => min (S i) (g i)) j ≤ 1000 * (j : Int) := fun j hj => sumN_bd (fun i hi' => bm i (by omega))
  generalize hh : gR G 202 f = h at *
  unfold f_X5_leastTake f_X5_leastTake_L9
  -- the first loop comes to its end
  have first : qLoop (fun k p => f_X5_leastTake_9 N G (fun x0 x1 x2 x3 x4 x5 x6 m0 => k (x0, x1, x2, x3, x4, x5, x6, m0)) p.1 p.2.1 p.2.2.1 p.2.2.2.1 p.2.2.2.2.1 p.2.2.2.2.2.1 p.2.2.2.2.2.2.1 p.2.2.2.2.2.2.2) N (h, o, W, L, 0, 0, 0, μ) =
      if min (S r) (g r) < W then f_X5_leastTake_L98 N G h W L (r : Int) (sumN (fun i => min (S i) (g i)) c) (sumN (fun i => min (S i) (g i)) c + 1) μ else some (W, μ) := by
    have goal := qLoop_end (step := fun k p => f_X5_leastTake_9 N G (fun x0 x1 x2 x3 x4 x5 x6 m0 => k (x0, x1, x2, x3, x4, x5, x6, m0)) p.1 p.2.1 p.2.2.1 p.2.2.2.1 p.2.2.2.2.1 p.2.2.2.2.2.1 p.2.2.2.2.2.2.1 p.2.2.2.2.2.2.2)
      (fun j => (h, o, W, L, (if r < j then (r : Int) else 0), sumN (fun i => min (S i) (g i)) j, (j : Int), μ)) c N (r := if min (S r) (g r) < W then f_X5_leastTake_L98 N G h W L (r : Int) (sumN (fun i => min (S i) (g i)) c) (sumN (fun i => min (S i) (g i)) c + 1) μ else some (W, μ)) (by omega) (fun j hj k => ?_) (fun k => ?_)
    · rw [if_neg (by omega)] at goal
      exact goal
    · show f_X5_leastTake_9 N G _ h o W L (if r < j then (r : Int) else 0) (sumN (fun i => min (S i) (g i)) j) (j : Int) μ = k (h, o, W, L, (if r < j + 1 then (r : Int) else 0), sumN (fun i => min (S i) (g i)) j + min (S j) (g j), ((j + 1 : Nat) : Int), μ)
      have b1 := sm j (by omega)
      have b2 := bm j hj
      have tail : ∀ rr : Int, rr = (if r < j + 1 then (r : Int) else 0) → f_X5_leastTake_36 N G (fun x0 x1 x2 x3 x4 x5 x6 m0 => k (x0, x1, x2, x3, x4, x5, x6, m0)) h o W L (sumN (fun i => min (S i) (g i)) j) (j : Int) rr μ = k (h, o, W, L, (if r < j + 1 then (r : Int) else 0), sumN (fun i => min (S i) (g i)) j + min (S j) (g j), ((j + 1 : Nat) : Int), μ) := by
        intro rr hrr
        unfold f_X5_leastTake_36
        rw [rdA_p ⟨by omega, by omega⟩, rdA_p ⟨by omega, by omega⟩, Int.toNat_natCast, (hr j hj).2.1, (hr j hj).2.2, kp_p, ckI_p ⟨by omega, by omega⟩, ckI_p ⟨by omega, by omega⟩, cast1, hrr]
      unfold f_X5_leastTake_9
      rw [h6, if_pos (by omega), rdQ_p (o := O j) ⟨by omega, by omega⟩ (by rw [Int.toNat_natCast]; exact (hr j hj).1) (hO j hj).1]
      by_cases q : O j = o
      · have := (hO j hj).2.mp q
        subst this
        rw [if_pos q]
        exact tail _ (by rw [if_pos (by omega)])
      · have hne : j ≠ r := fun e => q ((hO j hj).2.mpr e)
        rw [if_neg q]
        refine tail _ ?_
        by_cases q2 : r < j
        · rw [if_pos q2, if_pos (by omega)]
        · rw [if_neg q2, if_neg (by omega)]
    · show f_X5_leastTake_9 N G _ h o W L (if r < c then (r : Int) else 0) (sumN (fun i => min (S i) (g i)) c) (c : Int) μ = _
      have b1 := sm c (Nat.le_refl _)
      unfold f_X5_leastTake_9
      rw [h6, if_neg (by omega), if_pos hrc, rdA_p ⟨by omega, by omega⟩, rdA_p ⟨by omega, by omega⟩, Int.toNat_natCast, (hr r hrc).2.1, (hr r hrc).2.2, kp_p, ckI_p ⟨by omega, by omega⟩]
  have first' := first
  rw [first']
  by_cases cg : min (S r) (g r) < W
  · rw [if_pos cg]
    have bG := sm c (Nat.le_refl _)
    -- by the grants alone it has not what is wanted
    have small : ∀ K, 1 ≤ K → K ≤ sumN (fun i => min (S i) (g i)) c → K ≤ sumN S c → tHas S g K L c r < W := by
      intro K k1 k2 k3
      have := tf_none (hi.ok (K := K) ⟨by omega, by omega⟩) k2 hrc
      unfold tHas
      omega
    generalize hG0 : sumN (fun i => min (S i) (g i)) c = G0 at *
    have e : sumN S c = ((sumN S c).toNat : Int) := by omega
    unfold f_X5_leastTake_L98
    refine qLoop_inv
      (fun i st => ∃ (K : Int) (mem : qM), st = (h, W, L, (r : Int), G0, K, mem) ∧ dP ρ (pSh f) μ mem ∧ (∀ gg a, gI mem gg a = gI μ gg a) ∧ (∀ j, gA mem (gR G 501 h) j = gA μ (gR G 501 h) j) ∧ (∀ j, gA mem (gR G 502 h) j = gA μ (gR G 502 h) j) ∧ G0 + 1 + (i : Int) ≤ K ∧ K ≤ 2000000 ∧ ∀ K', 1 ≤ K' → K' < K → K' ≤ sumN S c → tHas S g K' L c r < W)
      (fun res => ∃ v ν, res = some (v, ν) ∧ dP ρ (pSh f) μ ν ∧ tfLeast S g L c r W v) (sumN S c).toNat ?_ ?_ (sumN S c).toNat 0 N _ (by omega) (by omega) ?_
    · rintro i st hii ⟨K, mem, rfl, d0, d1, d2, d3, k1, k2, k3⟩
      by_cases q : K < sumN S c
      · have oo := hi.ok (K := K) ⟨by omega, by omega⟩
        obtain ⟨mem', e1, e2, e3, e4, e5, e6, e7⟩ := z_deal (N := N) (μ := mem) (S := S) (g := g) (c := c) hy (by rw [hh, d1]; exact h6) (fun k hk => by rw [hh, d2, d3]; exact (hr k hk).2) oo (by omega)
        rw [hh] at e1 e5 e6 e7
        obtain ⟨v1, v2, v3⟩ := e7 r hrc
        have pa : f_X5_partAt N G h (r : Int) 0 mem' = some (jP (shA S g K r) (shB S g K L c r) (shC S g K L c r) 0, mem') := z_partAt5 (by omega) v1 v2 v3 (jABC_bd oo r hrc) (by decide)
        have eP : jP (shA S g K r) (shB S g K L c r) (shC S g K L c r) 0 = tHas S g K L c r := if_pos rfl
        rw [eP] at pa
        have idl := z_idle5 (N := N) (μ := mem') (h := h) (K := K) (R := K - G0) hi ⟨by omega, by omega⟩ (by
            have := (shA_ge (S := S) (g := g) (K := K) (c := c) (fun i hi' => (bm i hi').1) (by rw [hG0]; omega) c (Nat.le_refl _)).1
            rw [hG0] at this; omega) (by rw [e3, d1]; exact h6) (fun k hk => by rw [e5, d2]; exact (hr k hk).2.1) (fun k hk => ⟨(e7 k hk).1, (e7 k hk).2.1⟩) (by omega)
        by_cases q2 : tHas S g K L c r < W
        · refine Or.inr ⟨_, ⟨K + max 1 (tfStep S g K L c r W), mem', rfl, d0.tr e2, fun gg a => by rw [e3, d1], fun j => by rw [e5, d2], fun j => by rw [e6, d3], by omega, by omega, fun K' a1 a2 a3 => ?_⟩, fun k => ?_⟩
          · by_cases q3 : K' < K
            · exact k3 K' a1 q3 a3
            · by_cases q4 : K' = K
              · rw [q4]; exact q2
              · refine Int.not_le.mp (fun q5 => ?_)
                have := tf_leap (K' := K') oo (by rw [hG0]; omega) (by omega) a3 h60 hrc hS1 hW cg q5
                omega
          · show f_X5_leastTake_98 N G _ h W L (r : Int) G0 K mem = _
            unfold f_X5_leastTake_98
            rw [d1, h7, if_pos q, kb_p e1, kb2_p pa, if_pos q2, ckI_p ⟨by omega, by omega⟩, kb2_p idl.1, kp_p, ckI_p ⟨by omega, by omega⟩]
        · refine Or.inl ⟨_, ⟨K, mem', rfl, d0.tr e2, by omega, by omega, by omega, fun K' a1 a2 => k3 K' a1 a2 (by omega)⟩, fun k => ?_⟩
          show f_X5_leastTake_98 N G _ h W L (r : Int) G0 K mem = _
          unfold f_X5_leastTake_98
          rw [d1, h7, if_pos q, kb_p e1, kb2_p pa, if_neg q2]
      · refine Or.inl ⟨_, ⟨sumN S c, mem, rfl, d0, hall.1, Int.le_refl _, hall.2.2, fun K' a1 a2 => k3 K' a1 (by omega) (by omega)⟩, fun k => ?_⟩
        show f_X5_leastTake_98 N G _ h W L (r : Int) G0 K mem = _
        unfold f_X5_leastTake_98
        rw [d1, h7, if_neg q]
    · rintro st ⟨K, mem, rfl, d0, d1, d2, d3, k1, k2, k3⟩
      refine ⟨_, ⟨sumN S c, mem, rfl, d0, hall.1, Int.le_refl _, hall.2.2, fun K' a1 a2 => k3 K' a1 (by omega) (by omega)⟩, fun k => ?_⟩
      show f_X5_leastTake_98 N G _ h W L (r : Int) G0 K mem = _
      unfold f_X5_leastTake_98
      rw [d1, h7, if_neg (by omega)]
    · exact ⟨_, μ, rfl, dP.rf, fun _ _ => rfl, fun _ => rfl, fun _ => rfl, by omega, by omega, fun K' a1 a2 a3 => small K' a1 (by omega) a3⟩
  · rw [if_neg cg]
    exact ⟨W, μ, rfl, dP.rf, tf_grant hi (by omega)⟩
end TFP
