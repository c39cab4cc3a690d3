/-! PURE: the reference's shares -/
/-- the grants of rows of which one is the top -/
def topG (top gr : Int) (i : Nat) : Int := if (i : Int) = top then gr else 0
theorem shA_top {S : Nat → Int} {K L top gr : Int} {c : Nat} (ho : shOk S (topG top gr) K L c) : ∀ i, i ≤ c → shL S (topG top gr) K i = if (0 ≤ top ∧ top < (i : Int)) then K - min (min K (S top.toNat)) gr else K := by
  intro i
  induction i with
  | zero => intro _; rw [if_neg (by omega)]; rfl
  | succ i ih =>
    intro hi
    have h1 := ih (by omega)
    have h2 := ho.2.1 i (by omega)
    have h3 := shL_bd ho i (by omega)
    have h4 := ho.2.2.1 i (by omega)
    show shL S (topG top gr) K i - min (shL S (topG top gr) K i) (min (S i) (topG top gr i)) = _
    by_cases e : (i : Int) = top
    · have e1 : topG top gr i = gr := if_pos e
      have e2 : top.toNat = i := by omega
      rw [e1] at h4 ⊢
      rw [if_neg (by omega)] at h1
      rw [h1, if_pos (by omega), e2]
      omega
    · have e1 : topG top gr i = 0 := if_neg e
      rw [e1]
      have : min (shL S (topG top gr) K i) (min (S i) 0) = 0 := by omega
      rw [this, h1]
      by_cases d : 0 ≤ top ∧ top < (i : Int)
      · rw [if_pos d, if_pos (by omega)]; omega
      · rw [if_neg d, if_neg (by omega)]; omega
theorem shA_val {S : Nat → Int} {K L top gr : Int} {c : Nat} (ho : shOk S (topG top gr) K L c) {i : Nat} (hi : i < c) : shA S (topG top gr) K i = if (i : Int) = top then min (min K (S i)) gr else 0 := by
  have h1 := shA_top ho i (by omega)
  have h2 := ho.2.1 i hi
  have h3 := shL_bd ho i (by omega)
  unfold shA
  by_cases e : (i : Int) = top
  · have e1 : topG top gr i = gr := if_pos e
    rw [if_neg (by omega)] at h1
    rw [e1, h1, if_pos e]
    omega
  · have e1 : topG top gr i = 0 := if_neg e
    rw [e1, if_neg e]
    omega
/-- only the reference's three rows of shares differ -/
def dSh (G : qG) (m : Nat) (μ ν : qM) : Prop := (∀ f a, gI ν f a = gI μ f a) ∧ (∀ a i, a ≠ gR G 808 m → a ≠ gR G 809 m → a ≠ gR G 810 m → gA ν a i = gA μ a i) ∧ ∀ a i, gQ ν a i = gQ μ a i
theorem dSh.rf {G : qG} {m : Nat} {μ : qM} : dSh G m μ μ := ⟨fun _ _ => rfl, fun _ _ _ _ _ => rfl, fun _ _ => rfl⟩
theorem dSh.tr {G : qG} {m : Nat} {μ ν ξ : qM} (h1 : dSh G m μ ν) (h2 : dSh G m ν ξ) : dSh G m μ ξ := ⟨fun f a => (h2.1 f a).trans (h1.1 f a), fun a i x y z => (h2.2.1 a i x y z).trans (h1.2.1 a i x y z), fun a i => (h2.2.2 a i).trans (h1.2.2 a i)⟩
theorem dSh.s8 {G : qG} {m i : Nat} {μ : qM} {v : Int} : dSh G m μ (sA μ (gR G 808 m) i v) := ⟨fun _ _ => rfl, fun _ _ x _ _ => gA_a x, fun _ _ => rfl⟩
theorem dSh.s9 {G : qG} {m i : Nat} {μ : qM} {v : Int} : dSh G m μ (sA μ (gR G 809 m) i v) := ⟨fun _ _ => rfl, fun _ _ _ x _ => gA_a x, fun _ _ => rfl⟩
theorem dSh.s10 {G : qG} {m i : Nat} {μ : qM} {v : Int} : dSh G m μ (sA μ (gR G 810 m) i v) := ⟨fun _ _ => rfl, fun _ _ _ _ x => gA_a x, fun _ _ => rfl⟩
theorem dSh.wr9 {G : qG} {m j : Nat} {μ : qM} {f : Nat → Int} : dSh G m μ (wrM μ (gR G 809 m) f j) := ⟨(wrM_at j).1, fun _ _ _ x _ => (wrM_at j).2.2.1 _ _ x, (wrM_at j).2.1⟩
theorem dSh.wr10 {G : qG} {m j : Nat} {μ : qM} {f : Nat → Int} : dSh G m μ (wrM μ (gR G 810 m) f j) := ⟨(wrM_at j).1, fun _ _ _ _ x => (wrM_at j).2.2.1 _ _ x, (wrM_at j).2.1⟩
/-- the three rows made 0 -/
def zr3 (a b d : Nat) (μ : qM) : Nat → qM
  | 0 => μ
  | j + 1 => sA (sA (sA (zr3 a b d μ j) a j 0) b j 0) d j 0
theorem zr3_at {a b d : Nat} {μ : qM} (hab : a ≠ b) (had : a ≠ d) (hbd : b ≠ d) : ∀ j i, i < j → gA (zr3 a b d μ j) a i = 0 ∧ gA (zr3 a b d μ j) b i = 0 := by
  intro j
  induction j with
  | zero => intro i h; cases h
  | succ j ih =>
    intro i hi
    show gA (sA (sA (sA (zr3 a b d μ j) a j 0) b j 0) d j 0) a i = 0 ∧ gA (sA (sA (sA (zr3 a b d μ j) a j 0) b j 0) d j 0) b i = 0
    rw [gA_a had, gA_a hab, gA_a hbd]
    by_cases e : i = j
    · subst e; rw [gA_s, gA_s]; exact ⟨rfl, rfl⟩
    · rw [gA_i e, gA_i e, gA_a (Ne.symm hab)]
      exact ih i (by omega)
theorem zr3_d {G : qG} {m : Nat} {μ : qM} : ∀ j, dSh G m μ (zr3 (gR G 808 m) (gR G 809 m) (gR G 810 m) μ j) := by
  intro j
  induction j with
  | zero => exact dSh.rf
  | succ j ih => exact ((ih.tr dSh.s8).tr dSh.s9).tr dSh.s10
theorem z_shares8 {N : Nat} {G : qG} {m : Nat} {μ : qM} {S : Nat → Int} {K L top gr : Int} {c : Nat} (hL : mL G m) (h5 : gI μ 805 m = (c : Int)) (hS : ∀ i, i < c → gA μ (gR G 807 m) i = S i) (h1 : gA μ (gR G 800 m) 1 = L) (ht : top = -1 ∨ (0 ≤ top ∧ top < (c : Int))) (hg : 0 ≤ gr ∧ gr ≤ 1000) (ho : shOk S (topG top gr) K L c) (hN : 100 < N) :
    ∃ ν, f_X8_shares N G m K top gr μ = some ν ∧ dSh G m μ ν ∧ ∀ i, i < c → gA ν (gR G 808 m) i = shA S (topG top gr) K i ∧ gA ν (gR G 809 m) i = shB S (topG top gr) K L c i ∧ gA ν (gR G 810 m) i = shC S (topG top gr) K L c i := by
  have n89 : gR G 808 m ≠ gR G 809 m := hL.ne (by decide) (by decide) (by decide)
  have n80 : gR G 808 m ≠ gR G 810 m := hL.ne (by decide) (by decide) (by decide)
  have n90 : gR G 809 m ≠ gR G 810 m := hL.ne (by decide) (by decide) (by decide)
  have n78 : gR G 807 m ≠ gR G 808 m := hL.ne (by decide) (by decide) (by decide)
  have n79 : gR G 807 m ≠ gR G 809 m := hL.ne (by decide) (by decide) (by decide)
  have n70 : gR G 807 m ≠ gR G 810 m := hL.ne (by decide) (by decide) (by decide)
  have x8 : gR G 800 m ≠ gR G 808 m := hL.ne (by decide) (by decide) (by decide)
  have x9 : gR G 800 m ≠ gR G 809 m := hL.ne (by decide) (by decide) (by decide)
  have x0 : gR G 800 m ≠ gR G 810 m := hL.ne (by decide) (by decide) (by decide)
  have hc := ho.1
  have hK := ho.2.2.2.1
  generalize hgq : topG top gr = g at ho ⊢
  -- what a memory has in common with the first
  have base : ∀ μ1, dSh G m μ μ1 → gI μ1 805 m = (c : Int) ∧ (∀ i, i < c → gA μ1 (gR G 807 m) i = S i) ∧ gA μ1 (gR G 800 m) 1 = L := fun μ1 d => ⟨by rw [d.1]; exact h5, fun i hi => by rw [d.2.1 _ _ n78 n79 n70]; exact hS i hi, by rw [d.2.1 _ _ x8 x9 x0]; exact h1⟩
  -- the last loop
  have L3 : ∀ μ2 : qM, dSh G m μ μ2 → (∀ i, i < c → gA μ2 (gR G 808 m) i = shA S g K i) → (∀ i, i < c → gA μ2 (gR G 809 m) i = shB S g K L c i) → f_X8_shares_235 N G m (shM2 S g K L c c) μ2 = some (wrM μ2 (gR G 810 m) (shC S g K L c) c) := by
    intro μ2 d e3 e4
    obtain ⟨e1, e2, -⟩ := base μ2 d
    unfold f_X8_shares_235 f_X8_shares_L238
    refine qLoop_end (fun j => (m, shR S g K L c j, (j : Int), wrM μ2 (gR G 810 m) (shC S g K L c) j)) c N (by omega) (fun j hj k => ?_) (fun k => ?_)
    · show f_X8_shares_238 N G _ m (shR S g K L c j) (j : Int) (wrM μ2 (gR G 810 m) (shC S g K L c) j) = k (m, shR S g K L c (j + 1), ((j + 1 : Nat) : Int), wrM μ2 (gR G 810 m) (shC S g K L c) (j + 1))
      obtain ⟨w1, w2, w3, w4, w5⟩ := wrM_at (μ := μ2) (a := gR G 810 m) (f := shC S g K L c) j
      have b1 := shA_bd ho hj
      have b2 := shB_bd ho hj
      have b3 := ho.2.1 j hj
      have b4 := shR_bd ho j (by omega)
      have b5 := shR_bd ho (j + 1) (by omega)
      have key : ∀ v, v = shC S g K L c j → f_X8_shares_292 N G (fun x0 x4 x9 m0 => k (x0, x4, x9, m0)) m (shR S g K L c j) (j : Int) (gR G 810 m) (j : Int) v (wrM μ2 (gR G 810 m) (shC S g K L c) j) = k (m, shR S g K L c (j + 1), ((j + 1 : Nat) : Int), wrM μ2 (gR G 810 m) (shC S g K L c) (j + 1)) := by
        intro v hv
        subst hv
        unfold f_X8_shares_292
        have e5 : shR S g K L c j - shC S g K L c j = shR S g K L c (j + 1) := rfl
        rw [wrA_p ⟨by omega, by omega⟩, rdA_p ⟨by omega, by omega⟩, Int.toNat_natCast, gA_s, e5, ckI_p (show in32 (shR S g K L c (j + 1)) from ⟨by omega, by omega⟩), ckI_p ⟨by omega, by omega⟩, cast1]
        rfl
      unfold f_X8_shares_238
      rw [w1, e1, if_pos (by omega), rdA_p ⟨by omega, by omega⟩, rdA_p ⟨by omega, by omega⟩, Int.toNat_natCast, w3 _ _ n70, w3 _ _ n80, e2 j hj, e3 j hj, ckI_p ⟨by omega, by omega⟩, rdA_p ⟨by omega, by omega⟩, Int.toNat_natCast, w3 _ _ n90, e4 j hj, ckI_p ⟨by omega, by omega⟩]
      by_cases q : shR S g K L c j < S j - shA S g K j - shB S g K L c j
      · rw [if_pos q]
        exact key _ (by unfold shC; omega)
      · rw [if_neg q]
        exact key _ (by unfold shC; omega)
    · show f_X8_shares_238 N G _ m (shR S g K L c c) (c : Int) (wrM μ2 (gR G 810 m) (shC S g K L c) c) = _
      unfold f_X8_shares_238
      rw [(wrM_at c).1, e1, if_neg (by omega)]
  -- from where all is known of (a)
  have L2 : ∀ μ1 : qM, dSh G m μ μ1 → (∀ i, i < c → gA μ1 (gR G 808 m) i = shA S g K i) → (∀ i, i < c → gA μ1 (gR G 809 m) i = 0) → ∃ ν, f_X8_shares_102 N G m (shL S g K c) μ1 = some ν ∧ dSh G m μ ν ∧ ∀ i, i < c → gA ν (gR G 808 m) i = shA S g K i ∧ gA ν (gR G 809 m) i = shB S g K L c i ∧ gA ν (gR G 810 m) i = shC S g K L c i := by
    intro μ1 d e3 e4
    obtain ⟨e1, e2, e6⟩ := base μ1 d
    have hz := shZ_bd ho c (Nat.le_refl _)
    have hl := shL_bd ho c (Nat.le_refl _)
    have sums : f_X8_shares_102 N G m (shL S g K c) μ1 = f_X8_shares_L152 N G m (shL S g K c) (shZ S g K c) (shL S g K c) 0 μ1 := by
      unfold f_X8_shares_102 f_X8_shares_L108
      refine qLoop_end (fun j => (m, shL S g K c, shZ S g K j, (j : Int), μ1)) c N (by omega) (fun j hj k => ?_) (fun k => ?_)
      · show f_X8_shares_108 N G _ m (shL S g K c) (shZ S g K j) (j : Int) μ1 = k (m, shL S g K c, shZ S g K (j + 1), ((j + 1 : Nat) : Int), μ1)
        have b1 := shA_bd ho hj
        have b3 := ho.2.1 j hj
        have b5 := shZ_bd ho (j + 1) (by omega)
        have e6 : shZ S g K j + (S j - shA S g K j) = shZ S g K (j + 1) := rfl
        unfold f_X8_shares_108
        rw [e1, if_pos (by omega), rdA_p ⟨by omega, by omega⟩, rdA_p ⟨by omega, by omega⟩, Int.toNat_natCast, e2 j hj, e3 j hj, ckI_p ⟨by omega, by omega⟩, e6, ckJ_p ⟨by omega, by omega⟩, ckI_p ⟨by omega, by omega⟩, cast1]
      · show f_X8_shares_108 N G _ m (shL S g K c) (shZ S g K c) (c : Int) μ1 = _
        unfold f_X8_shares_108
        rw [e1, if_neg (by omega)]
    rw [sums]
    by_cases hp : 0 < shZ S g K c
    · have w4 := (wrM_at (μ := μ1) (a := gR G 809 m) (f := shB S g K L c) c).2.2.2.1
      have w3 := (wrM_at (μ := μ1) (a := gR G 809 m) (f := shB S g K L c) c).2.2.1
      have l3 := L3 (wrM μ1 (gR G 809 m) (shB S g K L c) c) (d.tr dSh.wr9) (fun i hi => by rw [w3 _ _ n89]; exact e3 i hi) w4
      have w3' := (wrM_at (μ := wrM μ1 (gR G 809 m) (shB S g K L c) c) (a := gR G 810 m) (f := shC S g K L c) c).2.2.1
      have w4' := (wrM_at (μ := wrM μ1 (gR G 809 m) (shB S g K L c) c) (a := gR G 810 m) (f := shC S g K L c) c).2.2.2.1
      refine ⟨_, ?_, (d.tr dSh.wr9).tr dSh.wr10, fun i hi => ⟨by rw [w3' _ _ n80, w3 _ _ n89]; exact e3 i hi, by rw [w3' _ _ n90]; exact w4 i hi, w4' i hi⟩⟩
      unfold f_X8_shares_L152
      have s0 : shM2 S g K L c 0 = shL S g K c := by show shL S g K c - 0 = _; omega
      have goal := qLoop_end (step := fun k p => f_X8_shares_152 N G (fun x0 x4 x5 x7 x9 m0 => k (x0, x4, x5, x7, x9, m0)) p.1 p.2.1 p.2.2.1 p.2.2.2.1 p.2.2.2.2.1 p.2.2.2.2.2) (fun j => (m, shM2 S g K L c j, shZ S g K c, shL S g K c, (j : Int), wrM μ1 (gR G 809 m) (shB S g K L c) j)) c N (r := some (wrM (wrM μ1 (gR G 809 m) (shB S g K L c) c) (gR G 810 m) (shC S g K L c) c)) (by omega) (fun j hj k => ?_) (fun k => ?_)
      · rw [s0] at goal
        exact goal
      · show f_X8_shares_152 N G _ m (shM2 S g K L c j) (shZ S g K c) (shL S g K c) (j : Int) (wrM μ1 (gR G 809 m) (shB S g K L c) j) = k (m, shM2 S g K L c (j + 1), shZ S g K c, shL S g K c, ((j + 1 : Nat) : Int), wrM μ1 (gR G 809 m) (shB S g K L c) (j + 1))
        obtain ⟨w1, w2, w3, w4, w5⟩ := wrM_at (μ := μ1) (a := gR G 809 m) (f := shB S g K L c) j
        have b1 := shA_bd ho hj
        have b3 := ho.2.1 j hj
        have b5 := shM2_bd ho (j + 1) (by omega)
        have b6 := mul_bd2 (a := shL S g K c) (b := S j - shA S g K j) (A := 60000) (B := 1000) ⟨hl.1, by omega⟩ ⟨by omega, by omega⟩
        have b7 := tdiv_bd (M := 60000000) ⟨b6.1, by omega⟩ hp
        have e5 : shM2 S g K L c j - shB S g K L c j = shM2 S g K L c (j + 1) := by
          show shL S g K c - sumN (shB S g K L c) j - shB S g K L c j = shL S g K c - (sumN (shB S g K L c) j + shB S g K L c j)
          omega
        have key : ∀ v, v = shB S g K L c j → f_X8_shares_216 N G (fun x0 x4 x5 x7 x9 m0 => k (x0, x4, x5, x7, x9, m0)) m (shM2 S g K L c j) (shZ S g K c) (shL S g K c) (j : Int) (gR G 809 m) (j : Int) v (wrM μ1 (gR G 809 m) (shB S g K L c) j) = k (m, shM2 S g K L c (j + 1), shZ S g K c, shL S g K c, ((j + 1 : Nat) : Int), wrM μ1 (gR G 809 m) (shB S g K L c) (j + 1)) := by
          intro v hv
          subst hv
          unfold f_X8_shares_216
          rw [wrA_p ⟨by omega, by omega⟩, rdA_p ⟨by omega, by omega⟩, Int.toNat_natCast, gA_s, e5, ckI_p (show in32 (shM2 S g K L c (j + 1)) from ⟨by omega, by omega⟩), ckI_p ⟨by omega, by omega⟩, cast1]
          rfl
        unfold f_X8_shares_152
        rw [w1, e1, if_pos (by omega), if_pos hp, rdA_p ⟨by omega, by omega⟩, rdA_p ⟨by omega, by omega⟩, Int.toNat_natCast, w3 _ _ n79, w3 _ _ n89, e2 j hj, e3 j hj, ckI_p ⟨by omega, by omega⟩, ckJ_p ⟨by omega, by omega⟩, ckD_p (by omega), ckJ_p ⟨by omega, by omega⟩, ckI_p ⟨by omega, by omega⟩, w3 _ _ x9, e6]
        by_cases q : (shL S g K c * (S j - shA S g K j)).tdiv (shZ S g K c) < L
        · rw [if_pos q]
          exact key 0 (by unfold shB portion; rw [if_pos hp, if_pos q])
        · rw [if_neg q]
          exact key _ (by unfold shB portion; rw [if_pos hp, if_neg q])
      · show f_X8_shares_152 N G _ m (shM2 S g K L c c) (shZ S g K c) (shL S g K c) (c : Int) (wrM μ1 (gR G 809 m) (shB S g K L c) c) = _
        unfold f_X8_shares_152
        rw [(wrM_at c).1, e1, if_neg (by omega)]
        exact l3
    · have b0 : ∀ i, shB S g K L c i = 0 := fun i => by unfold shB portion; rw [if_neg hp]
      have m0 : shM2 S g K L c c = shL S g K c := by
        have : ∀ j, sumN (shB S g K L c) j = 0 := by
          intro j
          induction j with
          | zero => rfl
          | succ j ih => show sumN (shB S g K L c) j + shB S g K L c j = 0; rw [ih, b0]; rfl
        unfold shM2
        rw [this]; omega
      have l3 := L3 μ1 d e3 (fun i hi => by rw [b0]; exact e4 i hi)
      rw [m0] at l3
      have w3' := (wrM_at (μ := μ1) (a := gR G 810 m) (f := shC S g K L c) c).2.2.1
      have w4' := (wrM_at (μ := μ1) (a := gR G 810 m) (f := shC S g K L c) c).2.2.2.1
      refine ⟨_, ?_, d.tr dSh.wr10, fun i hi => ⟨by rw [w3' _ _ n80]; exact e3 i hi, by rw [w3' _ _ n90, b0]; exact e4 i hi, w4' i hi⟩⟩
      unfold f_X8_shares_L152
      refine qLoop_x (fun k => ?_) (by omega)
      show f_X8_shares_152 N G _ m (shL S g K c) (shZ S g K c) (shL S g K c) 0 μ1 = _
      unfold f_X8_shares_152
      rw [if_neg hp]
      split <;> exact l3
  -- the first loop, and the top's
  have hA := fun i (hi : i < c) => shA_val (S := S) (K := K) (L := L) (top := top) (gr := gr) (by rw [hgq]; exact ho) hi
  have hLt := shA_top (S := S) (K := K) (L := L) (top := top) (gr := gr) (by rw [hgq]; exact ho) c (Nat.le_refl _)
  rw [hgq] at hA hLt
  have d0 := zr3_d (G := G) (m := m) (μ := μ) c
  have z0 := zr3_at (a := gR G 808 m) (b := gR G 809 m) (d := gR G 810 m) (μ := μ) n89 n80 n90 c
  obtain ⟨e1, e2, e6⟩ := base _ d0
  have fst : f_X8_shares N G m K top gr μ = (if top < 0 then f_X8_shares_102 N G m K (zr3 (gR G 808 m) (gR G 809 m) (gR G 810 m) μ c) else
      rdA (zr3 (gR G 808 m) (gR G 809 m) (gR G 810 m) μ c) (gR G 807 m) top 70 fun v3 => if K < v3 then f_X8_shares_71 N G m top gr K K (zr3 (gR G 808 m) (gR G 809 m) (gR G 810 m) μ c) else rdA (zr3 (gR G 808 m) (gR G 809 m) (gR G 810 m) μ c) (gR G 807 m) top 70 fun v5 => f_X8_shares_71 N G m top gr K v5 (zr3 (gR G 808 m) (gR G 809 m) (gR G 810 m) μ c)) := by
    unfold f_X8_shares f_X8_shares_L6
    refine qLoop_end (fun j => (m, top, gr, K, (j : Int), zr3 (gR G 808 m) (gR G 809 m) (gR G 810 m) μ j)) c N (by omega) (fun j hj k => ?_) (fun k => ?_)
    · show f_X8_shares_6 N G _ m top gr K (j : Int) (zr3 (gR G 808 m) (gR G 809 m) (gR G 810 m) μ j) = _
      unfold f_X8_shares_6
      rw [(zr3_d j).1, h5, if_pos (by omega), wrA_p ⟨by omega, by omega⟩, wrA_p ⟨by omega, by omega⟩, wrA_p ⟨by omega, by omega⟩, ckI_p ⟨by omega, by omega⟩, Int.toNat_natCast, cast1]
      rfl
    · show f_X8_shares_6 N G _ m top gr K (c : Int) (zr3 (gR G 808 m) (gR G 809 m) (gR G 810 m) μ c) = _
      unfold f_X8_shares_6
      rw [e1, if_neg (by omega)]
  rw [fst]
  rcases ht with ht | ht
  · rw [if_pos (by omega)]
    rw [if_neg (by omega)] at hLt
    have l2 := L2 _ d0 (fun i hi => by rw [(z0 i hi).1, hA i hi, if_neg (by omega)]) (fun i hi => (z0 i hi).2)
    rw [hLt] at l2
    exact l2
  · obtain ⟨q, rfl⟩ := Int.eq_ofNat_of_zero_le ht.1
    have hq : q < c := by omega
    rw [if_pos ht, Int.toNat_natCast] at hLt
    have b3 := ho.2.1 q hq
    rw [if_neg (by omega), rdA_p ⟨by omega, by omega⟩, Int.toNat_natCast, e2 q hq]
    have fin : ∀ v, v = min (min K (S q)) gr → ∃ ν, f_X8_shares_90 N G m (q : Int) K (gR G 808 m) (q : Int) v (zr3 (gR G 808 m) (gR G 809 m) (gR G 810 m) μ c) = some ν ∧ dSh G m μ ν ∧ ∀ i, i < c → gA ν (gR G 808 m) i = shA S g K i ∧ gA ν (gR G 809 m) i = shB S g K L c i ∧ gA ν (gR G 810 m) i = shC S g K L c i := by
      intro v hv
      have hv2 : 0 ≤ v ∧ v ≤ 60000 := by omega
      unfold f_X8_shares_90
      rw [wrA_p ⟨by omega, by omega⟩, rdA_p ⟨by omega, by omega⟩, Int.toNat_natCast, gA_s, ckI_p ⟨by omega, by omega⟩, hv, ← hLt]
      refine L2 _ (d0.tr dSh.s8) (fun i hi => ?_) (fun i hi => by rw [gA_a (Ne.symm n89)]; exact (z0 i hi).2)
      rw [hA i hi]
      by_cases e : i = q
      · subst e; rw [gA_s, if_pos rfl]
      · rw [gA_i e, if_neg (by omega)]; exact (z0 i hi).1
    have mid : ∀ v, v = min K (S q) → ∃ ν, f_X8_shares_71 N G m (q : Int) gr K v (zr3 (gR G 808 m) (gR G 809 m) (gR G 810 m) μ c) = some ν ∧ dSh G m μ ν ∧ ∀ i, i < c → gA ν (gR G 808 m) i = shA S g K i ∧ gA ν (gR G 809 m) i = shB S g K L c i ∧ gA ν (gR G 810 m) i = shC S g K L c i := by
      intro v hv
      unfold f_X8_shares_71
      by_cases c1 : v < gr
      · rw [if_pos c1]; exact fin v (by omega)
      · rw [if_neg c1]; exact fin gr (by omega)
    by_cases c1 : K < S q
    · rw [if_pos c1]; exact mid K (by omega)
    · rw [if_neg c1, rdA_p ⟨by omega, by omega⟩, Int.toNat_natCast, e2 q hq]; exact mid (S q) (by omega)
