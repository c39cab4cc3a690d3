/-! PURE: orders that go, on the reference's side -/
/-- only the row of numbers x of the reference differs -/
def dX (G : qG) (m : Nat) (μ ν : qM) : Prop := (∀ f a, gI ν f a = gI μ f a) ∧ (∀ a i, a ≠ gR G 800 m → gA ν a i = gA μ a i) ∧ ∀ a i, gQ ν a i = gQ μ a i
theorem dX.rf {G : qG} {m : Nat} {μ : qM} : dX G m μ μ := ⟨fun _ _ => rfl, fun _ _ _ => rfl, fun _ _ => rfl⟩
theorem dX.tr {G : qG} {m : Nat} {μ ν ξ : qM} (h1 : dX G m μ ν) (h2 : dX G m ν ξ) : dX G m μ ξ := ⟨fun f a => (h2.1 f a).trans (h1.1 f a), fun a i h => (h2.2.1 a i h).trans (h1.2.1 a i h), fun a i => (h2.2.2 a i).trans (h1.2.2 a i)⟩
theorem dX.sA {G : qG} {m : Nat} {μ : qM} {j : Nat} {v : Int} : dX G m μ (sA μ (gR G 800 m) j v) := ⟨fun _ _ => rfl, fun _ _ h => gA_a h, fun _ _ => rfl⟩
/-- the reference's relation after a change of x alone -/
theorem mR.dx {G : qG} {m : Nat} {μ ν : qM} {l l' : List (Nat → Int)} {T T' D : Nat → Int} {tr : Nat → Nat → Int} {n : Nat} {B : Nat → Int} (hL : mL G m) (h : mR G m μ l T D tr n B) (hd : dX G m μ ν) (hb : mB G m ν l') (hT : ∀ j, j < 24 → j ≠ 5 → gA ν (gR G 800 m) j = T' j) (h10 : T' 10 = T 10) (ht : ∀ i, 384 ≤ i → gA ν (gR G 800 m) i = gA μ (gR G 800 m) i) : mR G m ν l' T' D tr n B :=
  ⟨hb, hT, fun t htt => by rw [hd.2.1 _ _ (hL.ne (by decide) (by decide) (by decide))]; exact h.2.2.1 t htt, fun i w hi hw => by rw [ht _ (by omega)]; exact h.2.2.2.1 i w (by rw [← h10]; exact hi) hw, by rw [hd.1]; exact h.2.2.2.2.1, h.2.2.2.2.2.1, fun j hj => by rw [hd.2.1 _ _ (hL.ne (by decide) (by decide) (by decide))]; exact h.2.2.2.2.2.2 j hj⟩
/-- a top that lapses -/
def aLap (T : Nat → Int) (s : Nat) : Nat → Int := upd1 (upd1 T (6 + s) (-1)) (8 + s) 0
theorem z_lapses8 {N : Nat} {G : qG} {m : Nat} {s : Int} {μ : qM} (hs : s = 0 ∨ s = 1) : f_X8_lapses N G m s μ = some (sA (sA μ (gR G 800 m) (6 + s.toNat) (-1)) (gR G 800 m) (8 + s.toNat) 0) := by
  unfold f_X8_lapses
  rw [ckI_p ⟨by omega, by omega⟩, wrA_p ⟨by omega, by omega⟩, ckI_p ⟨by omega, by omega⟩, wrA_p ⟨by omega, by omega⟩]
  rw [show (6 + s).toNat = 6 + s.toNat by omega, show (8 + s).toNat = 8 + s.toNat by omega]
theorem z_setOrder8 {N : Nat} {G : qG} {m : Nat} {x1 x2 v : Int} {μ : qM} (h1 : 0 ≤ x1 ∧ x1 < 60) (h2 : 0 ≤ x2 ∧ x2 < 6) : f_X8_setOrder N G m x1 x2 v μ = some (sA μ (gR G 800 m) (24 + 6 * x1.toNat + x2.toNat) v) := by
  unfold f_X8_setOrder
  rw [ckI_p ⟨by omega, by omega⟩, ckI_p ⟨by omega, by omega⟩, ckI_p ⟨by omega, by omega⟩, wrA_p ⟨by omega, by omega⟩]
  rw [show (24 + 6 * x1 + x2).toNat = 24 + 6 * x1.toNat + x2.toNat by omega]
/-- the shift by six places -/
def shM (x a : Nat) (μ : qM) : Nat → qM
  | 0 => μ
  | j + 1 => sA (shM x a μ j) x (a + j) (gA (shM x a μ j) x (a + j + 6))
theorem shM_at {x a : Nat} {μ : qM} : ∀ j, (∀ f b, gI (shM x a μ j) f b = gI μ f b) ∧ (∀ b i, b ≠ x → gA (shM x a μ j) b i = gA μ b i) ∧ (∀ b i, gQ (shM x a μ j) b i = gQ μ b i) ∧ ∀ i, gA (shM x a μ j) x i = if a ≤ i ∧ i < a + j then gA μ x (i + 6) else gA μ x i := by
  intro j
  induction j with
  | zero => exact ⟨fun _ _ => rfl, fun _ _ _ => rfl, fun _ _ => rfl, fun i => by rw [if_neg (by omega)]; rfl⟩
  | succ j ih =>
    obtain ⟨h1, h2, h3, h4⟩ := ih
    refine ⟨h1, fun b i hb => (gA_a hb).trans (h2 b i hb), h3, fun i => ?_⟩
    show gA (sA (shM x a μ j) x (a + j) (gA (shM x a μ j) x (a + j + 6))) x i = _
    by_cases e : i = a + j
    · subst e
      rw [gA_s, h4, if_neg (by omega), if_pos (by omega)]
    · rw [gA_i e, h4]
      by_cases c : a ≤ i ∧ i < a + j
      · rw [if_pos c, if_pos (by omega)]
      · rw [if_neg c, if_neg (by omega)]
theorem lG_erase {l : List (Nat → Int)} {i j : Nat} : lG (l.eraseIdx i) j = if j < i then lG l j else lG l (j + 1) := by
  unfold lG
  rw [List.getD_eq_getElem?_getD, List.getD_eq_getElem?_getD, List.getD_eq_getElem?_getD, List.getElem?_eraseIdx]
  split <;> rfl
def aGo (T : Nat → Int) (o : Nat → Int) : Nat → Int := if T (6 + (o 2).toNat) = o 0 then aLap T (o 2).toNat else T
theorem z_goes8 {N : Nat} {G : qG} {m : Nat} {μ : qM} {l : List (Nat → Int)} {T D : Nat → Int} {tr : Nat → Nat → Int} {n : Nat} {B : Nat → Int} (hL : mL G m) (h : mR G m μ l T D tr n B) (hl : lOk l) (hN : 1000 < N) {i : Nat} (hi : i < l.length) :
    ∃ ν, f_X8_goes N G m (i : Int) μ = some ν ∧ dX G m μ ν ∧ mR G m ν (l.eraseIdx i) (aGo T (lG l i)) D tr n B := by
  have hn := hl.1
  have ho := (hl.2 i hi).2.2.1
  have key : ∀ (μ1 : qM) (T1 : Nat → Int), mR G m μ1 l T1 D tr n B → ∃ ν, f_X8_goes_30 N G m (i : Int) μ1 = some ν ∧ dX G m μ1 ν ∧ mR G m ν (l.eraseIdx i) T1 D tr n B := by
    intro μ1 T1 h1
    unfold f_X8_goes_30
    rw [h1.1.1, ckI_p ⟨by omega, by omega⟩, kp_p, ckI_p ⟨by omega, by omega⟩, ckI_p ⟨by omega, by omega⟩]
    have e0 : (24 + 6 * (i : Int)) = ((24 + 6 * i : Nat) : Int) := by omega
    rw [e0]
    generalize hμ : sA μ1 (gR G 800 m) 5 ((l.length : Int) - 1) = μ2
    have g5 : ∀ j, gA (shM (gR G 800 m) (24 + 6 * i) μ2 j) (gR G 800 m) 5 = (l.length : Int) - 1 := by
      intro j
      rw [(shM_at j).2.2.2, if_neg (by omega), ← hμ, gA_s]
    refine ⟨shM (gR G 800 m) (24 + 6 * i) μ2 (6 * (l.length - 1 - i)), ?_, ?_, ?_⟩
    · unfold f_X8_goes_L48
      refine qLoop_end (fun j => (m, ((24 + 6 * i + j : Nat) : Int), shM (gR G 800 m) (24 + 6 * i) μ2 j)) (6 * (l.length - 1 - i)) N (by omega) (fun j hj k => ?_) (fun k => ?_)
      · show f_X8_goes_48 N G _ m ((24 + 6 * i + j : Nat) : Int) (shM (gR G 800 m) (24 + 6 * i) μ2 j) = k (m, ((24 + 6 * i + (j + 1) : Nat) : Int), shM (gR G 800 m) (24 + 6 * i) μ2 (j + 1))
        unfold f_X8_goes_48
        rw [g5, ckI_p ⟨by omega, by omega⟩, ckI_p ⟨by omega, by omega⟩, if_pos (by omega), ckI_p ⟨by omega, by omega⟩, rdA_p ⟨by omega, by omega⟩, wrA_p ⟨by omega, by omega⟩, ckI_p ⟨by omega, by omega⟩]
        rw [show (((24 + 6 * i + j : Nat) : Int) + 6).toNat = 24 + 6 * i + j + 6 by omega, show (((24 + 6 * i + j : Nat) : Int)).toNat = 24 + 6 * i + j by omega, show ((24 + 6 * i + j : Nat) : Int) + 1 = ((24 + 6 * i + (j + 1) : Nat) : Int) by omega]
        rfl
      · show f_X8_goes_48 N G _ m ((24 + 6 * i + 6 * (l.length - 1 - i) : Nat) : Int) _ = _
        unfold f_X8_goes_48
        rw [g5, ckI_p ⟨by omega, by omega⟩, ckI_p ⟨by omega, by omega⟩, if_neg (by omega)]
    · obtain ⟨a1, a2, a3, -⟩ := shM_at (x := gR G 800 m) (a := 24 + 6 * i) (μ := μ2) (6 * (l.length - 1 - i))
      have : dX G m μ1 μ2 := by rw [← hμ]; exact dX.sA
      exact this.tr ⟨a1, a2, a3⟩
    · obtain ⟨a1, a2, a3, a4⟩ := shM_at (x := gR G 800 m) (a := 24 + 6 * i) (μ := μ2) (6 * (l.length - 1 - i))
      have hd : dX G m μ1 μ2 := by rw [← hμ]; exact dX.sA
      have g2 : ∀ j, j ≠ 5 → gA μ2 (gR G 800 m) j = gA μ1 (gR G 800 m) j := fun j hj => by rw [← hμ]; exact gA_i hj
      have el : (l.eraseIdx i).length = l.length - 1 := by rw [List.length_eraseIdx, if_pos hi]
      refine h1.dx hL (hd.tr ⟨a1, a2, a3⟩) ⟨?_, fun j k hj hk => ?_⟩ (fun j hj h5 => ?_) rfl (fun j hj => ?_)
      · rw [g5, el]; omega
      · rw [a4, lG_erase]
        rw [el] at hj
        by_cases c : j < i
        · rw [if_neg (by omega), if_pos c, g2 _ (by omega)]
          exact h1.1.2 j k (by omega) hk
        · rw [if_pos (by omega), if_neg c, g2 _ (by omega), ← h1.1.2 (j + 1) k (by omega) hk]
          congr 1
          omega
      · rw [a4, if_neg (by omega), g2 _ h5]
        exact h1.2.1 j hj h5
      · rw [a4, if_neg (by omega), g2 _ (by omega)]
  unfold f_X8_goes
  rw [kb2_p (z8_2 h.1 hn hi), ckI_p ⟨by omega, by omega⟩, rdA_p ⟨by omega, by omega⟩, h.x (j := 6 + (lG l i 2).toNat) (by omega) (by omega) (by omega), kb2_p (z8_0 h.1 hn hi)]
  unfold aGo
  by_cases c : T (6 + (lG l i 2).toNat) = lG l i 0
  · rw [if_pos c, if_pos c, kb_p (z_lapses8 ho)]
    have h1 := h.T hL (j := 6 + (lG l i 2).toNat) (v := -1) (by omega) (by omega) (by omega)
    have h2 := h1.T hL (j := 8 + (lG l i 2).toNat) (v := 0) (by omega) (by omega) (by omega)
    obtain ⟨ν, b1, b2, b3⟩ := key _ _ h2
    exact ⟨ν, b1, (dX.sA.tr dX.sA).tr b2, b3⟩
  · rw [if_neg c, if_neg c]
    exact key _ _ h
