/-! PURE: the one price of an OPEN -/
theorem qLoop_dn {σ ρ : Type} {step : (σ → Option ρ) → σ → Option ρ} (I : Nat → σ → Prop) (R : Option ρ → Prop)
    (hs : ∀ d s, I d s → (∃ r, R r ∧ ∀ k, step k s = r) ∨ ∃ d' s', d' < d ∧ I d' s' ∧ ∀ k, step k s = k s') : ∀ (d n : Nat) (s : σ), d < n → I d s → R (qLoop step n s) := by
  intro d
  induction d using Nat.strongRecOn with
  | _ d ih =>
    intro n s hn hI
    rcases hs d s hI with ⟨r, hr, hk⟩ | ⟨d', s', h1, h2, h3⟩
    · rw [qLoop_x hk (by omega)]
      exact hr
    · rw [qLoop_t h3 (by omega)]
      exact ih d' h1 (n - 1) s' (by omega) h2
def wBuy (p : Int) (o : Nat → Int) : Int := if o 2 = 0 ∧ p ≤ o 3 then o 4 else 0
def wSel (p : Int) (o : Nat → Int) : Int := if o 2 = 1 ∧ o 3 ≤ p then o 4 else 0
def aBuy (l : List (Nat → Int)) (p : Int) : Int := aS (wBuy p) l
def aSel (l : List (Nat → Int)) (p : Int) : Int := aS (wSel p) l
def aAb (x : Int) : Int := if 0 ≤ x then x else -x
/-- volume, difference, distance from the last price -/
def cV (l : List (Nat → Int)) (p : Int) : Int := min (aBuy l p) (aSel l p)
def cM (l : List (Nat → Int)) (p : Int) : Int := aAb (aBuy l p - aSel l p)
def cD (last p : Int) : Int := aAb (p - last)
/-- a price is preferred to another one -/
def cPf (l : List (Nat → Int)) (last q p : Int) : Prop := cV l p < cV l q ∨ (cV l q = cV l p ∧ (cM l q < cM l p ∨ (cM l q = cM l p ∧ (cD last q < cD last p ∨ (cD last q = cD last p ∧ q < p)))))
def inP (p : Int) : Prop := 1 ≤ p ∧ p ≤ 9999999
/-- the outcome: price, volume, more to buy -/
def cSp (l : List (Nat → Int)) (last p v u : Int) : Prop :=
  (p = 0 ∧ v = 0 ∧ u = 0 ∧ ∀ q, inP q → cV l q = 0) ∨ (inP p ∧ v = cV l p ∧ 0 < v ∧ u = aBuy l p - aSel l p ∧ ∀ q, inP q → ¬ cPf l last q p)
section CLR
variable {l : List (Nat → Int)} {last p q v u : Int}
theorem wBuy_bd (hl : lOk l) : ∀ i, i < l.length → 0 ≤ wBuy p (lG l i) ∧ wBuy p (lG l i) ≤ 1000 := by
  intro i hi
  have h := (hl.2 i hi).2.2.2.2.1
  unfold wBuy
  split <;> omega
theorem wSel_bd (hl : lOk l) : ∀ i, i < l.length → 0 ≤ wSel p (lG l i) ∧ wSel p (lG l i) ≤ 1000 := by
  intro i hi
  have h := (hl.2 i hi).2.2.2.2.1
  unfold wSel
  split <;> omega
theorem aBS_bd (hl : lOk l) : (0 ≤ aBuy l p ∧ aBuy l p ≤ 60000) ∧ (0 ≤ aSel l p ∧ aSel l p ≤ 60000) := by
  have h1 := aS_bd (wBuy_bd (p := p) hl)
  have h2 := aS_bd (wSel_bd (p := p) hl)
  have h60 := hl.1
  unfold aBuy aSel
  omega
theorem cSp_uq {p' v' u' : Int} (h1 : cSp l last p v u) (h2 : cSp l last p' v' u') : p = p' ∧ v = v' ∧ u = u' := by
  rcases h1 with ⟨a1, a2, a3, a4⟩ | ⟨a1, a2, a3, a4, a5⟩
  · rcases h2 with ⟨b1, b2, b3, b4⟩ | ⟨b1, b2, b3, b4, b5⟩
    · exact ⟨by omega, by omega, by omega⟩
    · have := a4 p' b1; omega
  · rcases h2 with ⟨b1, b2, b3, b4⟩ | ⟨b1, b2, b3, b4, b5⟩
    · have := b4 p a1; omega
    · have c1 := a5 p' b1
      have c2 := b5 p a1
      have e : p = p' := by unfold cPf at c1 c2; omega
      subst e
      exact ⟨rfl, by omega, by omega⟩
/-- sums that are alike, order by order -/
theorem aS_cgl {w w' : (Nat → Int) → Int} : ∀ {l : List (Nat → Int)}, (∀ i, i < l.length → w (lG l i) = w' (lG l i)) → aS w l = aS w' l := by
  intro l
  induction l with
  | nil => intro _; rfl
  | cons o t ih =>
    intro h
    have h0 : w o = w' o := h 0 (by simp)
    rw [aS_cons, aS_cons, h0, ih (fun i hi => h (i + 1) (by simpa using hi))]
/-- a change of the buys from p to p + 1: an order at p; of the sells: one at p + 1 -/
theorem buy_step (h : aBuy l (p + 1) ≠ aBuy l p) : ∃ i, i < l.length ∧ lG l i 2 = 0 ∧ lG l i 3 = p := by
  refine Decidable.byContradiction (fun hn => h (aS_cgl (fun i hi => ?_)))
  unfold wBuy
  by_cases c : lG l i 2 = 0
  · have c2 : lG l i 3 ≠ p := fun e => hn ⟨i, hi, c, e⟩
    by_cases d : p + 1 ≤ lG l i 3
    · rw [if_pos ⟨c, d⟩, if_pos ⟨c, by omega⟩]
    · rw [if_neg (fun y => d y.2), if_neg (by omega)]
  · rw [if_neg (fun y => c y.1), if_neg (fun y => c y.1)]
theorem sel_step (h : aSel l (p + 1) ≠ aSel l p) : ∃ i, i < l.length ∧ lG l i 2 = 1 ∧ lG l i 3 = p + 1 := by
  refine Decidable.byContradiction (fun hn => h (aS_cgl (fun i hi => ?_)))
  unfold wSel
  by_cases c : lG l i 2 = 1
  · have c2 : lG l i 3 ≠ p + 1 := fun e => hn ⟨i, hi, c, e⟩
    by_cases d : lG l i 3 ≤ p
    · rw [if_pos ⟨c, by omega⟩, if_pos ⟨c, d⟩]
    · rw [if_neg (by omega), if_neg (by omega)]
  · rw [if_neg (fun y => c y.1), if_neg (fun y => c y.1)]
/-- the prices that the class looks at -/
def cand (l : List (Nat → Int)) (last c : Int) : Prop := c = last ∨ ∃ i, i < l.length ∧ (c = lG l i 3 - 1 ∨ c = lG l i 3 ∨ c = lG l i 3 + 1)
/-- one of them is as good as any price with a volume -/
theorem cand_up (hlast : 0 ≤ last ∧ last ≤ 9999999) : ∀ (d : Nat) (q : Int), inP q → q ≤ last → last - q = (d : Int) → ∃ c, inP c ∧ cand l last c ∧ (c = q ∨ cPf l last c q) := by
  intro d
  induction d with
  | zero =>
    intro q hq h1 h2
    exact ⟨q, hq, Or.inl (by omega), Or.inl rfl⟩
  | succ d ih =>
    intro q hq h1 h2
    by_cases cb : aBuy l (q + 1) = aBuy l q
    · by_cases cs : aSel l (q + 1) = aSel l q
      · obtain ⟨c, k1, k2, k3⟩ := ih (q + 1) ⟨by have := hq.1; omega, by omega⟩ (by omega) (by omega)
        refine ⟨c, k1, k2, Or.inr ?_⟩
        have eV : cV l (q + 1) = cV l q := by unfold cV; rw [cb, cs]
        have eM : cM l (q + 1) = cM l q := by unfold cM; rw [cb, cs]
        have eD : cD last (q + 1) < cD last q := by unfold cD aAb; split <;> split <;> omega
        rcases k3 with k3 | k3
        · subst k3
          unfold cPf
          omega
        · unfold cPf at k3 ⊢
          omega
      · obtain ⟨i, hi, -, h3⟩ := sel_step cs
        exact ⟨q, hq, Or.inr ⟨i, hi, Or.inl (by omega)⟩, Or.inl rfl⟩
    · obtain ⟨i, hi, -, h3⟩ := buy_step cb
      exact ⟨q, hq, Or.inr ⟨i, hi, Or.inr (Or.inl h3.symm)⟩, Or.inl rfl⟩
theorem cand_dn (hl : lOk l) (hlast : 0 ≤ last ∧ last ≤ 9999999) : ∀ (d : Nat) (q : Int), inP q → last ≤ q → q - last = (d : Int) → 0 < cV l q → ∃ c, inP c ∧ cand l last c ∧ (c = q ∨ cPf l last c q) := by
  intro d
  induction d with
  | zero =>
    intro q hq h1 h2 _
    exact ⟨q, hq, Or.inl (by omega), Or.inl rfl⟩
  | succ d ih =>
    intro q hq h1 h2 hv
    by_cases q1 : q = 1
    · -- the least price: sells are there
      subst q1
      have hA : 0 < aSel l 1 := by have := hv; unfold cV at this; omega
      have : ∃ i, i < l.length ∧ lG l i 2 = 1 ∧ lG l i 3 ≤ 1 := by
        refine Decidable.byContradiction (fun hn => ?_)
        have : aSel l 1 = 0 := aS_none (fun i hi => by unfold wSel; rw [if_neg (fun y => hn ⟨i, hi, y.1, y.2⟩)])
        omega
      obtain ⟨i, hi, -, h3⟩ := this
      have := (hl.2 i hi).2.2.2.1.1
      exact ⟨1, hq, Or.inr ⟨i, hi, Or.inr (Or.inl (by omega))⟩, Or.inl rfl⟩
    · have hq1 := hq.1
      have hq2 := hq.2
      have e1 : q - 1 + 1 = q := by omega
      by_cases cb : aBuy l q = aBuy l (q - 1)
      · by_cases cs : aSel l q = aSel l (q - 1)
        · have eV : cV l (q - 1) = cV l q := by unfold cV; rw [cb, cs]
          have eM : cM l (q - 1) = cM l q := by unfold cM; rw [cb, cs]
          obtain ⟨c, k1, k2, k3⟩ := ih (q - 1) ⟨by omega, by omega⟩ (by omega) (by omega) (by omega)
          refine ⟨c, k1, k2, Or.inr ?_⟩
          have eD : cD last (q - 1) < cD last q := by unfold cD aAb; split <;> split <;> omega
          rcases k3 with k3 | k3
          · subst k3
            unfold cPf
            omega
          · unfold cPf at k3 ⊢
            omega
        · obtain ⟨i, hi, -, h3⟩ := sel_step (p := q - 1) (by rw [e1]; exact cs)
          exact ⟨q, hq, Or.inr ⟨i, hi, Or.inr (Or.inl (by omega))⟩, Or.inl rfl⟩
      · obtain ⟨i, hi, -, h3⟩ := buy_step (p := q - 1) (by rw [e1]; exact cb)
        exact ⟨q, hq, Or.inr ⟨i, hi, Or.inr (Or.inr (by omega))⟩, Or.inl rfl⟩
theorem cand_all (hl : lOk l) (hlast : 0 ≤ last ∧ last ≤ 9999999) (hq : inP q) (hv : 0 < cV l q) : ∃ c, inP c ∧ cand l last c ∧ (c = q ∨ cPf l last c q) := by
  rcases Int.le_total q last with h | h
  · exact cand_up hlast (last - q).toNat q hq h (by omega)
  · exact cand_dn hl hlast (q - last).toNat q hq h (by omega) hv
/-- the outcome among some prices alone -/
def cSo (l : List (Nat → Int)) (last : Int) (C : Int → Prop) (p v u : Int) : Prop :=
  (p = 0 ∧ v = 0 ∧ u = 0 ∧ ∀ q, inP q → C q → cV l q = 0) ∨ (inP p ∧ C p ∧ v = cV l p ∧ 0 < v ∧ u = aBuy l p - aSel l p ∧ ∀ q, inP q → C q → ¬ cPf l last q p)
theorem cSo.all (hl : lOk l) (hlast : 0 ≤ last ∧ last ≤ 9999999) (h : cSo l last (cand l last) p v u) : cSp l last p v u := by
  have nn : ∀ q, 0 ≤ cV l q := fun q => by have := aBS_bd (p := q) hl; unfold cV; omega
  rcases h with ⟨a1, a2, a3, a4⟩ | ⟨a1, a2, a3, a4, a5, a6⟩
  · refine Or.inl ⟨a1, a2, a3, fun q hq => ?_⟩
    by_cases c : 0 < cV l q
    · obtain ⟨c', k1, k2, k3⟩ := cand_all hl hlast hq c
      have := a4 c' k1 k2
      rcases k3 with k3 | k3
      · subst k3; omega
      · unfold cPf at k3; omega
    · have := nn q; omega
  · refine Or.inr ⟨a1, a3, a4, a5, fun q hq hpf => ?_⟩
    have hv : 0 < cV l q := by unfold cPf at hpf; omega
    obtain ⟨c', k1, k2, k3⟩ := cand_all hl hlast hq hv
    have := a6 c' k1 k2
    rcases k3 with k3 | k3
    · subst k3; exact this hpf
    · unfold cPf at k3 hpf this; omega
theorem cSo.mono {C C' : Int → Prop} (h : cSo l last C p v u) (hC : ∀ q, C q ↔ C' q) : cSo l last C' p v u := by
  rcases h with ⟨a1, a2, a3, a4⟩ | ⟨a1, a2, a3, a4, a5, a6⟩
  · exact Or.inl ⟨a1, a2, a3, fun q h1 h2 => a4 q h1 ((hC q).mpr h2)⟩
  · exact Or.inr ⟨a1, (hC p).mp a2, a3, a4, a5, fun q h1 h2 => a6 q h1 ((hC q).mpr h2)⟩
end CLR
section SEEK
variable {N : Nat} {G : qG} {ρ : Nat → Nat × Nat} {f b : Nat} {A : Nat → Nat} {μ ν : qM} {l : List (Nat → Int)} {last p v u : Int}
/-- only a clearing's three numbers differ -/
def dC (c : Nat) (μ ν : qM) : Prop := (∀ g a, ¬ (a = c ∧ 100 ≤ g ∧ g ≤ 102) → gI ν g a = gI μ g a) ∧ (∀ a i, gA ν a i = gA μ a i) ∧ ∀ a i, gQ ν a i = gQ μ a i
theorem dC.rf {c : Nat} : dC c μ μ := ⟨fun _ _ _ => rfl, fun _ _ => rfl, fun _ _ => rfl⟩
theorem dC.tr {c : Nat} {ξ : qM} (h1 : dC c μ ν) (h2 : dC c ν ξ) : dC c μ ξ := ⟨fun g a h => (h2.1 g a h).trans (h1.1 g a h), fun a i => (h2.2.1 a i).trans (h1.2.1 a i), fun a i => (h2.2.2 a i).trans (h1.2.2 a i)⟩
theorem dC.sI {c g : Nat} {v : Int} (hg : 100 ≤ g ∧ g ≤ 102) : dC c μ (sI μ g c v) := ⟨fun g' a h => by rw [gI_sI, if_neg (fun e => h ⟨e.2, by omega⟩)], fun _ _ => rfl, fun _ _ => rfl⟩
theorem cB.dc {c : Nat} (h : cB G b A μ l) (hn : l.length ≤ 60) (hd : dC c μ ν) : cB G b A ν l :=
  ⟨by rw [hd.1 _ _ (fun e => by omega)]; exact h.1, fun i hi => by rw [hd.2.2]; exact h.2.1 i hi, h.2.2.1, fun i k hi hk => by rw [hd.1 _ _ (fun e => by omega)]; exact h.2.2.2 i k hi hk⟩
theorem z_consider1 {c : Nat} (hb : cB G b A μ l) (hl : lOk l) (hlast : 0 ≤ last ∧ last ≤ 9999999) (hN : 100 < N) {C : Int → Prop} (h0 : gI μ 100 c = p) (h1 : gI μ 101 c = v) (h2 : gI μ 102 c = u) (h : cSo l last C p v u) (at' : Int) (hat : in32 at') :
    ∃ ν p' v' u', f_X1_consider N G c b at' last μ = some ν ∧ dC c μ ν ∧ gI ν 100 c = p' ∧ gI ν 101 c = v' ∧ gI ν 102 c = u' ∧ cSo l last (fun q => C q ∨ q = at') p' v' u' := by
  have hn := hl.1
  have out : ¬ inP at' → cSo l last (fun q => C q ∨ q = at') p v u := by
    intro no
    rcases h with ⟨a1, a2, a3, a4⟩ | ⟨a1, a2, a3, a4, a5, a6⟩
    · exact Or.inl ⟨a1, a2, a3, fun q h1 h2 => h2.elim (a4 q h1) (fun e => absurd (e ▸ h1) no)⟩
    · exact Or.inr ⟨a1, Or.inl a2, a3, a4, a5, fun q h1 h2 => h2.elim (a6 q h1) (fun e => absurd (e ▸ h1) no)⟩
  unfold f_X1_consider
  by_cases c1 : at' < 1
  · rw [if_pos c1]
    exact ⟨μ, p, v, u, rfl, dC.rf, h0, h1, h2, out (fun q => by have := q.1; omega)⟩
  · rw [if_neg c1]
    by_cases c2 : 9999999 < at'
    · rw [if_pos c2]
      exact ⟨μ, p, v, u, rfl, dC.rf, h0, h1, h2, out (fun q => by have := q.2; omega)⟩
    · rw [if_neg c2]
      have hin : inP at' := ⟨by omega, by omega⟩
      have bs := aBS_bd (p := at') hl
      -- the sums, and then the choice
      have fin : ∃ ν p' v' u', (kp (min (aBuy l at') (aSel l at')) fun v2 => if 0 < v2 then (ckI (aBuy l at' - aSel l at') fun v4 => kb2 (f_X1_isPreferred N G c at' v2 v4 last μ) fun v6 m5 => if v6 = 0 then (some m5) else (kp (sI m5 100 c at') fun m8 => kp (sI m8 101 c v2) fun m9 => ckI (aBuy l at' - aSel l at') fun v10 => kp (sI m9 102 c v10) fun m11 => some m11)) else (some μ)) = some ν ∧ dC c μ ν ∧ gI ν 100 c = p' ∧ gI ν 101 c = v' ∧ gI ν 102 c = u' ∧ cSo l last (fun q => C q ∨ q = at') p' v' u' := by
        rw [kp_p]
        have eV : min (aBuy l at') (aSel l at') = cV l at' := rfl
        rw [eV]
        by_cases c3 : 0 < cV l at'
        · rw [if_pos c3, ckI_p ⟨by omega, by omega⟩]
          -- whether it is preferred
          have hp : 0 ≤ p ∧ p ≤ 9999999 := by rcases h with ⟨a1, -⟩ | ⟨a1, -⟩; omega; exact ⟨by have := a1.1; omega, a1.2⟩
          have hu : -60000 ≤ u ∧ u ≤ 60000 := by
            rcases h with ⟨-, -, a3, -⟩ | ⟨-, -, -, -, a5, -⟩
            · omega
            · have := aBS_bd (p := p) hl; omega
          have pf : ∃ w, f_X1_isPreferred N G c at' (cV l at') (aBuy l at' - aSel l at') last μ = some (w, μ) ∧ ((w = 1 ∧ (v < cV l at' ∨ (cV l at' = v ∧ (aAb (aBuy l at' - aSel l at') < aAb u ∨ (aAb (aBuy l at' - aSel l at') = aAb u ∧ (aAb (at' - last) < aAb (p - last) ∨ (aAb (at' - last) = aAb (p - last) ∧ at' < p))))))) ∨ (w = 0 ∧ ¬ (v < cV l at' ∨ (cV l at' = v ∧ (aAb (aBuy l at' - aSel l at') < aAb u ∨ (aAb (aBuy l at' - aSel l at') = aAb u ∧ (aAb (at' - last) < aAb (p - last) ∨ (aAb (at' - last) = aAb (p - last) ∧ at' < p)))))))) := by
            have ab : ∀ z : Int, (if 0 ≤ z then z else 0 - z) = aAb z := fun z => by unfold aAb; split <;> omega
            have abd : ∀ z : Int, (-100000000 ≤ z ∧ z ≤ 100000000) → 0 ≤ aAb z ∧ aAb z ≤ 100000000 := fun z hz => by unfold aAb; split <;> omega
            have b1 := abd (aBuy l at' - aSel l at') ⟨by omega, by omega⟩
            have b2 := abd u ⟨by omega, by omega⟩
            have b3 := abd (at' - last) ⟨by omega, by omega⟩
            have b4 := abd (p - last) ⟨by omega, by omega⟩
            unfold f_X1_isPreferred
            rw [h0, h1, h2, ab, ab, ckI_p ⟨by omega, by omega⟩, ckI_p ⟨by omega, by omega⟩, ckI_p ⟨by omega, by omega⟩, ckI_p ⟨by omega, by omega⟩]
            simp only [ckI_p (show in32 (at' - last) from ⟨by omega, by omega⟩), ckI_p (show in32 (p - last) from ⟨by omega, by omega⟩), ab, ckI_p (show in32 (aAb (at' - last)) from ⟨by omega, by omega⟩), ckI_p (show in32 (aAb (p - last)) from ⟨by omega, by omega⟩)]
            by_cases d1 : cV l at' = v
            · rw [if_pos d1]
              by_cases d2 : aAb (aBuy l at' - aSel l at') = aAb u
              · rw [if_pos d2]
                by_cases d3 : aAb (at' - last) = aAb (p - last)
                · rw [if_pos d3]
                  by_cases d4 : at' < p
                  · rw [if_pos d4]; exact ⟨1, rfl, Or.inl ⟨rfl, by omega⟩⟩
                  · rw [if_neg d4]; exact ⟨0, rfl, Or.inr ⟨rfl, by omega⟩⟩
                · rw [if_neg d3]
                  by_cases d4 : aAb (at' - last) < aAb (p - last)
                  · rw [if_pos d4]; exact ⟨1, rfl, Or.inl ⟨rfl, by omega⟩⟩
                  · rw [if_neg d4]; exact ⟨0, rfl, Or.inr ⟨rfl, by omega⟩⟩
              · rw [if_neg d2, ckI_p ⟨by omega, by omega⟩, ckI_p ⟨by omega, by omega⟩]
                by_cases d4 : aAb (aBuy l at' - aSel l at') < aAb u
                · rw [if_pos d4]; exact ⟨1, rfl, Or.inl ⟨rfl, by omega⟩⟩
                · rw [if_neg d4]; exact ⟨0, rfl, Or.inr ⟨rfl, by omega⟩⟩
            · rw [if_neg d1]
              by_cases d4 : v < cV l at'
              · rw [if_pos d4]; exact ⟨1, rfl, Or.inl ⟨rfl, by omega⟩⟩
              · rw [if_neg d4]; exact ⟨0, rfl, Or.inr ⟨rfl, by omega⟩⟩
          obtain ⟨w, w1, w2⟩ := pf
          rw [kb2_p w1]
          rcases w2 with ⟨w2, w3⟩ | ⟨w2, w3⟩
          · rw [if_neg (by omega), kp_p, kp_p, ckI_p ⟨by omega, by omega⟩, kp_p]
            refine ⟨_, at', cV l at', aBuy l at' - aSel l at', rfl, ((dC.sI (by decide)).tr (dC.sI (by decide))).tr (dC.sI (by decide)), by rw [gI_f (by decide), gI_f (by decide), gI_s], by rw [gI_f (by decide), gI_s], gI_s, Or.inr ⟨hin, Or.inr rfl, rfl, c3, rfl, fun q k1 k2 => ?_⟩⟩
            rcases k2 with k2 | k2
            · rcases h with ⟨a1, a2, a3, a4⟩ | ⟨a1, a2, a3, a4, a5, a6⟩
              · have := a4 q k1 k2
                unfold cPf; omega
              · have hne := a6 q k1 k2
                rw [a3, a5] at w3
                have eM : cM l at' = aAb (aBuy l at' - aSel l at') := rfl
                have eM2 : cM l p = aAb (aBuy l p - aSel l p) := rfl
                have eD : cD last at' = aAb (at' - last) := rfl
                have eD2 : cD last p = aAb (p - last) := rfl
                unfold cPf at hne ⊢
                omega
            · subst k2; unfold cPf; omega
          · rw [if_pos w2]
            refine ⟨μ, p, v, u, rfl, dC.rf, h0, h1, h2, ?_⟩
            rcases h with ⟨a1, a2, a3, a4⟩ | ⟨a1, a2, a3, a4, a5, a6⟩
            · omega
            · refine Or.inr ⟨a1, Or.inl a2, a3, a4, a5, fun q k1 k2 => ?_⟩
              rcases k2 with k2 | k2
              · exact a6 q k1 k2
              · subst k2
                rw [a3, a5] at w3
                have eM : cM l q = aAb (aBuy l q - aSel l q) := rfl
                have eM2 : cM l p = aAb (aBuy l p - aSel l p) := rfl
                have eD : cD last q = aAb (q - last) := rfl
                have eD2 : cD last p = aAb (p - last) := rfl
                unfold cPf
                omega
        · rw [if_neg c3]
          have v0 : cV l at' = 0 := by unfold cV at c3 ⊢; omega
          refine ⟨μ, p, v, u, rfl, dC.rf, h0, h1, h2, ?_⟩
          rcases h with ⟨a1, a2, a3, a4⟩ | ⟨a1, a2, a3, a4, a5, a6⟩
          · exact Or.inl ⟨a1, a2, a3, fun q k1 k2 => k2.elim (a4 q k1) (fun e => by rw [e]; exact v0)⟩
          · refine Or.inr ⟨a1, Or.inl a2, a3, a4, a5, fun q k1 k2 => k2.elim (a6 q k1) (fun e => ?_)⟩
            subst e
            unfold cPf
            omega
      unfold f_X1_consider_L21
      refine qLoop_inv (fun i st => st = (c, b, at', last, aS (wBuy at') (l.take i), aS (wSel at') (l.take i), (i : Int), μ))
        (fun r => ∃ ν p' v' u', r = some ν ∧ dC c μ ν ∧ gI ν 100 c = p' ∧ gI ν 101 c = v' ∧ gI ν 102 c = u' ∧ cSo l last (fun q => C q ∨ q = at') p' v' u') l.length ?_ ?_ l.length 0 N _ (by omega) (by omega) rfl
      · rintro i st hi rfl
        refine Or.inr ⟨_, rfl, fun k => ?_⟩
        have b1 := aS_tk_bd (wBuy_bd (p := at') hl) (i := i) (by omega)
        have b2 := aS_tk_bd (wSel_bd (p := at') hl) (i := i) (by omega)
        have f2 : gI μ 402 (A i) = lG l i 2 := z_f0 hb hi 2 (by decide)
        have f3 : gI μ 403 (A i) = lG l i 3 := z_f0 hb hi 3 (by decide)
        have f4 : gI μ 404 (A i) = lG l i 4 := z_f0 hb hi 4 (by decide)
        have o2 := (hl.2 i hi).2.2.1
        have o4 := (hl.2 i hi).2.2.2.2.1
        show f_X1_consider_21 N G _ c b at' last (aS (wBuy at') (l.take i)) (aS (wSel at') (l.take i)) (i : Int) μ = k (c, b, at', last, aS (wBuy at') (l.take (i + 1)), aS (wSel at') (l.take (i + 1)), ((i + 1 : Nat) : Int), μ)
        rw [aS_take1 l hi, aS_take1 l hi]
        generalize aS (wBuy at') (l.take i) = S1 at *
        generalize aS (wSel at') (l.take i) = S2 at *
        unfold f_X1_consider_21 f_X1_consider_67 f_X1_consider_93 f_X1_consider_96 wBuy wSel
        rw [hb.1, if_pos (by omega), z_row0 hb (by omega), f2, f3, f4]
        have ci : ckI ((i : Int) + 1) = fun (kk : Int → Option qM) => kk ((i + 1 : Nat) : Int) := by funext kk; rw [ckI_p ⟨by omega, by omega⟩, cast1]
        by_cases d : lG l i 2 = 0
        · rw [if_pos d, if_neg (show ¬ (lG l i 2 = 1 ∧ lG l i 3 ≤ at') by omega)]
          by_cases e : lG l i 3 < at'
          · rw [if_pos e, if_neg (show ¬ (lG l i 2 = 0 ∧ at' ≤ lG l i 3) by omega), ckI_p ⟨by omega, by omega⟩, ci]; simp only [Int.add_zero]
          · rw [if_neg e, if_pos (show lG l i 2 = 0 ∧ at' ≤ lG l i 3 from ⟨d, by omega⟩), ckI_p ⟨by omega, by omega⟩, ci]; simp only [Int.add_zero]
        · rw [if_neg d, if_neg (show ¬ (lG l i 2 = 0 ∧ at' ≤ lG l i 3) from fun y => d y.1)]
          by_cases e : at' < lG l i 3
          · rw [if_pos e, if_neg (show ¬ (lG l i 2 = 1 ∧ lG l i 3 ≤ at') by omega), ckI_p ⟨by omega, by omega⟩, ci]; simp only [Int.add_zero]
          · rw [if_neg e, if_pos (show lG l i 2 = 1 ∧ lG l i 3 ≤ at' from ⟨by omega, by omega⟩), ckI_p ⟨by omega, by omega⟩, ci]; simp only [Int.add_zero]
      · rintro st rfl
        obtain ⟨ν, p', v', u', k1, k2⟩ := fin
        refine ⟨_, ⟨ν, p', v', u', k1, k2⟩, fun k => ?_⟩
        show f_X1_consider_21 N G _ c b at' last (aS (wBuy at') (l.take l.length)) (aS (wSel at') (l.take l.length)) (l.length : Int) μ = _
        unfold f_X1_consider_21
        rw [hb.1, if_neg (by omega), List.take_length]
        rfl
theorem z_seek1 {c : Nat} (hb : cB G b A μ l) (hl : lOk l) (hlast : 0 ≤ last ∧ last ≤ 9999999) (hN : 100 < N) :
    ∃ ν p v u, f_X1_seek N G c b last μ = some ν ∧ dC c μ ν ∧ gI ν 100 c = p ∧ gI ν 101 c = v ∧ gI ν 102 c = u ∧ cSp l last p v u := by
  have hn := hl.1
  unfold f_X1_seek
  rw [kp_p, kp_p, kp_p]
  have d0 : dC c μ (sI (sI (sI μ 100 c 0) 101 c 0) 102 c 0) := ((dC.sI (by decide)).tr (dC.sI (by decide))).tr (dC.sI (by decide))
  obtain ⟨μ1, p1, v1, u1, a1, a2, a3, a4, a5, a6⟩ := z_consider1 (N := N) (c := c) (hb.dc hn d0) hl hlast hN (C := fun _ => False) (by rw [gI_f (by decide), gI_f (by decide), gI_s]) (by rw [gI_f (by decide), gI_s]) gI_s (Or.inl ⟨rfl, rfl, rfl, fun _ _ q => q.elim⟩) last ⟨by omega, by omega⟩
  rw [kb_p a1]
  unfold f_X1_seek_L24
  refine qLoop_inv (fun i st => ∃ mem p v u, st = (c, b, last, (i : Int), mem) ∧ dC c μ mem ∧ gI mem 100 c = p ∧ gI mem 101 c = v ∧ gI mem 102 c = u ∧ cSo l last (fun q => q = last ∨ ∃ j, j < i ∧ (q = lG l j 3 - 1 ∨ q = lG l j 3 ∨ q = lG l j 3 + 1)) p v u)
    (fun r => ∃ ν p v u, r = some ν ∧ dC c μ ν ∧ gI ν 100 c = p ∧ gI ν 101 c = v ∧ gI ν 102 c = u ∧ cSp l last p v u) l.length ?_ ?_ l.length 0 N _ (by omega) (by omega) ⟨μ1, p1, v1, u1, rfl, d0.tr a2, a3, a4, a5, a6.mono (fun q => by constructor; rintro (h | h); exact h.elim; exact Or.inl h; rintro (h | ⟨j, hj, -⟩); exact Or.inr h; omega)⟩
  · rintro i st hi ⟨mem, p, v, u, rfl, hd, g0, g1, g2, hso⟩
    refine Or.inr ?_
    have hb1 := hb.dc hn hd
    have o3 := (hl.2 i hi).2.2.2.1
    have f3 : gI mem 403 (A i) = lG l i 3 := z_f0 hb1 hi 3 (by decide)
    obtain ⟨m1, q1, w1, x1, c1, c2, c3, c4, c5, c6⟩ := z_consider1 (N := N) (c := c) hb1 hl hlast hN g0 g1 g2 hso (lG l i 3 - 1) ⟨by omega, by omega⟩
    obtain ⟨m2, q2, w2, x2, e1, e2, e3, e4, e5, e6⟩ := z_consider1 (N := N) (c := c) (hb1.dc hn c2) hl hlast hN c3 c4 c5 c6 (lG l i 3) ⟨by omega, by omega⟩
    obtain ⟨m3, q3, w3, x3, k1, k2, k3, k4, k5, k6⟩ := z_consider1 (N := N) (c := c) ((hb1.dc hn c2).dc hn e2) hl hlast hN e3 e4 e5 e6 (lG l i 3 + 1) ⟨by omega, by omega⟩
    refine ⟨_, ⟨m3, q3, w3, x3, rfl, ((hd.tr c2).tr e2).tr k2, k3, k4, k5, k6.mono (fun q => ?_)⟩, fun kk => ?_⟩
    · constructor
      · rintro ((((h | ⟨j, hj, h⟩) | h) | h) | h)
        · exact Or.inl h
        · exact Or.inr ⟨j, by omega, h⟩
        · exact Or.inr ⟨i, by omega, Or.inl h⟩
        · exact Or.inr ⟨i, by omega, Or.inr (Or.inl h)⟩
        · exact Or.inr ⟨i, by omega, Or.inr (Or.inr h)⟩
      · rintro (h | ⟨j, hj, h⟩)
        · exact Or.inl (Or.inl (Or.inl (Or.inl h)))
        · by_cases e : j = i
          · subst e
            rcases h with h | h | h
            · exact Or.inl (Or.inl (Or.inr h))
            · exact Or.inl (Or.inr h)
            · exact Or.inr h
          · exact Or.inl (Or.inl (Or.inl (Or.inr ⟨j, by omega, h⟩)))
    · show f_X1_seek_24 N G _ c b last (i : Int) mem = _
      unfold f_X1_seek_24
      rw [hb1.1, if_pos (by omega), z_row0 hb1 (by omega), f3, ckI_p ⟨by omega, by omega⟩, kb_p c1, kb_p e1, ckI_p ⟨by omega, by omega⟩, kb_p k1, ckI_p ⟨by omega, by omega⟩, cast1]
  · rintro st ⟨mem, p, v, u, rfl, hd, g0, g1, g2, hso⟩
    refine ⟨_, ⟨mem, p, v, u, rfl, hd, g0, g1, g2, cSo.all hl hlast (hso.mono (fun q => Iff.rfl))⟩, fun k => ?_⟩
    show f_X1_seek_24 N G _ c b last (l.length : Int) mem = _
    unfold f_X1_seek_24
    rw [(hb.dc hn hd).1, if_neg (by omega)]
end SEEK
