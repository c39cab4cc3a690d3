/-! PURE: the reference's clearing; 'clears' on both sides -/
def brk (o : Nat → Int) : Int := if o 2 = 0 then o 3 else o 3 - 1
def aEndF (b e : Int) (o : Nat → Int) : Int := if b ≤ brk o ∧ brk o < e then brk o else e
def aEnd (b : Int) (l : List (Nat → Int)) : Int := l.foldl (aEndF b) 9999999
theorem aEnd_f {b : Int} : ∀ (l : List (Nat → Int)) (e : Int), (l.foldl (aEndF b) e ≤ e) ∧ (l.foldl (aEndF b) e = e ∨ ∃ i, i < l.length ∧ b ≤ brk (lG l i) ∧ l.foldl (aEndF b) e = brk (lG l i)) ∧ ∀ i, i < l.length → b ≤ brk (lG l i) → l.foldl (aEndF b) e ≤ brk (lG l i) := by
  intro l
  induction l with
  | nil => intro e; exact ⟨Int.le_refl _, Or.inl rfl, fun i hi => by cases hi⟩
  | cons o t ih =>
    intro e
    rw [List.foldl_cons]
    obtain ⟨h1, h2, h3⟩ := ih (aEndF b e o)
    have hf : aEndF b e o ≤ e ∧ (b ≤ brk o → aEndF b e o ≤ brk o) ∧ (aEndF b e o = e ∨ (b ≤ brk o ∧ aEndF b e o = brk o)) := by
      unfold aEndF
      split
      · rename_i c; exact ⟨Int.le_of_lt c.2, fun _ => Int.le_refl _, Or.inr ⟨c.1, rfl⟩⟩
      · rename_i c; exact ⟨Int.le_refl _, fun hb => Int.not_lt.mp (fun q => c ⟨hb, q⟩), Or.inl rfl⟩
    refine ⟨Int.le_trans h1 hf.1, ?_, fun i hi hb => ?_⟩
    · rcases h2 with h2 | ⟨i, a1, a2, a3⟩
      · rcases hf.2.2 with q | ⟨q1, q2⟩
        · exact Or.inl (h2.trans q)
        · exact Or.inr ⟨0, by simp, q1, h2.trans q2⟩
      · exact Or.inr ⟨i + 1, by simpa using a1, a2, a3⟩
    · cases i with
      | zero => exact Int.le_trans h1 (hf.2.1 hb)
      | succ i => exact h3 i (by simpa using hi) hb
section END
variable {l : List (Nat → Int)} {b q last p v u : Int}
theorem aEnd_bd (hb : b ≤ 9999999) : b ≤ aEnd b l ∧ aEnd b l ≤ 9999999 := by
  obtain ⟨h1, h2, -⟩ := aEnd_f (b := b) l 9999999
  refine ⟨?_, h1⟩
  rcases h2 with h2 | ⟨i, -, a2, a3⟩
  · unfold aEnd; rw [h2]; exact hb
  · unfold aEnd; rw [a3]; exact a2
theorem aEnd_le {i : Nat} (hi : i < l.length) (hb : b ≤ brk (lG l i)) : aEnd b l ≤ brk (lG l i) := (aEnd_f (b := b) l 9999999).2.2 i hi hb
/-- all prices of a stretch are alike -/
theorem aEnd_same : ∀ (d : Nat), b + (d : Int) ≤ aEnd b l → aBuy l (b + (d : Int)) = aBuy l b ∧ aSel l (b + (d : Int)) = aSel l b := by
  intro d
  induction d with
  | zero => intro _; rw [show b + ((0 : Nat) : Int) = b by omega]; exact ⟨rfl, rfl⟩
  | succ d ih =>
    intro hd
    obtain ⟨h1, h2⟩ := ih (by omega)
    have e : b + ((d + 1 : Nat) : Int) = b + (d : Int) + 1 := by omega
    rw [e]
    refine ⟨?_, ?_⟩
    · rw [← h1]
      refine Decidable.byContradiction (fun hn => ?_)
      obtain ⟨i, hi, a1, a2⟩ := buy_step hn
      have hk : brk (lG l i) = b + (d : Int) := by unfold brk; rw [if_pos a1, a2]
      have := aEnd_le (b := b) hi (by omega)
      omega
    · rw [← h2]
      refine Decidable.byContradiction (fun hn => ?_)
      obtain ⟨i, hi, a1, a2⟩ := sel_step hn
      have hk : brk (lG l i) = b + (d : Int) := by unfold brk; rw [if_neg (by omega), a2]; omega
      have := aEnd_le (b := b) hi (by omega)
      omega
theorem aEnd_eq (h1 : b ≤ q) (h2 : q ≤ aEnd b l) : aBuy l q = aBuy l b ∧ aSel l q = aSel l b := by
  have := aEnd_same (l := l) (b := b) (q - b).toNat (by omega)
  rw [show b + (((q - b).toNat : Nat) : Int) = q by omega] at this
  exact this
/-- the price of a stretch that lies nearest to the last one -/
def aClp (last b e : Int) : Int := if last < b then b else if e < last then e else last
theorem aClp_in (h : b ≤ aEnd b l) : b ≤ aClp last b (aEnd b l) ∧ aClp last b (aEnd b l) ≤ aEnd b l := by
  unfold aClp
  split
  · omega
  · split <;> omega
theorem aClp_best (h1 : b ≤ q) (h2 : q ≤ aEnd b l) : ¬ cPf l last q (aClp last b (aEnd b l)) := by
  have hc := aClp_in (l := l) (b := b) (last := last) (by omega)
  obtain ⟨e1, e2⟩ := aEnd_eq (l := l) h1 h2
  obtain ⟨e3, e4⟩ := aEnd_eq (l := l) hc.1 hc.2
  have eV : cV l q = cV l (aClp last b (aEnd b l)) := by unfold cV; rw [e1, e2, e3, e4]
  have eM : cM l q = cM l (aClp last b (aEnd b l)) := by unfold cM; rw [e1, e2, e3, e4]
  have eD : cD last (aClp last b (aEnd b l)) ≤ cD last q ∧ (cD last q = cD last (aClp last b (aEnd b l)) → aClp last b (aEnd b l) ≤ q) := by
    generalize aEnd b l = e at *
    unfold cD aAb aClp
    refine ⟨?_, fun k => ?_⟩
    · repeat' split
      all_goals omega
    · revert k
      repeat' split
      all_goals omega
  unfold cPf
  omega
/-- one stretch more -/
theorem cSo_st (hl : lOk l) (hb : 1 ≤ b ∧ b ≤ 9999999) (h : cSo l last (fun q => q < b) p v u) :
    (v ≤ cV l (aClp last b (aEnd b l)) → 0 < cV l (aClp last b (aEnd b l)) → (cV l (aClp last b (aEnd b l)) = v → aAb (aBuy l (aClp last b (aEnd b l)) - aSel l (aClp last b (aEnd b l))) < aAb u ∨ (aAb (aBuy l (aClp last b (aEnd b l)) - aSel l (aClp last b (aEnd b l))) = aAb u ∧ aAb (aClp last b (aEnd b l) - last) < aAb (p - last))) →
      cSo l last (fun q => q < aEnd b l + 1) (aClp last b (aEnd b l)) (cV l (aClp last b (aEnd b l))) (aBuy l (aClp last b (aEnd b l)) - aSel l (aClp last b (aEnd b l)))) ∧
    (cV l (aClp last b (aEnd b l)) = 0 ∨ cV l (aClp last b (aEnd b l)) < v ∨ (cV l (aClp last b (aEnd b l)) = v ∧ (aAb u < aAb (aBuy l (aClp last b (aEnd b l)) - aSel l (aClp last b (aEnd b l))) ∨ (aAb (aBuy l (aClp last b (aEnd b l)) - aSel l (aClp last b (aEnd b l))) = aAb u ∧ aAb (p - last) ≤ aAb (aClp last b (aEnd b l) - last)))) → cSo l last (fun q => q < aEnd b l + 1) p v u) := by
  have he := aEnd_bd (l := l) hb.2
  have hc := aClp_in (l := l) (b := b) (last := last) he.1
  have best : ∀ q, b ≤ q → q ≤ aEnd b l → ¬ cPf l last q (aClp last b (aEnd b l)) := fun q h1 h2 => aClp_best h1 h2
  have same : ∀ q, b ≤ q → q ≤ aEnd b l → cV l q = cV l (aClp last b (aEnd b l)) := by
    intro q h1 h2
    obtain ⟨e1, e2⟩ := aEnd_eq (l := l) h1 h2
    obtain ⟨e3, e4⟩ := aEnd_eq (l := l) hc.1 hc.2
    unfold cV; rw [e1, e2, e3, e4]
  generalize hx : aClp last b (aEnd b l) = x at *
  have eM : cM l x = aAb (aBuy l x - aSel l x) := rfl
  have eM2 : cM l p = aAb (aBuy l p - aSel l p) := rfl
  have eD : cD last x = aAb (x - last) := rfl
  have eD2 : cD last p = aAb (p - last) := rfl
  refine ⟨fun k1 k2 k3 => Or.inr ⟨⟨by omega, by omega⟩, (by show x < aEnd b l + 1; omega), rfl, k2, rfl, fun q q1 q2 => ?_⟩, fun k => ?_⟩
  · by_cases c : b ≤ q
    · exact best q c (by have : q < aEnd b l + 1 := q2; omega)
    · rcases h with ⟨a1, a2, a3, a4⟩ | ⟨a1, a2, a3, a4, a5, a6⟩
      · have := a4 q q1 (by omega)
        unfold cPf; omega
      · have hne := a6 q q1 (by omega)
        have hp : p < b := a2
        rw [a3, a5] at k3
        rw [a3] at k1
        unfold cPf at hne ⊢
        omega
  · rcases h with ⟨a1, a2, a3, a4⟩ | ⟨a1, a2, a3, a4, a5, a6⟩
    · have nn : 0 ≤ cV l x := by have := aBS_bd (p := x) hl; unfold cV; omega
      refine Or.inl ⟨a1, a2, a3, fun q q1 q2 => ?_⟩
      have u0 : aAb u = 0 := by rw [a3]; rfl
      by_cases c : b ≤ q
      · rw [same q c (by have : q < aEnd b l + 1 := q2; omega)]
        omega
      · exact a4 q q1 (by omega)
    · have hp : p < b := a2
      refine Or.inr ⟨a1, (by show p < aEnd b l + 1; omega), a3, a4, a5, fun q q1 q2 => ?_⟩
      by_cases c : b ≤ q
      · have hq2 : q ≤ aEnd b l := by have : q < aEnd b l + 1 := q2; omega
        have hne := best q c hq2
        rw [a3, a5] at k
        unfold cPf at hne ⊢
        omega
      · exact a6 q q1 (by omega)
end END
section CLEAR8
variable {N : Nat} {G : qG} {ρ : Nat → Nat × Nat} {f m : Nat} {μ ν : qM} {l : List (Nat → Int)} {T D : Nat → Int} {tr : Nat → Nat → Int} {n : Nat} {B : Nat → Int} {b last p v u : Int}
theorem z_endOf8 (h : mB G m μ l) (hl : lOk l) (hN : 100 < N) : f_X8_endOf N G m b μ = some (aEnd b l, μ) := by
  have hn := hl.1
  unfold f_X8_endOf f_X8_endOf_L5
  refine qLoop_end (fun i => (m, b, (l.take i).foldl (aEndF b) 9999999, (i : Int), μ)) l.length N (by omega) (fun i hi k => ?_) (fun k => ?_)
  · show f_X8_endOf_5 N G _ m b ((l.take i).foldl (aEndF b) 9999999) (i : Int) μ = k (m, b, (l.take (i + 1)).foldl (aEndF b) 9999999, ((i + 1 : Nat) : Int), μ)
    rw [foldl_take _ _ _ hi]
    generalize (l.take i).foldl (aEndF b) 9999999 = e
    have o3 := (hl.2 i hi).2.2.2.1
    have mid : ∀ z, z = brk (lG l i) → f_X8_endOf_41 N G (fun x0 x1 x2 x3 m0 => k (x0, x1, x2, x3, m0)) m b e (i : Int) z μ = k (m, b, aEndF b e (lG l i), ((i + 1 : Nat) : Int), μ) := by
      intro z hz
      subst hz
      unfold f_X8_endOf_41 f_X8_endOf_58 aEndF
      have ci : ckI ((i : Int) + 1) = fun (kk : Int → Option (Int × qM)) => kk ((i + 1 : Nat) : Int) := by funext kk; rw [ckI_p ⟨by omega, by omega⟩, cast1]
      rw [ci]
      by_cases c : brk (lG l i) < b
      · rw [if_pos c, if_neg (by omega)]
      · rw [if_neg c]
        by_cases d : brk (lG l i) < e
        · rw [if_pos d, if_pos ⟨by omega, d⟩]
        · rw [if_neg d, if_neg (fun y => d y.2)]
    unfold f_X8_endOf_5
    rw [h.1, if_pos (by omega), kb2_p (z8_2 h hn hi)]
    by_cases c : lG l i 2 = 0
    · rw [if_pos c, kb2_p (z8_3 h hn hi)]
      exact mid _ (by unfold brk; rw [if_pos c])
    · rw [if_neg c, kb2_p (z8_3 h hn hi), ckI_p ⟨by omega, by omega⟩]
      exact mid _ (by unfold brk; rw [if_neg c])
  · show f_X8_endOf_5 N G _ m b ((l.take l.length).foldl (aEndF b) 9999999) (l.length : Int) μ = _
    unfold f_X8_endOf_5
    rw [h.1, if_neg (by omega), List.take_length]
    rfl
theorem z_wanted8 (h : mB G m μ l) (hl : lOk l) (hN : 100 < N) (p : Int) : f_X8_wanted N G m 0 p μ = some (aBuy l p, μ) ∧ f_X8_wanted N G m 1 p μ = some (aSel l p, μ) := by
  have hn := hl.1
  have gen : ∀ (sd : Int) (w : (Nat → Int) → Int), (∀ i, i < l.length → w (lG l i) = if lG l i 2 = sd ∧ ¬ aBet sd p (lG l i 3) = true then lG l i 4 else 0) → f_X8_wanted N G m sd p μ = some (aS w l, μ) := by
    intro sd w hw
    have hwb : ∀ i, i < l.length → 0 ≤ w (lG l i) ∧ w (lG l i) ≤ 1000 := fun i hi => by
      have h4 := (hl.2 i hi).2.2.2.2.1
      rw [hw i hi]
      split <;> omega
    unfold f_X8_wanted f_X8_wanted_L5
    refine qLoop_end (fun i => (m, sd, p, aS w (l.take i), (i : Int), μ)) l.length N (by omega) (fun i hi k => ?_) (fun k => ?_)
    · show f_X8_wanted_5 N G _ m sd p (aS w (l.take i)) (i : Int) μ = k (m, sd, p, aS w (l.take (i + 1)), ((i + 1 : Nat) : Int), μ)
      have b1 := aS_tk_bd hwb (i := i) (by omega)
      have b2 := hwb i hi
      rw [aS_take1 l hi]
      generalize aS w (l.take i) = S at *
      rw [hw i hi] at b2 ⊢
      unfold f_X8_wanted_5 f_X8_wanted_52
      have ci : ckI ((i : Int) + 1) = fun (kk : Int → Option (Int × qM)) => kk ((i + 1 : Nat) : Int) := by funext kk; rw [ckI_p ⟨by omega, by omega⟩, cast1]
      rw [h.1, if_pos (by omega), kb2_p (z8_2 h hn hi), ci]
      by_cases c : lG l i 2 = sd
      · rw [if_pos c, kb2_p (z8_3 h hn hi), kb2_p z_isBetter8, b01_ite]
        by_cases d : aBet sd p (lG l i 3) = true
        · rw [if_pos d, if_neg (fun y => y.2 d), Int.add_zero]
        · rw [if_pos ⟨c, d⟩] at b2
          rw [if_neg d, if_pos ⟨c, d⟩, kb2_p (z8_4 h hn hi), ckI_p ⟨by omega, by omega⟩]
      · rw [if_neg c, if_neg (fun y => c y.1), Int.add_zero]
    · show f_X8_wanted_5 N G _ m sd p (aS w (l.take l.length)) (l.length : Int) μ = _
      unfold f_X8_wanted_5
      rw [h.1, if_neg (by omega), List.take_length]
  refine ⟨gen 0 (wBuy p) (fun i _ => ?_), gen 1 (wSel p) (fun i _ => ?_)⟩
  · unfold wBuy aBet
    by_cases c : lG l i 2 = 0
    · by_cases d : p ≤ lG l i 3
      · rw [if_pos ⟨c, d⟩, if_pos ⟨c, by simp; omega⟩]
      · rw [if_neg (fun y => d y.2), if_neg (fun y => y.2 (by simp; omega))]
    · rw [if_neg (fun y => c y.1), if_neg (fun y => c y.1)]
  · unfold wSel aBet
    by_cases c : lG l i 2 = 1
    · by_cases d : lG l i 3 ≤ p
      · rw [if_pos ⟨c, d⟩, if_pos ⟨c, by simp; omega⟩]
      · rw [if_neg (fun y => d y.2), if_neg (fun y => y.2 (by simp; omega))]
    · rw [if_neg (fun y => c y.1), if_neg (fun y => c y.1)]
theorem z_off08 {a c : Int} (ha : -100000000 ≤ a ∧ a ≤ 100000000) (hc : -100000000 ≤ c ∧ c ≤ 100000000) : f_X8_off0 N G a c μ = some (aAb (a - c), μ) := by
  unfold f_X8_off0 aAb
  by_cases d : c < a
  · rw [if_pos d, ckI_p ⟨by omega, by omega⟩, if_pos (by omega)]
  · rw [if_neg d, ckI_p ⟨by omega, by omega⟩]
    by_cases e : 0 ≤ a - c
    · rw [if_pos e, show c - a = a - c by omega]
    · rw [if_neg e, show -(a - c) = c - a by omega]
def lF (g : Nat) : Prop := 818 ≤ g ∧ g ≤ 820
def noA (_ : Nat) : Prop := False
theorem mR.clr (h : mR G m μ l T D tr n B) (hd : dRf G m lF noA μ ν) : mR G m ν l T D tr n B :=
  ⟨⟨by rw [hd.2.1 _ _ (fun f q => q.elim)]; exact h.1.1, fun i k hi hk => by rw [hd.2.1 _ _ (fun f q => q.elim)]; exact h.1.2 i k hi hk⟩, fun j a b => by rw [hd.2.1 _ _ (fun f q => q.elim)]; exact h.2.1 j a b, fun t ht => by rw [hd.2.1 _ _ (fun f q => q.elim)]; exact h.2.2.1 t ht, fun i w hi hw => by rw [hd.2.1 _ _ (fun f q => q.elim)]; exact h.2.2.2.1 i w hi hw, by rw [hd.1 _ _ (fun q => by have := q.2; unfold lF at this; omega)]; exact h.2.2.2.2.1, h.2.2.2.2.2.1, fun j hj => by rw [hd.2.1 _ _ (fun f q => q.elim)]; exact h.2.2.2.2.2.2 j hj⟩
theorem z_weighs8 (h : mR G m μ l T D tr n B) (hl : lOk l) (hT3 : 0 ≤ T 3 ∧ T 3 ≤ 9999999) (hN : 100 < N) (hb : 1 ≤ b ∧ b ≤ 9999999) (h0 : gI μ 818 m = p) (h1 : gI μ 819 m = v) (h2 : gI μ 820 m = u) (hs : cSo l (T 3) (fun q => q < b) p v u) :
    ∃ ν p' v' u', f_X8_weighs N G m b μ = some ν ∧ dRf G m lF noA μ ν ∧ gI ν 818 m = p' ∧ gI ν 819 m = v' ∧ gI ν 820 m = u' ∧ cSo l (T 3) (fun q => q < aEnd b l + 1) p' v' u' := by
  have he := aEnd_bd (l := l) hb.2
  have hc := aClp_in (l := l) (b := b) (last := T 3) he.1
  obtain ⟨yes, no⟩ := cSo_st hl hb hs
  have bs := aBS_bd (p := aClp (T 3) b (aEnd b l)) hl
  have hp : 0 ≤ p ∧ p ≤ 9999999 := by rcases hs with ⟨a1, -⟩ | ⟨a1, -⟩; omega; exact ⟨by have := a1.1; omega, a1.2⟩
  have hu : -60000 ≤ u ∧ u ≤ 60000 := by
    rcases hs with ⟨-, -, a3, -⟩ | ⟨-, -, -, -, a5, -⟩
    · omega
    · have := aBS_bd (p := p) hl; omega
  have pre : f_X8_weighs N G m b μ = f_X8_weighs_40 N G m (aClp (T 3) b (aEnd b l)) μ := by
    unfold f_X8_weighs aClp
    rw [kb2_p (z_endOf8 h.1 hl hN), h.2.1 3 (by decide) (by decide)]
    by_cases c : T 3 < b
    · rw [if_pos c, if_pos c]
    · rw [if_neg c, if_neg c]
      by_cases d : aEnd b l < T 3
      · rw [if_pos d, if_pos d]
      · rw [if_neg d, if_neg d]
  rw [pre]
  generalize aClp (T 3) b (aEnd b l) = x at *
  have set : cSo l (T 3) (fun q => q < aEnd b l + 1) x (cV l x) (aBuy l x - aSel l x) → ∃ ν p' v' u', f_X8_weighs_168 N G m x (aBuy l x) (aSel l x) (cV l x) μ = some ν ∧ dRf G m lF noA μ ν ∧ gI ν 818 m = p' ∧ gI ν 819 m = v' ∧ gI ν 820 m = u' ∧ cSo l (T 3) (fun q => q < aEnd b l + 1) p' v' u' := by
    intro hso
    unfold f_X8_weighs_168
    rw [kp_p, kp_p, ckI_p ⟨by omega, by omega⟩, kp_p]
    exact ⟨_, _, _, _, rfl, ((dRf.sI (by unfold lF; omega)).tr (dRf.sI (by unfold lF; omega))).tr (dRf.sI (by unfold lF; omega)), by rw [gI_f (by decide), gI_f (by decide), gI_s], by rw [gI_f (by decide), gI_s], gI_s, hso⟩
  have keep : cSo l (T 3) (fun q => q < aEnd b l + 1) p v u → ∃ ν p' v' u', some μ = some ν ∧ dRf G m lF noA μ ν ∧ gI ν 818 m = p' ∧ gI ν 819 m = v' ∧ gI ν 820 m = u' ∧ cSo l (T 3) (fun q => q < aEnd b l + 1) p' v' u' := fun hso => ⟨μ, p, v, u, rfl, dRf.rf, h0, h1, h2, hso⟩
  have mid : ∃ ν p' v' u', f_X8_weighs_71 N G m x (aBuy l x) (aSel l x) (cV l x) μ = some ν ∧ dRf G m lF noA μ ν ∧ gI ν 818 m = p' ∧ gI ν 819 m = v' ∧ gI ν 820 m = u' ∧ cSo l (T 3) (fun q => q < aEnd b l + 1) p' v' u' := by
    have nn : 0 ≤ cV l x := by unfold cV; omega
    unfold f_X8_weighs_71
    rw [h1]
    by_cases c0 : cV l x = 0
    · rw [if_pos c0]; exact keep (no (Or.inl c0))
    · rw [if_neg c0]
      by_cases c1 : cV l x < v
      · rw [if_pos c1]; exact keep (no (Or.inr (Or.inl c1)))
      · rw [if_neg c1]
        by_cases c2 : cV l x = v
        · rw [if_pos c2, kb2_p (z_off08 ⟨by omega, by omega⟩ ⟨by omega, by omega⟩), h2]
          have eA : aAb (aSel l x - aBuy l x) = aAb (aBuy l x - aSel l x) := by unfold aAb; split <;> split <;> omega
          have fin : ∀ z, z = aAb u → ∃ ν p' v' u', f_X8_weighs_125 N G m x (aBuy l x) (aSel l x) (cV l x) (aAb (aSel l x - aBuy l x)) z μ = some ν ∧ dRf G m lF noA μ ν ∧ gI ν 818 m = p' ∧ gI ν 819 m = v' ∧ gI ν 820 m = u' ∧ cSo l (T 3) (fun q => q < aEnd b l + 1) p' v' u' := by
            intro z hz
            subst hz
            unfold f_X8_weighs_125
            rw [eA]
            by_cases d1 : aAb u < aAb (aBuy l x - aSel l x)
            · rw [if_pos d1]; exact keep (no (Or.inr (Or.inr ⟨c2, Or.inl d1⟩)))
            · rw [if_neg d1]
              by_cases d2 : aAb (aBuy l x - aSel l x) = aAb u
              · rw [if_pos d2, h.2.1 3 (by decide) (by decide), kb2_p (z_off08 ⟨by omega, by omega⟩ ⟨by omega, by omega⟩), h.2.1 3 (by decide) (by decide), h0, kb2_p (z_off08 ⟨by omega, by omega⟩ ⟨by omega, by omega⟩)]
                by_cases d3 : aAb (x - T 3) < aAb (p - T 3)
                · rw [if_pos d3]; exact set (yes (by omega) (by omega) (fun _ => Or.inr ⟨d2, d3⟩))
                · rw [if_neg d3]; exact keep (no (Or.inr (Or.inr ⟨c2, Or.inr ⟨d2, by omega⟩⟩)))
              · rw [if_neg d2]; exact set (yes (by omega) (by omega) (fun _ => Or.inl (by omega)))
          by_cases d : u < 0
          · rw [if_pos d, ckI_p ⟨by omega, by omega⟩]
            exact fin _ (by unfold aAb; rw [if_neg (by omega)])
          · rw [if_neg d]
            exact fin _ (by unfold aAb; rw [if_pos (by omega)])
        · rw [if_neg c2]; exact set (yes (by omega) (by omega) (fun q => absurd q c2))
  unfold f_X8_weighs_40
  rw [kb2_p (z_wanted8 h.1 hl hN x).1, kb2_p (z_wanted8 h.1 hl hN x).2]
  by_cases c : aSel l x < aBuy l x
  · have e : aSel l x = cV l x := by unfold cV; omega
    rw [if_pos c]
    have := mid
    rw [← e] at this
    exact this
  · have e : aBuy l x = cV l x := by unfold cV; omega
    rw [if_neg c]
    have := mid
    rw [← e] at this
    exact this
theorem z_clearing8 (h : mR G m μ l T D tr n B) (hl : lOk l) (hT3 : 0 ≤ T 3 ∧ T 3 ≤ 9999999) (hN : 100 < N) :
    ∃ ν p v u, f_X8_clearing N G m μ = some ν ∧ dRf G m lF noA μ ν ∧ gI ν 818 m = p ∧ gI ν 819 m = v ∧ gI ν 820 m = u ∧ cSp l (T 3) p v u := by
  have hn := hl.1
  have d0 : dRf G m lF noA μ (sI (sI (sI μ 818 m 0) 819 m 0) 820 m 0) := ((dRf.sI (by unfold lF; omega)).tr (dRf.sI (by unfold lF; omega))).tr (dRf.sI (by unfold lF; omega))
  have cnt_bd : ∀ b, 0 ≤ aS (fun o => if b ≤ brk o then (1 : Int) else 0) l ∧ aS (fun o => if b ≤ brk o then (1 : Int) else 0) l ≤ 60 := by
    intro b
    have := aS_bd (w := fun o => if b ≤ brk o then (1 : Int) else 0) (M := 1) (l := l) (fun i hi => by split <;> omega)
    omega
  unfold f_X8_clearing
  rw [kp_p, kp_p, kp_p]
  unfold f_X8_clearing_L17
  refine qLoop_dn
    (fun d st => ∃ b mem p v u, st = (m, b, mem) ∧ dRf G m lF noA μ mem ∧ gI mem 818 m = p ∧ gI mem 819 m = v ∧ gI mem 820 m = u ∧ 1 ≤ b ∧ b ≤ 10000000 ∧ cSo l (T 3) (fun q => q < b) p v u ∧ (9999999 < b ∨ aS (fun o => if b ≤ brk o then (1 : Int) else 0) l + 1 ≤ (d : Int)))
    (fun r => ∃ ν p v u, r = some ν ∧ dRf G m lF noA μ ν ∧ gI ν 818 m = p ∧ gI ν 819 m = v ∧ gI ν 820 m = u ∧ cSp l (T 3) p v u) ?_ 61 N _ (by omega)
    ⟨1, _, 0, 0, 0, rfl, d0, by rw [gI_f (by decide), gI_f (by decide), gI_s], by rw [gI_f (by decide), gI_s], gI_s, by decide, by decide, Or.inl ⟨rfl, rfl, rfl, fun q q1 q2 => by have := q1.1; omega⟩, Or.inr (by have := cnt_bd 1; omega)⟩
  rintro d st ⟨b, mem, p, v, u, rfl, hd, g0, g1, g2, b1, b2, hso, hm⟩
  by_cases c : 9999999 < b
  · refine Or.inl ⟨some mem, ⟨mem, p, v, u, rfl, hd, g0, g1, g2, ?_⟩, fun k => ?_⟩
    · rcases hso with ⟨a1, a2, a3, a4⟩ | ⟨a1, a2, a3, a4, a5, a6⟩
      · exact Or.inl ⟨a1, a2, a3, fun q q1 => a4 q q1 (by have := q1.2; omega)⟩
      · exact Or.inr ⟨a1, a3, a4, a5, fun q q1 => a6 q q1 (by have := q1.2; omega)⟩
    · show f_X8_clearing_17 N G _ m b mem = _
      unfold f_X8_clearing_17
      rw [if_pos c]
  · refine Or.inr ?_
    have hm1 := h.clr hd
    obtain ⟨μ1, p1, v1, u1, k1, k2, k3, k4, k5, k6⟩ := z_weighs8 (N := N) hm1 hl hT3 hN ⟨b1, by omega⟩ g0 g1 g2 hso
    have he := aEnd_bd (l := l) (b := b) (by omega)
    have hm2 := hm1.clr k2
    have hc0 := cnt_bd b
    refine ⟨d - 1, (m, aEnd b l + 1, μ1), by omega, ⟨aEnd b l + 1, μ1, p1, v1, u1, rfl, hd.tr k2, k3, k4, k5, by omega, by omega, k6, ?_⟩, fun k => ?_⟩
    · by_cases e : aEnd b l = 9999999
      · exact Or.inl (by omega)
      · refine Or.inr ?_
        obtain ⟨-, h2, -⟩ := aEnd_f (b := b) l 9999999
        rcases h2 with h2 | ⟨i, hi, a2, a3⟩
        · exact absurd h2 e
        · have a3' : aEnd b l = brk (lG l i) := a3
          have := aS_lt (w := fun o => if aEnd b l + 1 ≤ brk o then (1 : Int) else 0) (v := fun o => if b ≤ brk o then (1 : Int) else 0) (l := l) (j := i) (fun j _ => by split <;> split <;> omega) hi (by rw [if_neg (by omega), if_pos a2]; decide)
          omega
    · show f_X8_clearing_17 N G _ m b mem = _
      unfold f_X8_clearing_17
      rw [if_neg c, kb_p k1, kb2_p (z_endOf8 hm2.1 hl hN), ckI_p ⟨by omega, by omega⟩]
def aClears (w p v u : Int) : Int := if w = 0 then p else if w = 1 then v else u
theorem z_clears8 (h : mR G m μ l T D tr n B) (ho : mOk l T) (hN : 100 < N) (w : Int) :
    ∃ ν r, f_X8_clears N G m w μ = some (r, ν) ∧ mR G m ν l T D tr n B ∧ (aIn w 0 2 = false → r = -1) ∧ (aIn w 0 2 = true → T 2 = 0 → r = 0) ∧ (aIn w 0 2 = true → T 2 ≠ 0 → ∃ p v u, cSp l (T 3) p v u ∧ r = aClears w p v u) := by
  have h1 := h.fld (f := 804) (a := m) (v := 0) (by decide)
  unfold f_X8_clears
  rw [kp_p, kb2_p z_within8, b01_ite, h1.2.1 2 (by decide) (by decide)]
  by_cases c : aIn w 0 2 = true
  · rw [if_pos c]
    by_cases d : T 2 = 0
    · rw [if_pos d]
      exact ⟨_, 0, rfl, h1, (fun q => by rw [c] at q; cases q), fun _ _ => rfl, fun _ q => absurd d q⟩
    · rw [if_neg d]
      obtain ⟨ν, p, v, u, k1, k2, k3, k4, k5, k6⟩ := z_clearing8 (N := N) h1 ho.lo ho.t3 hN
      rw [kb_p k1, k3, k4, k5]
      refine ⟨ν, aClears w p v u, ?_, h1.clr k2, (fun q => by rw [c] at q; cases q), fun _ q => absurd q d, fun _ _ => ⟨p, v, u, k6, rfl⟩⟩
      unfold aClears
      rw [ite_some, ite_some]
  · rw [if_neg c]
    exact ⟨_, -1, rfl, h1, fun _ => rfl, fun q => absurd q c, fun q => absurd q c⟩
/-- a clearing's numbers are nothing of the market -/
theorem cFlx.dc {A V : Nat → Nat} {nx : Nat} {c : Nat} (h : cFlx G ρ f A V nx μ l T D tr) (hn : l.length ≤ 60) (hd : dC c μ ν) : cFlx G ρ f A V nx ν l T D tr := by
  obtain ⟨h1, h2, h3, h4, h5, h6, h7, h8⟩ := h
  have k : ∀ g a, ¬ (100 ≤ g ∧ g ≤ 102) → gI ν g a = gI μ g a := fun g a hg => hd.1 _ _ (fun e => hg e.2)
  refine ⟨h1.dc hn hd, h2, fun s hs => by rw [hd.2.1, hd.2.1]; exact h3 s hs, ?_, ?_, fun t ht => by rw [hd.2.1, hd.2.1]; exact h6 t ht, fun i hi => by rw [hd.2.2]; exact h7 i hi, fun i w a b c => by rw [hd.2.1]; exact h8 i w a b c⟩
  · rw [k _ _ (by decide), k _ _ (by decide), k _ _ (by decide), k _ _ (by decide), k _ _ (by decide), k _ _ (by decide)]; exact h4
  · rw [k _ _ (by decide), k _ _ (by decide), k _ _ (by decide), k _ _ (by decide)]; exact h5
theorem dC.role (hy : cLay G ρ f) (h : dC (gR G 203 f) μ ν) : dRole ρ f μ ν := by
  have r : ρ (gR G 203 f) = (f, 203) := hy 203 (by decide)
  exact ⟨fun g a y => h.1 _ _ (fun e => y (by rw [e.1, r])), fun a i _ => h.2.1 a i, fun a i _ => h.2.2 a i⟩
theorem z_clears7 {x : Nat} (hy : cLY G ρ x) (h : cR G ρ x μ l T D tr n B) (ho : mOk l T) (hN : 100 < N) (w : Int) :
    ∃ ν r, f_X7_clears N G x w μ = some (r, ν) ∧ cR G ρ x ν l T D tr n B ∧ (aIn w 0 2 = false → r = -1) ∧ (aIn w 0 2 = true → T 2 = 0 → r = 0) ∧ (aIn w 0 2 = true → T 2 ≠ 0 → ∃ p v u, cSp l (T 3) p v u ∧ r = aClears w p v u) := by
  obtain ⟨A, V, nx, hf⟩ := h.1
  unfold f_X7_clears
  by_cases c : 0 ≤ w ∧ w ≤ 2
  · have c' : aIn w 0 2 = true := decide_eq_true c
    rw [if_neg (by omega), if_neg (by omega), hf.2.2.2.1.2.2.1]
    by_cases d : T 2 = 0
    · rw [if_pos d]
      exact ⟨_, 0, rfl, h, (fun q => by rw [c'] at q; cases q), fun _ _ => rfl, fun _ q => absurd d q⟩
    · rw [if_neg d, hf.2.2.2.2.1.1]
      obtain ⟨ν, p, v, u, k1, k2, k3, k4, k5, k6⟩ := z_seek1 (N := N) (c := gR G 203 (gR G 700 x)) hf.1 ho.lo ho.t3 hN
      rw [kb_p k1, k3, k4, k5]
      refine ⟨ν, aClears w p v u, ?_, h.flo hy (k2.role hy.1) ⟨A, V, nx, hf.dc ho.lo.1 k2⟩, (fun q => by rw [c'] at q; cases q), fun _ q => absurd q d, fun _ _ => ⟨p, v, u, k6, rfl⟩⟩
      unfold aClears
      rw [ite_some, ite_some]
  · have c' : aIn w 0 2 = false := decide_eq_false c
    refine ⟨μ, -1, ?_, h, fun _ => rfl, (fun q => by rw [c'] at q; cases q), fun q => by rw [c'] at q; cases q⟩
    by_cases d : w < 0
    · rw [if_pos d]
    · rw [if_neg d, if_pos (by omega)]
end CLEAR8
