/-! PURE: the class's sweep of its book -/
def aKp (o : Nat → Int) : Bool := decide (0 < o 4)
def aSwF (T : Nat → Int) (o : Nat → Int) : Nat → Int := if 0 < o 4 then T else aGo T o
/-- the tops behind a sweep -/
def aSw (T : Nat → Int) (l : List (Nat → Int)) : Nat → Int := l.foldl aSwF T
theorem filter_take (f : (Nat → Int) → Bool) (l : List (Nat → Int)) {i : Nat} (hi : i < l.length) : (l.take (i + 1)).filter f = (l.take i).filter f ++ (if f (lG l i) = true then [lG l i] else []) := by
  have e : l.take (i + 1) = l.take i ++ [lG l i] := by
    unfold lG
    rw [List.take_succ_eq_append_getElem hi, List.getD_eq_getElem?_getD, List.getElem?_eq_getElem hi]
    rfl
  rw [e, List.filter_append]
  congr 1
  by_cases c : f (lG l i) = true
  · rw [if_pos c, List.filter_cons_of_pos c, List.filter_nil]
  · rw [if_neg c, List.filter_cons_of_neg (by simpa using c), List.filter_nil]
theorem z_sweep0 {N : Nat} {G : qG} {b : Nat} {A : Nat → Nat} {μ : qM} {l : List (Nat → Int)} {T : Nat → Int} (hn : gR G 2 b ≠ gR G 3 b) (h : cB G b A μ l) (ht : cTp G b μ T) (hl : lOk l) (hN : 100 < N) :
    ∃ ν A', f_X0_sweep N G b μ = some ν ∧ dB G b μ ν ∧ cB G b A' ν (l.filter aKp) ∧ (∀ i, i < 60 → ∃ j, j < 60 ∧ A' i = A j) ∧ cTp G b ν (aSw T l) := by
  have hn60 := hl.1
  unfold f_X0_sweep f_X0_sweep_L4
  refine qLoop_inv
    (fun i s => ∃ (mem : qM) (π : Nat → Nat) (st : Nat), s = (b, (st : Int), (i : Int), mem) ∧ st = ((l.take i).filter aKp).length ∧ st ≤ i ∧ dB G b μ mem ∧ gI mem 1 b = (l.length : Int) ∧ (∀ j, j < 60 → gQ mem (gR G 0 b) j = some (A (π j)) ∧ π j < 60) ∧ (∀ j k, j < 60 → k < 60 → π j = π k → j = k) ∧ (∀ j, i ≤ j → π j = j) ∧ (∀ j, j < st → π j < i ∧ lG ((l.take i).filter aKp) j = lG l (π j)) ∧ cTp G b mem (aSw T (l.take i)))
    (fun r => ∃ ν A', r = some ν ∧ dB G b μ ν ∧ cB G b A' ν (l.filter aKp) ∧ (∀ i, i < 60 → ∃ j, j < 60 ∧ A' i = A j) ∧ cTp G b ν (aSw T l))
    l.length ?_ ?_ l.length 0 N _ (by omega) (by omega) ?_
  · rintro i s hi ⟨mem, π, st, rfl, hst, hsi, hd, h1, hq, hinj, hid, hk, htp⟩
    refine Or.inr ?_
    have hA : π i = i := hid i (Nat.le_refl _)
    have row : ∀ {α : Type} (j : Nat) (hj : j < 60) (k : Nat → Option α), rdQ (gK G) 5 mem (gR G 0 b) (j : Int) 60 k = k (A (π j)) := fun j hj k => rdQ_p ⟨by omega, by omega⟩ (hq j hj).1 (h.2.1 (π j) (hq j hj).2).2
    have fld : ∀ w, w < 6 → gI mem (400 + w) (A i) = lG l i w := fun w hw => by rw [hd.1 _ _ (fun e => by omega)]; exact h.2.2.2 i w hi hw
    have f4 : gI mem 404 (A i) = lG l i 4 := fld 4 (by decide)
    by_cases c : 0 < lG l i 4
    · have ck : aKp (lG l i) = true := decide_eq_true c
      refine ⟨(b, ((st + 1 : Nat) : Int), ((i + 1 : Nat) : Int), sQ (sQ mem (gR G 0 b) i (some (A (π st)))) (gR G 0 b) st (some (A i))), ⟨_, fun j => π (if j = st then i else if j = i then st else j), st + 1, rfl, ?_, by omega, (hd.tr dB.s0).tr dB.s0, h1, ?_, ?_, ?_, ?_, ?_⟩, fun k => ?_⟩
      · rw [filter_take aKp l hi, if_pos ck, List.length_append, ← hst]; rfl
      · intro j hj
        dsimp only
        by_cases e1 : j = st
        · subst e1
          rw [gQ_s, if_pos rfl, hA]
          exact ⟨rfl, by omega⟩
        · rw [gQ_i e1, if_neg e1]
          by_cases e2 : j = i
          · subst e2
            rw [gQ_s, if_pos rfl]
            exact ⟨rfl, (hq st (by omega)).2⟩
          · rw [gQ_i e2, if_neg e2]
            exact hq j hj
      · intro j k hj hk' e
        have bd : ∀ q, q < 60 → (if q = st then i else if q = i then st else q) < 60 := fun q hq' => by
          split
          · omega
          · split <;> omega
        have e3 := hinj _ _ (bd j hj) (bd k hk') e
        split at e3 <;> (try split at e3) <;> (try split at e3) <;> (try split at e3) <;> omega
      · intro j hj
        show π (if j = st then i else if j = i then st else j) = j
        rw [if_neg (by omega), if_neg (by omega)]
        exact hid j (by omega)
      · intro j hj
        show π (if j = st then i else if j = i then st else j) < i + 1 ∧ lG ((l.take (i + 1)).filter aKp) j = lG l (π (if j = st then i else if j = i then st else j))
        rw [filter_take aKp l hi, if_pos ck, lG_app, ← hst]
        by_cases e1 : j = st
        · rw [if_pos e1, if_pos e1, hA]
          exact ⟨by omega, rfl⟩
        · rw [if_neg e1, if_neg e1, if_neg (by omega)]
          have := hk j (by omega)
          exact ⟨by omega, this.2⟩
      · rw [aSw, foldl_take _ _ _ hi]
        have : aSwF (aSw T (l.take i)) (lG l i) = aSw T (l.take i) := if_pos c
        show cTp G b _ (aSwF (aSw T (l.take i)) (lG l i))
        rw [this]
        exact htp
      · show f_X0_sweep_4 N G _ b (st : Int) (i : Int) mem = _
        unfold f_X0_sweep_4 f_X0_sweep_56
        rw [h1, if_pos (by omega), row i (by omega), hA, f4, if_pos c, row st (by omega), wrQ_p ⟨by omega, by omega⟩, wrQ_p ⟨by omega, by omega⟩, ckI_p ⟨by omega, by omega⟩, ckI_p ⟨by omega, by omega⟩, cast1, cast1, Int.toNat_natCast, Int.toNat_natCast]
    · have ck : ¬ aKp (lG l i) = true := by simpa [aKp] using c
      have ho := hl.2 i hi
      obtain ⟨mem', e1, e2, e3⟩ := z_lapse0 (N := N) (o := A i) (w := lG l i) hn htp (fld 0 (by decide)) (fld 2 (by decide)) ho.2.2.1 ho.1.1
      refine ⟨(b, (st : Int), ((i + 1 : Nat) : Int), mem'), ⟨mem', π, st, rfl, ?_, by omega, hd.tr e2.B, by rw [e2.1]; exact h1, fun j hj => by rw [e2.2.2]; exact hq j hj, hinj, fun j hj => hid j (by omega), ?_, ?_⟩, fun k => ?_⟩
      · rw [filter_take aKp l hi, if_neg ck, List.append_nil]; exact hst
      · intro j hj
        rw [filter_take aKp l hi, if_neg ck, List.append_nil]
        have := hk j hj
        exact ⟨by omega, this.2⟩
      · rw [aSw, foldl_take _ _ _ hi]
        have : aSwF (aSw T (l.take i)) (lG l i) = aGo (aSw T (l.take i)) (lG l i) := if_neg c
        show cTp G b _ (aSwF (aSw T (l.take i)) (lG l i))
        rw [this]
        exact e3
      · show f_X0_sweep_4 N G _ b (st : Int) (i : Int) mem = _
        unfold f_X0_sweep_4 f_X0_sweep_56
        rw [h1, if_pos (by omega), row i (by omega), hA, f4, if_neg c, kb_p e1, ckI_p ⟨by omega, by omega⟩, cast1]
  · rintro s ⟨mem, π, st, rfl, hst, hsi, hd, h1, hq, hinj, hid, hk, htp⟩
    rw [List.take_length] at hst hk htp
    refine ⟨_, ⟨sI mem 1 b (st : Int), fun j => A (π j), rfl, hd.tr dB.s1, ⟨?_, ?_, ?_, ?_⟩, fun i hi => ⟨π i, (hq i hi).2, rfl⟩, htp⟩, fun k => ?_⟩
    · rw [gI_s, hst]
    · intro i hi
      exact ⟨(hq i hi).1, (h.2.1 (π i) (hq i hi).2).2⟩
    · intro i j hi hj e
      exact hinj i j hi hj (h.2.2.1 _ _ (hq i hi).2 (hq j hj).2 e)
    · intro i k hi hk'
      have hi' : i < st := by rw [hst]; exact hi
      obtain ⟨a1, a2⟩ := hk i hi'
      rw [a2, gI_f (by omega), hd.1 _ _ (fun e => by omega)]
      exact h.2.2.2 (π i) k a1 hk'
    · show f_X0_sweep_4 N G _ b (st : Int) (l.length : Int) mem = _
      unfold f_X0_sweep_4
      rw [h1, if_neg (by omega), kp_p]
  · refine ⟨μ, fun j => j, 0, rfl, ?_, by omega, dB.rf, h.1, fun j hj => ⟨(h.2.1 j hj).1, hj⟩, fun j k _ _ e => e, fun j _ => rfl, fun j hj => by omega, ?_⟩
    · simp
    · simpa [aSw] using ht
