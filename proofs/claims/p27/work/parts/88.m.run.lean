/-! PURE: the course of an order that comes in: orders, tops, trades, orders off, lots less, lots off, what is left -/
abbrev MS : Type := List (Nat → Int) × (Nat → Int) × List (Nat → Int) × Int × Int × Int × Int
def stL (mode s t0 b : Int) (l : List (Nat → Int)) (z : Int) : List (Nat → Int) := (vL mode (oOwn (1 - s) b t0) l z).filter aKp
def stU (mode s t0 b : Int) (l : List (Nat → Int)) (U : Nat → Int) (z : Int) : Nat → Int := aSw U (vL mode (oOwn (1 - s) b t0) l z)
def stZ (mode s t0 b : Int) (l : List (Nat → Int)) (z : Int) : Int := vLeft mode (oOwn (1 - s) b t0) l z
def stK (mode s t0 b : Int) (l : List (Nat → Int)) (z : Int) : Int := min (stZ mode s t0 b l z) (aS (wZ (1 - s) b) (stL mode s t0 b l z))
/-- behind the prevention -/
def mPrev (mode s t0 b : Int) (X : MS) : MS := (stL mode s t0 b X.1 X.2.2.2.2.2.2, stU mode s t0 b X.1 X.2.1 X.2.2.2.2.2.2, X.2.2.1, X.2.2.2.1 + cZ mode (oOwn (1 - s) b t0) X.1 X.2.2.2.2.2.2 X.1.length, X.2.2.2.2.1 + (if mode = 3 then cY mode (oOwn (1 - s) b t0) X.1 X.2.2.2.2.2.2 X.1.length else 0), X.2.2.2.2.2.1 + (if mode = 3 then 0 else cY mode (oOwn (1 - s) b t0) X.1 X.2.2.2.2.2.2 X.1.length), stZ mode s t0 b X.1 X.2.2.2.2.2.2)
/-- behind the take -/
def mTake (s num L1 b : Int) (X : MS) : MS :=
  if 0 < min X.2.2.2.2.2.2 (aS (wZ (1 - s) b) X.1) then ((kL X.1 X.2.1 L1 (1 - s) b (min X.2.2.2.2.2.2 (aS (wZ (1 - s) b) X.1))).filter aKp, kU X.1 X.2.1 L1 (1 - s) b (min X.2.2.2.2.2.2 (aS (wZ (1 - s) b) X.1)), kE X.1 X.2.1 L1 num (1 - s) b (min X.2.2.2.2.2.2 (aS (wZ (1 - s) b) X.1)) X.2.2.1, X.2.2.2.1, X.2.2.2.2.1, X.2.2.2.2.2.1, X.2.2.2.2.2.2 - min X.2.2.2.2.2.2 (aS (wZ (1 - s) b) X.1)) else X
def mStep (mode s num t0 L1 b : Int) (X : MS) : MS := mTake s num L1 b (mPrev mode s t0 b X)
def mRun (mode s num t0 L1 pr : Int) : Nat → MS → MS
  | 0, X => X
  | n + 1, X => if X.2.2.2.2.2.2 ≤ 0 then X else if aBest (1 - s) X.1 = 0 ∨ aBet (1 - s) pr (aBest (1 - s) X.1) = true then X else mRun mode s num t0 L1 pr n (mStep mode s num t0 L1 (aBest (1 - s) X.1) X)
def mI (L1 t0 : Int) (X : MS) : Prop := uOk X.1 X.2.1 L1 ∧ (0 ≤ X.2.2.2.2.2.2 ∧ X.2.2.2.2.2.2 ≤ 1000) ∧ ∀ i, i < X.2.2.1.length → lG X.2.2.1 i 5 ≠ t0
section MRUN
variable {mode s num t0 L1 pr b z : Int} {X : MS} {l : List (Nat → Int)} {U : Nat → Int}
theorem noLoss {w : (Nat → Int) → Bool} (hp : ∀ j, j < l.length → 0 < lG l j 4) (h : ∀ i, i < l.length → bY mode w l z i = 0) : vL mode w l z = l ∧ (vL mode w l z).filter aKp = l ∧ aSw U (vL mode w l z) = U ∧ cZ mode w l z l.length = 0 ∧ cY mode w l z l.length = 0 := by
  have e : vL mode w l z = l := by
    have : vL mode w l z = szs l (fun i => lG l i 4) := szs_congr (fun i hi => by unfold vF; rw [h i hi, Int.sub_zero])
    rw [this, szs_id]
  have c0 : ∀ k, k ≤ l.length → cZ mode w l z k = 0 ∧ cY mode w l z k = 0 := by
    intro k
    induction k with
    | zero => intro _; exact ⟨rfl, rfl⟩
    | succ k ih =>
      intro hk
      obtain ⟨h1, h2⟩ := ih (by omega)
      have h3 := h k (by omega)
      have h4 := hp k (by omega)
      refine ⟨?_, ?_⟩
      · show cZ mode w l z k + (if vF mode w l z k = 0 then 1 else 0) = 0
        rw [h1, if_neg (by unfold vF; omega)]; rfl
      · show cY mode w l z k + bY mode w l z k = 0
        rw [h2, h3]; rfl
  exact ⟨e, by rw [e]; exact flt_all (fun i hi => decide_eq_true (hp i hi)), by rw [e]; exact aSw_all hp, c0 _ (Nat.le_refl _)⟩
theorem bL_no {w : (Nat → Int) → Bool} (h : ∀ j, j < l.length → mode = 3 → ¬ w (lG l j) = true) : ∀ i, i ≤ l.length → bL mode w l z i = z := by
  intro i
  induction i with
  | zero => intro _; rfl
  | succ i ih =>
    intro hi
    show (if mode = 3 ∧ w (lG l i) = true then _ else bL mode w l z i) = z
    rw [if_neg (fun q => h i (by omega) q.1 q.2)]
    exact ih (by omega)
theorem aBest_bd (hl : lOk l) (hb : aBest s l ≠ 0) : (1 ≤ aBest s l ∧ aBest s l ≤ 9999999) ∧ ∃ i, i < l.length ∧ aAt s (aBest s l) (lG l i) = true := by
  rcases aBest_in (s := s) l 0 with h | ⟨i, h1, h2, h3⟩
  · exact absurd h hb
  · have e : aBest s l = lG l i 3 := h3
    rw [e]
    exact ⟨(hl.2 i h1).2.2.2.1, i, h1, decide_eq_true ⟨h2, rfl⟩⟩
theorem gE_5 {J : List Nat} {came p : Int} {v : Nat → Int} {kind : Int} {E : List (Nat → Int)} (hE : ∀ i, i < E.length → lG E i 5 ≠ t0) : ∀ k, (∀ j, j < k → lG l (jG J j) 1 ≠ t0) → ∀ i, i < (gE l J came p v kind E k).length → lG (gE l J came p v kind E k) i 5 ≠ t0 := by
  intro k
  induction k with
  | zero => intro _; exact hE
  | succ k ih =>
    intro h i hi
    have h0 := ih (fun j hj => h j (by omega))
    revert hi
    show i < (if 0 < v k then tRow (lG l (jG J k)) came p (v k) kind :: gE l J came p v kind E k else gE l J came p v kind E k).length → lG (if 0 < v k then tRow (lG l (jG J k)) came p (v k) kind :: gE l J came p v kind E k else gE l J came p v kind E k) i 5 ≠ t0
    by_cases c : 0 < v k
    · rw [if_pos c]
      intro hi
      cases i with
      | zero => exact h k (by omega)
      | succ i => exact h0 i (by simpa using hi)
    · rw [if_neg c]; exact h0 i
theorem mPrev_inv (hI : mI L1 t0 X) : mI L1 t0 (mPrev mode s t0 b X) := by
  obtain ⟨h1, h2, h3⟩ := hI
  have hv := vLeft_bd (mode := mode) (w := oOwn (1 - s) b t0) h2.1 h1.lo
  exact ⟨h1.prev h2.1, ⟨hv.1, Int.le_trans hv.2 h2.2⟩, h3⟩
theorem mPrev_own (hm : 0 ≤ mode ∧ mode ≤ 3) (hI : mI L1 t0 X) (hz : 0 < (mPrev mode s t0 b X).2.2.2.2.2.2) : ∀ i, i < (mPrev mode s t0 b X).1.length → aAt (1 - s) b (lG (mPrev mode s t0 b X).1 i) = true → lG (mPrev mode s t0 b X).1 i 1 ≠ t0 := by
  obtain ⟨h1, h2, h3⟩ := hI
  intro i hi hat ht
  obtain ⟨hk, j, hj, -, e⟩ := flt_in (p := aKp) (L := vL mode (oOwn (1 - s) b t0) X.1 X.2.2.2.2.2.2) hi
  have e' : lG (mPrev mode s t0 b X).1 i = lG (vL mode (oOwn (1 - s) b t0) X.1 X.2.2.2.2.2.2) j := e
  have szl : (vL mode (oOwn (1 - s) b t0) X.1 X.2.2.2.2.2.2).length = X.1.length := szs_len
  have hj' : j < X.1.length := by rw [← szl]; exact hj
  rw [e'] at hat ht
  have hw : oOwn (1 - s) b t0 (lG X.1 j) = true := by
    refine oOwn_t.mpr ⟨?_, ?_⟩
    · unfold aAt at hat ⊢
      unfold vL at hat
      rw [szs_o hj' (by decide), szs_o hj' (by decide)] at hat
      exact hat
    · unfold vL at ht
      rw [szs_o hj' (by decide)] at ht
      exact ht
  have g := own_gone hm h1.lo h2.1 hz hj' hw
  have hk2 : aKp (lG (vL mode (oOwn (1 - s) b t0) X.1 X.2.2.2.2.2.2) j) = true := by rw [← e]; exact hk
  have := of_decide_eq_true hk2
  unfold vL at this
  rw [szs_4 hj', g] at this
  omega
theorem mTake_inv (hs : s = 0 ∨ s = 1) (hI : mI L1 t0 X) (hown : 0 < X.2.2.2.2.2.2 → ∀ i, i < X.1.length → aAt (1 - s) b (lG X.1 i) = true → lG X.1 i 1 ≠ t0) : mI L1 t0 (mTake s num L1 b X) := by
  obtain ⟨h1, h2, h3⟩ := hI
  unfold mTake
  by_cases c : 0 < min X.2.2.2.2.2.2 (aS (wZ (1 - s) b) X.1)
  · rw [if_pos c]
    have hK : 0 ≤ min X.2.2.2.2.2.2 (aS (wZ (1 - s) b) X.1) ∧ min X.2.2.2.2.2.2 (aS (wZ (1 - s) b) X.1) ≤ aS (wZ (1 - s) b) X.1 := by omega
    refine ⟨h1.take (by omega) hK, ?_, ?_⟩
    · show 0 ≤ X.2.2.2.2.2.2 - min X.2.2.2.2.2.2 (aS (wZ (1 - s) b) X.1) ∧ X.2.2.2.2.2.2 - min X.2.2.2.2.2.2 (aS (wZ (1 - s) b) X.1) ≤ 1000
      omega
    · have ho : ∀ j, j < (aJ (1 - s) b X.1 X.1.length).length → lG X.1 (jG (aJ (1 - s) b X.1 X.1.length) j) 1 ≠ t0 := fun j hj => hown (by omega) _ (kJ hj) (aJ_in _ j hj).2
      exact gE_5 (gE_5 (gE_5 h3 _ ho) _ ho) _ ho
  · rw [if_neg c]
    exact ⟨h1, h2, h3⟩
theorem mStep_inv (hm : 0 ≤ mode ∧ mode ≤ 3) (hs : s = 0 ∨ s = 1) (hI : mI L1 t0 X) : mI L1 t0 (mStep mode s num t0 L1 b X) :=
  mTake_inv hs (mPrev_inv hI) (fun hz => mPrev_own hm hI hz)
/-- it ends: nothing is left of who comes in, or there are fewer orders -/
theorem mStep_less (hs : s = 0 ∨ s = 1) (hI : mI L1 t0 X) (hb : b = aBest (1 - s) X.1) (hb0 : b ≠ 0) (hz : 0 < X.2.2.2.2.2.2) : (mStep mode s num t0 L1 b X).2.2.2.2.2.2 = 0 ∨ (mStep mode s num t0 L1 b X).1.length < X.1.length := by
  have hI1 := mPrev_inv (mode := mode) (s := s) (b := b) hI
  obtain ⟨h1, h2, h3⟩ := hI
  have szl : (vL mode (oOwn (1 - s) b t0) X.1 X.2.2.2.2.2.2).length = X.1.length := szs_len
  have le1 : (mPrev mode s t0 b X).1.length ≤ X.1.length := by rw [← szl]; exact flt_le
  obtain ⟨hb1, i, hi, hat⟩ := aBest_bd (s := 1 - s) h1.lo (by rw [← hb]; exact hb0)
  rw [← hb] at hat
  unfold mStep
  generalize hX1 : mPrev mode s t0 b X = X1 at *
  obtain ⟨g1, g2, g3⟩ := hI1
  have hbd := aS_bd (w := wZ (1 - s) b) (wZ_bd g1.lo)
  have h60 := g1.lo.1
  unfold mTake
  by_cases c : 0 < min X1.2.2.2.2.2.2 (aS (wZ (1 - s) b) X1.1)
  · rw [if_pos c]
    by_cases d : aS (wZ (1 - s) b) X1.1 < X1.2.2.2.2.2.2
    · -- all is taken
      have eK : min X1.2.2.2.2.2.2 (aS (wZ (1 - s) b) X1.1) = aS (wZ (1 - s) b) X1.1 := by omega
      rw [eK] at c ⊢
      refine Or.inr (Nat.lt_of_lt_of_le ?_ le1)
      -- there is one there
      have ex : 0 < (aJ (1 - s) b X1.1 X1.1.length).length := by
        rcases Nat.eq_zero_or_pos (aJ (1 - s) b X1.1 X1.1.length).length with q | q
        · have e := sumZ (l := X1.1) (s := 1 - s) (p := b)
          rw [q] at e
          have : sumN (jS X1.1 (aJ (1 - s) b X1.1 X1.1.length)) 0 = 0 := rfl
          omega
        · exact q
      have oo := ujOk (s := 1 - s) (p := b) (K := aS (wZ (1 - s) b) X1.1) g1 ⟨by omega, by omega⟩
      have fl := sh_fill oo (sumZ).symm ex
      have szk : (kL X1.1 X1.2.1 L1 (1 - s) b (aS (wZ (1 - s) b) X1.1)).length = X1.1.length := szs_len
      have := flt_lt (p := aKp) (L := kL X1.1 X1.2.1 L1 (1 - s) b (aS (wZ (1 - s) b) X1.1)) (i := jG (aJ (1 - s) b X1.1 X1.1.length) 0) (by rw [szk]; exact kJ ex) (by
        unfold aKp kL
        rw [szs_4 (kJ ex), fB_at (fun j k hj hk e => kInj hj hk e) ex _ (Nat.le_refl _), if_pos (by omega)]
        have e : jS X1.1 (aJ (1 - s) b X1.1 X1.1.length) 0 = lG X1.1 (jG (aJ (1 - s) b X1.1 X1.1.length) 0) 4 := rfl
        unfold kA kB kC
        simp only [decide_eq_true_eq]
        omega)
      rw [szk] at this
      exact this
    · exact Or.inl (by show X1.2.2.2.2.2.2 - min X1.2.2.2.2.2.2 (aS (wZ (1 - s) b) X1.1) = 0; omega)
  · rw [if_neg c]
    by_cases z0 : X1.2.2.2.2.2.2 = 0
    · exact Or.inl z0
    · refine Or.inr ?_
      have a0 : aS (wZ (1 - s) b) X1.1 = 0 := by omega
      rcases Nat.lt_or_ge X1.1.length X.1.length with q | q
      · exact q
      · exfalso
        -- nothing went: the best is still there
        have e1 : X1.1 = (vL mode (oOwn (1 - s) b t0) X.1 X.2.2.2.2.2.2).filter aKp := by rw [← hX1]; rfl
        have hlen : (vL mode (oOwn (1 - s) b t0) X.1 X.2.2.2.2.2.2).length ≤ ((vL mode (oOwn (1 - s) b t0) X.1 X.2.2.2.2.2.2).filter aKp).length := by rw [← e1, szl]; exact q
        have kp : ∀ j, j < (vL mode (oOwn (1 - s) b t0) X.1 X.2.2.2.2.2.2).length → aKp (lG (vL mode (oOwn (1 - s) b t0) X.1 X.2.2.2.2.2.2) j) = true := fun j hj => Decidable.byContradiction (fun hne => by have := flt_lt hj hne; omega)
        have e2 : X1.1 = vL mode (oOwn (1 - s) b t0) X.1 X.2.2.2.2.2.2 := by rw [e1]; exact flt_all kp
        have hi1 : i < X1.1.length := by rw [e2, szl]; exact hi
        have hat1 : aAt (1 - s) b (lG X1.1 i) = true := by
          rw [e2]
          unfold aAt at hat ⊢
          unfold vL
          rw [szs_o hi (by decide), szs_o hi (by decide)]
          exact hat
        have p1 := g1.pos i hi1
        have := aS_pos (v := wZ (1 - s) b) (fun j hj => (wZ_bd g1.lo j hj).1) hi1
        unfold wZ at this
        rw [if_pos hat1] at this
        have e3 : aS (fun o => if aAt (1 - s) b o = true then o 4 else 0) X1.1 = aS (wZ (1 - s) b) X1.1 := rfl
        rw [e3] at this
        omega
theorem aBet_sw (hs : s = 0 ∨ s = 1) {p q : Int} : aBet (1 - s) p q = aBet s q p := by
  unfold aBet
  rcases hs with rfl | rfl
  · rw [if_neg (by decide), if_pos rfl]
  · rw [if_pos (by decide), if_neg (by decide)]
theorem mRun_z {n : Nat} (h : X.2.2.2.2.2.2 ≤ 0) : mRun mode s num t0 L1 pr n X = X := by
  cases n with
  | zero => rfl
  | succ n => exact if_pos h
theorem mRun_b {n : Nat} (h : aBest (1 - s) X.1 = 0 ∨ aBet (1 - s) pr (aBest (1 - s) X.1) = true) : mRun mode s num t0 L1 pr n X = X := by
  cases n with
  | zero => rfl
  | succ n =>
    show (if X.2.2.2.2.2.2 ≤ 0 then X else if aBest (1 - s) X.1 = 0 ∨ aBet (1 - s) pr (aBest (1 - s) X.1) = true then X else _) = X
    rw [if_pos h, ite_self]
theorem mRun_s {n : Nat} (hz : ¬ X.2.2.2.2.2.2 ≤ 0) (h : ¬ (aBest (1 - s) X.1 = 0 ∨ aBet (1 - s) pr (aBest (1 - s) X.1) = true)) : mRun mode s num t0 L1 pr (n + 1) X = mRun mode s num t0 L1 pr n (mStep mode s num t0 L1 (aBest (1 - s) X.1) X) := by
  show (if X.2.2.2.2.2.2 ≤ 0 then X else if aBest (1 - s) X.1 = 0 ∨ aBet (1 - s) pr (aBest (1 - s) X.1) = true then X else _) = _
  rw [if_neg hz, if_neg h]
theorem mRun_inv (hm : 0 ≤ mode ∧ mode ≤ 3) (hs : s = 0 ∨ s = 1) : ∀ (n : Nat) (X : MS), mI L1 t0 X → mI L1 t0 (mRun mode s num t0 L1 pr n X) := by
  intro n
  induction n with
  | zero => intro X h; exact h
  | succ n ih =>
    intro X h
    by_cases hz : X.2.2.2.2.2.2 ≤ 0
    · rw [mRun_z hz]; exact h
    · by_cases hb : aBest (1 - s) X.1 = 0 ∨ aBet (1 - s) pr (aBest (1 - s) X.1) = true
      · rw [mRun_b hb]; exact h
      · rw [mRun_s hz hb]
        exact ih _ (mStep_inv hm hs h)
end MRUN
