/-! PURE: both meet -/
/-- the class's floor, and who comes in, at a point of the course -/
def cS (G : qG) (ρ : Nat → Nat × Nat) (f : Nat) (V : Nat → Nat) (T D : Nat → Int) (tr : Nat → Nat → Int) (x s t0 pr num z0 : Int) (X : MS) (μ : qM) : Prop :=
  (∃ A nx, cFlx G ρ f A V nx μ X.1 (apT T X.2.1 (pOf x X.2.2.1) X.2.2.1 (sumW X.2.2.1) X.2.2.2.1 X.2.2.2.2.1 s t0) (apD D X.2.2.1 (sumY X.2.2.1) s t0) (apTr tr X.2.2.1)) ∧ cIn G f μ num t0 s pr X.2.2.2.2.2.2 z0 ∧ gI μ 210 f = w32 X.2.2.2.2.2.1
def rS (G : qG) (m : Nat) (T D : Nat → Int) (tr : Nat → Nat → Int) (n : Nat) (B : Nat → Int) (x s t0 num : Int) (X : MS) (μ : qM) : Prop :=
  mR G m μ X.1 (apT T X.2.1 (pOf x X.2.2.1) X.2.2.1 (sumW X.2.2.1) X.2.2.2.1 X.2.2.2.2.1 s t0) (apD D X.2.2.1 (sumY X.2.2.1) s t0) (apTr tr X.2.2.1) n B ∧ mIn m μ num t0 s (w32 (sumW X.2.2.1)) (pOf 0 X.2.2.1) (w64 (sumY X.2.2.1)) (w32 (X.2.2.2.2.1 + X.2.2.2.2.2.1))
section MEET
variable {N : Nat} {G : qG} {ρ : Nat → Nat × Nat} {f m : Nat} {V : Nat → Nat} {μ ν : qM} {T D : Nat → Int} {tr : Nat → Nat → Int} {n : Nat} {B : Nat → Int} {x s pr num z0 L1 mode : Int} {t0 : Nat} {X : MS}
/-- one turn of the class -/
theorem z_turn7 (hy : cLay G ρ f) (hT1 : T 1 = L1) (ht0 : t0 < 10) (hs : s = 0 ∨ s = 1) (hm : 0 ≤ mode ∧ mode ≤ 3) (h10 : 0 ≤ T 10 ∧ T 10 ≤ 60) (hN : 1000 < N) (hI : mI L1 (t0 : Int) X) (h : cS G ρ f V T D tr x s (t0 : Int) pr num z0 X μ) (hz : 0 < X.2.2.2.2.2.2) {b : Int} (hb : 1 ≤ b ∧ b ≤ 9999999) :
    ∃ ν, dRole ρ f μ ν ∧ cS G ρ f V T D tr x s (t0 : Int) pr num z0 (mStep mode s num (t0 : Int) L1 b X) ν ∧ ∃ μ1, f_X2_preventSelf N G f (1 - s) b mode μ = some μ1 ∧ gI μ1 404 (gR G 204 f) = (mPrev mode s (t0 : Int) b X).2.2.2.2.2.2 ∧ (0 < (mPrev mode s (t0 : Int) b X).2.2.2.2.2.2 → f_X2_takeAt N G f (1 - s) b μ1 = some ν) ∧ (¬ 0 < (mPrev mode s (t0 : Int) b X).2.2.2.2.2.2 → ν = μ1) := by
  have hI1 := mPrev_inv (mode := mode) (s := s) (b := b) hI
  obtain ⟨⟨A, nx, hf⟩, hc, h210⟩ := h
  obtain ⟨i1, i2, i3⟩ := hI
  obtain ⟨μ1, A1, e1, e2, e3, e4, e5⟩ := z_preventSelf (N := N) (so := 1 - s) (p := b) hy i1 hm ⟨by omega, i2.2⟩ hN hf hc h210
  have h1 : cS G ρ f V T D tr x s (t0 : Int) pr num z0 (mPrev mode s (t0 : Int) b X) μ1 := ⟨⟨A1, nx, e3⟩, e4, e5⟩
  unfold mStep
  generalize mPrev mode s (t0 : Int) b X = X1 at *
  clear e3 e4 e5
  obtain ⟨⟨A1, nx1, e3⟩, e4, e5⟩ := h1
  obtain ⟨g1, g2, g3⟩ := hI1
  have r1 : ρ f = (f, 1) := hy 1 (by decide)
  have k210 : ∀ {α β : qM}, dP ρ (pTk f) α β → gI β 210 f = gI α 210 f := fun q => q.1 _ _ (by rw [r1]; exact fun y => y.2.1 rfl)
  by_cases c : 0 < X1.2.2.2.2.2.2
  · obtain ⟨t1, t2⟩ := z_takeAt (N := N) (num := num) hy g1 hT1 ht0 hs h10 hN e3 e4 hb ⟨by omega, g2.2⟩
    by_cases d : 0 < min X1.2.2.2.2.2.2 (aS (wZ (1 - s) b) X1.1)
    · obtain ⟨ν, A', nx', k1, k2, k3, k4⟩ := t2 _ rfl (by omega)
      refine ⟨ν, e2.tr (k2.role pTk_1), ?_, μ1, e1, e4.2.2.2.2.1, fun _ => k1, fun q => absurd c q⟩
      unfold mTake
      rw [if_pos d]
      exact ⟨⟨A', nx', k3⟩, k4, by rw [k210 k2]; exact e5⟩
    · have hbd := aS_bd (w := wZ (1 - s) b) (wZ_bd g1.lo)
      obtain ⟨ν, k1, k2, k3, k4⟩ := t1 (by omega)
      refine ⟨ν, e2.tr (k2.role pTk_1), ?_, μ1, e1, e4.2.2.2.2.1, fun _ => k1, fun q => absurd c q⟩
      unfold mTake
      rw [if_neg d]
      exact ⟨⟨A1, nx1, k3⟩, k4, by rw [k210 k2]; exact e5⟩
  · refine ⟨μ1, e2, ?_, μ1, e1, e4.2.2.2.2.1, fun q => absurd q c, fun _ => rfl⟩
    unfold mTake
    rw [if_neg (by omega)]
    exact ⟨⟨A1, nx1, e3⟩, e4, e5⟩
theorem z_meet7 (hy : cLay G ρ f) (hT1 : T 1 = L1) (ht0 : t0 < 10) (hs : s = 0 ∨ s = 1) (hm : 0 ≤ mode ∧ mode ≤ 3) (h10 : 0 ≤ T 10 ∧ T 10 ≤ 60) (hN : 1000 < N) (hI : mI L1 (t0 : Int) X) (h : cS G ρ f V T D tr x s (t0 : Int) pr num z0 X μ) :
    ∃ ν, f_X2_meet N G f mode μ = some ν ∧ dRole ρ f μ ν ∧ cS G ρ f V T D tr x s (t0 : Int) pr num z0 (mRun mode s num (t0 : Int) L1 pr 60 X) ν := by
  have lp : ∃ ν, f_X2_meet_L18 N G f mode (1 - s) 0 μ = some ν ∧ dRole ρ f μ ν ∧ cS G ρ f V T D tr x s (t0 : Int) pr num z0 (mRun mode s num (t0 : Int) L1 pr 60 X) ν := by
    unfold f_X2_meet_L18
    refine qLoop_inv
      (fun i st => ∃ Y mem, st = (f, mode, 1 - s, (i : Int), mem) ∧ dRole ρ f μ mem ∧ cS G ρ f V T D tr x s (t0 : Int) pr num z0 Y mem ∧ mI L1 (t0 : Int) Y ∧ mRun mode s num (t0 : Int) L1 pr 60 X = mRun mode s num (t0 : Int) L1 pr (60 - i) Y)
      (fun r => ∃ ν, r = some ν ∧ dRole ρ f μ ν ∧ cS G ρ f V T D tr x s (t0 : Int) pr num z0 (mRun mode s num (t0 : Int) L1 pr 60 X) ν) 60 ?_ ?_ 60 0 N _ (by omega) (by omega) ⟨X, μ, rfl, dRole.rf, h, hI, rfl⟩
    · rintro i st hi ⟨Y, mem, rfl, hd, hc, hIY, hr⟩
      have hc' := hc
      obtain ⟨⟨A, nx, hf⟩, hcc, h210⟩ := hc
      have pre : ∀ kk, f_X2_meet_18 N G kk f mode (1 - s) (i : Int) mem = (if 0 < Y.2.2.2.2.2.2 then (if aBest (1 - s) Y.1 = 0 then (some mem) else (if aBet (1 - s) pr (aBest (1 - s) Y.1) = true then some mem else (kb (f_X2_preventSelf N G f (1 - s) (aBest (1 - s) Y.1) mode mem) fun m9 => if 0 < (gI m9 404 (gR G 204 f)) then (kb (f_X2_takeAt N G f (1 - s) (aBest (1 - s) Y.1) m9) fun m12 => f_X2_meet_91 N G kk f mode (1 - s) (i : Int) m12) else (f_X2_meet_91 N G kk f mode (1 - s) (i : Int) m9)))) else some mem) := by
        intro kk
        unfold f_X2_meet_18
        rw [if_pos (by omega), hcc.2.2.2.2.1, kb2_p (z_best0 hf.1 hIY.1.lo (by omega) (by omega)), hcc.2.2.2.1, kb2_p z_isBetter7, b01_ite]
      by_cases c : 0 < Y.2.2.2.2.2.2
      · by_cases c1 : aBest (1 - s) Y.1 = 0 ∨ aBet (1 - s) pr (aBest (1 - s) Y.1) = true
        · refine Or.inl ⟨some mem, ⟨mem, rfl, hd, by rw [hr, mRun_b c1]; exact hc'⟩, fun kk => ?_⟩
          show f_X2_meet_18 N G _ f mode (1 - s) (i : Int) mem = _
          rw [pre, if_pos c]
          rcases c1 with c1 | c1
          · rw [if_pos c1]
          · rw [if_pos c1, ite_self]
        · refine Or.inr ?_
          have c2 : ¬ aBest (1 - s) Y.1 = 0 := fun q => c1 (Or.inl q)
          have c3 : ¬ aBet (1 - s) pr (aBest (1 - s) Y.1) = true := fun q => c1 (Or.inr q)
          obtain ⟨hb, -⟩ := aBest_bd (s := 1 - s) hIY.1.lo c2
          obtain ⟨ν, k1, k2, μ1, k3, k4, k5, k6⟩ := z_turn7 (N := N) (mode := mode) hy hT1 ht0 hs hm h10 hN hIY hc' c hb
          have e60 : 60 - i = (60 - (i + 1)) + 1 := by omega
          refine ⟨(f, mode, 1 - s, ((i + 1 : Nat) : Int), ν), ⟨_, ν, rfl, hd.tr k1, k2, mStep_inv hm hs hIY, by rw [hr, e60, mRun_s (by omega) c1]⟩, fun kk => ?_⟩
          show f_X2_meet_18 N G _ f mode (1 - s) (i : Int) mem = _
          rw [pre, if_pos c, if_neg c2, if_neg c3, kb_p k3, k4]
          unfold f_X2_meet_91
          by_cases c4 : 0 < (mPrev mode s (t0 : Int) (aBest (1 - s) Y.1) Y).2.2.2.2.2.2
          · rw [if_pos c4, kb_p (k5 c4), ckI_p ⟨by omega, by omega⟩, cast1]
          · rw [if_neg c4, ← k6 c4, ckI_p ⟨by omega, by omega⟩, cast1]
      · refine Or.inl ⟨some mem, ⟨mem, rfl, hd, by rw [hr, mRun_z (by omega)]; exact hc'⟩, fun kk => ?_⟩
        show f_X2_meet_18 N G _ f mode (1 - s) (i : Int) mem = _
        rw [pre, if_neg c]
    · rintro st ⟨Y, mem, rfl, hd, hc, hIY, hr⟩
      refine ⟨some mem, ⟨mem, rfl, hd, by rw [hr]; exact hc⟩, fun kk => ?_⟩
      show f_X2_meet_18 N G _ f mode (1 - s) ((60 : Nat) : Int) mem = _
      unfold f_X2_meet_18
      rw [if_neg (by decide)]
  have hs2 := h.2.1.2.2.1
  unfold f_X2_meet f_X2_meet_15
  rw [hs2]
  rcases hs with hs | hs
  · rw [if_pos hs]
    rw [hs] at lp ⊢
    exact lp
  · rw [if_neg (by omega)]
    rw [hs] at lp ⊢
    exact lp
/-! the reference -/
def gF (g : Nat) : Prop := g = 804 ∨ g = 805 ∨ (814 ≤ g ∧ g ≤ 817)
theorem z_takeR (hL : mL G m) (hT1 : T 1 = L1) (ht0 : t0 < 10) (hs : s = 0 ∨ s = 1) (h10 : 0 ≤ T 10 ∧ T 10 ≤ 60) (hN : 1000 < N) (hI : mI L1 (t0 : Int) X) (h : rS G m T D tr n B x s (t0 : Int) num X μ) {b : Int} (hb : 1 ≤ b ∧ b ≤ 9999999) :
    ∃ ν, dRf G m gF kAr μ ν ∧ rS G m T D tr n B x s (t0 : Int) num (mTake s num L1 b X) ν ∧ ∀ kk, f_X8_meets_102 N G kk m pr mode X.2.2.2.2.2.2 (1 - s) b μ = kk m pr mode (mTake s num L1 b X).2.2.2.2.2.2 (1 - s) ν := by
  obtain ⟨i1, i2, i3⟩ := hI
  obtain ⟨h1, h2⟩ := h
  have hbd := aS_bd (w := wZ (1 - s) b) (wZ_bd i1.lo)
  have h60 := i1.lo.1
  have pre : ∀ kk, f_X8_meets_102 N G kk m pr mode X.2.2.2.2.2.2 (1 - s) b μ = f_X8_meets_126 N G kk m pr mode X.2.2.2.2.2.2 (1 - s) b (min X.2.2.2.2.2.2 (aS (wZ (1 - s) b) X.1)) μ := by
    intro kk
    unfold f_X8_meets_102
    rw [kb2_p (z_sizesAt8 h1.1 i1.lo (by omega))]
    by_cases c : X.2.2.2.2.2.2 < aS (wZ (1 - s) b) X.1
    · rw [if_pos c, Int.min_eq_left (by omega)]
    · rw [if_neg c, Int.min_eq_right (by omega)]
  unfold mTake
  by_cases c : 0 < min X.2.2.2.2.2.2 (aS (wZ (1 - s) b) X.1)
  · rw [if_pos c]
    obtain ⟨ν, k1, k2, k3, k4⟩ := z_takes8 (N := N) (num := num) (K := min X.2.2.2.2.2.2 (aS (wZ (1 - s) b) X.1)) hL i1 hT1 ht0 hs h10 hN h1 h2 hb ⟨by omega, by omega⟩
    refine ⟨ν, k2.mono (fun g q => by unfold kF at q; unfold gF; omega) (fun _ q => q), ⟨k3, k4⟩, fun kk => ?_⟩
    rw [pre]
    unfold f_X8_meets_126 f_X8_meets_143
    rw [if_pos c, kb_p k1, ckI_p ⟨by omega, by omega⟩]
  · rw [if_neg c]
    refine ⟨μ, dRf.rf, ⟨h1, h2⟩, fun kk => ?_⟩
    rw [pre]
    unfold f_X8_meets_126 f_X8_meets_143
    have e0 : X.2.2.2.2.2.2 - min X.2.2.2.2.2.2 (aS (wZ (1 - s) b) X.1) = X.2.2.2.2.2.2 := by omega
    rw [if_neg c, ckI_p ⟨by omega, by omega⟩, e0]
/-- one turn of the reference -/
theorem z_turn8 (hL : mL G m) (hT1 : T 1 = L1) (ht0 : t0 < 10) (hs : s = 0 ∨ s = 1) (hm : 0 ≤ mode ∧ mode ≤ 3) (h10 : 0 ≤ T 10 ∧ T 10 ≤ 60) (hN : 1000 < N) (hI : mI L1 (t0 : Int) X) (h : rS G m T D tr n B x s (t0 : Int) num X μ) (hz : 0 < X.2.2.2.2.2.2) {b : Int} (hb : b = aBest (1 - s) X.1) (hb0 : b ≠ 0) (hbt : ¬ aBet (1 - s) pr b = true) :
    ∃ ν, dRf G m gF kAr μ ν ∧ rS G m T D tr n B x s (t0 : Int) num (mStep mode s num (t0 : Int) L1 b X) ν ∧ ((∀ kk, f_X8_meets_11 N G kk m pr mode X.2.2.2.2.2.2 (1 - s) μ = kk m pr mode (mStep mode s num (t0 : Int) L1 b X).2.2.2.2.2.2 (1 - s) ν) ∨ ((mStep mode s num (t0 : Int) L1 b X).2.2.2.2.2.2 = 0 ∧ ∀ kk, f_X8_meets_11 N G kk m pr mode X.2.2.2.2.2.2 (1 - s) μ = some (0, ν))) := by
  have hI' := hI
  obtain ⟨i1, i2, i3⟩ := hI
  obtain ⟨h1, h2⟩ := h
  have h60 := i1.lo.1
  obtain ⟨hb1, -⟩ := aBest_bd (s := 1 - s) i1.lo (by rw [← hb]; exact hb0)
  rw [← hb] at hb1
  have pre : ∀ kk, f_X8_meets_11 N G kk m pr mode X.2.2.2.2.2.2 (1 - s) μ = if aMet (oOwn (1 - s) b (t0 : Int)) X.1 X.1.length = 0 then f_X8_meets_102 N G kk m pr mode X.2.2.2.2.2.2 (1 - s) b μ else if mode = 0 then f_X8_meets_65 N G kk m pr mode X.2.2.2.2.2.2 (1 - s) b μ else if mode = 2 then f_X8_meets_65 N G kk m pr mode X.2.2.2.2.2.2 (1 - s) b μ else f_X8_meets_73 N G kk m pr mode X.2.2.2.2.2.2 (1 - s) b μ := by
    intro kk
    unfold f_X8_meets_11
    rw [if_pos hz, kb2_p (z_bestOf8 h1.1 i1.lo (by omega)), ← hb, if_neg hb0, h2.2.2.1, kb2_p z_isBetter8, b01_ite, ← aBet_sw hs, if_neg hbt, kb2_p (z_hasOwn8 h1.1 h60 (by omega) h2.2.1 rfl)]
  have bz : mode ≠ 3 → bL mode (oOwn (1 - s) b (t0 : Int)) X.1 X.2.2.2.2.2.2 X.1.length = X.2.2.2.2.2.2 := fun q => bL_no (fun j _ e => absurd e q) _ (Nat.le_refl _)
  -- with the state behind the prevention
  have go : ∀ μ1, dRf G m gF kAr μ μ1 → rS G m T D tr n B x s (t0 : Int) num (mPrev mode s (t0 : Int) b X) μ1 → (∀ kk, f_X8_meets_11 N G kk m pr mode X.2.2.2.2.2.2 (1 - s) μ = f_X8_meets_102 N G kk m pr mode (mPrev mode s (t0 : Int) b X).2.2.2.2.2.2 (1 - s) b μ1) →
      ∃ ν, dRf G m gF kAr μ ν ∧ rS G m T D tr n B x s (t0 : Int) num (mStep mode s num (t0 : Int) L1 b X) ν ∧ ((∀ kk, f_X8_meets_11 N G kk m pr mode X.2.2.2.2.2.2 (1 - s) μ = kk m pr mode (mStep mode s num (t0 : Int) L1 b X).2.2.2.2.2.2 (1 - s) ν) ∨ ((mStep mode s num (t0 : Int) L1 b X).2.2.2.2.2.2 = 0 ∧ ∀ kk, f_X8_meets_11 N G kk m pr mode X.2.2.2.2.2.2 (1 - s) μ = some (0, ν))) := by
    intro μ1 hd hr he
    obtain ⟨ν, k1, k2, k3⟩ := z_takeR (N := N) (pr := pr) (mode := mode) hL hT1 ht0 hs h10 hN (mPrev_inv (mode := mode) (s := s) (b := b) hI') hr hb1
    exact ⟨ν, hd.tr k1, k2, Or.inl (fun kk => (he kk).trans (k3 kk))⟩
  -- where it ends
  have done : ∀ μ1, dRf G m gF kAr μ μ1 → rS G m T D tr n B x s (t0 : Int) num (mPrev mode s (t0 : Int) b X) μ1 → (mPrev mode s (t0 : Int) b X).2.2.2.2.2.2 = 0 → (∀ kk, f_X8_meets_11 N G kk m pr mode X.2.2.2.2.2.2 (1 - s) μ = some (0, μ1)) →
      ∃ ν, dRf G m gF kAr μ ν ∧ rS G m T D tr n B x s (t0 : Int) num (mStep mode s num (t0 : Int) L1 b X) ν ∧ ((∀ kk, f_X8_meets_11 N G kk m pr mode X.2.2.2.2.2.2 (1 - s) μ = kk m pr mode (mStep mode s num (t0 : Int) L1 b X).2.2.2.2.2.2 (1 - s) ν) ∨ ((mStep mode s num (t0 : Int) L1 b X).2.2.2.2.2.2 = 0 ∧ ∀ kk, f_X8_meets_11 N G kk m pr mode X.2.2.2.2.2.2 (1 - s) μ = some (0, ν))) := by
    intro μ1 hd hr h0 he
    have e : mStep mode s num (t0 : Int) L1 b X = mPrev mode s (t0 : Int) b X := by
      unfold mStep mTake
      rw [if_neg (by omega)]
    rw [e]
    exact ⟨μ1, hd, hr, Or.inr ⟨h0, he⟩⟩
  -- nothing lost
  have same : (∀ i, i < X.1.length → bY mode (oOwn (1 - s) b (t0 : Int)) X.1 X.2.2.2.2.2.2 i = 0) → rS G m T D tr n B x s (t0 : Int) num (mPrev mode s (t0 : Int) b X) μ := by
    intro h0
    obtain ⟨n1, n2, n3, n4, n5⟩ := noLoss (U := X.2.1) i1.pos h0
    have e1 : (mPrev mode s (t0 : Int) b X).1 = X.1 := n2
    have e2 : (mPrev mode s (t0 : Int) b X).2.1 = X.2.1 := n3
    have e3 : (mPrev mode s (t0 : Int) b X).2.2.2.1 = X.2.2.2.1 := by show X.2.2.2.1 + cZ mode (oOwn (1 - s) b (t0 : Int)) X.1 X.2.2.2.2.2.2 X.1.length = _; rw [n4, Int.add_zero]
    have e4 : (mPrev mode s (t0 : Int) b X).2.2.2.2.1 = X.2.2.2.2.1 := by show X.2.2.2.2.1 + (if mode = 3 then cY mode (oOwn (1 - s) b (t0 : Int)) X.1 X.2.2.2.2.2.2 X.1.length else 0) = _; rw [n5, ite_self, Int.add_zero]
    have e5 : (mPrev mode s (t0 : Int) b X).2.2.2.2.2.1 = X.2.2.2.2.2.1 := by show X.2.2.2.2.2.1 + (if mode = 3 then 0 else cY mode (oOwn (1 - s) b (t0 : Int)) X.1 X.2.2.2.2.2.2 X.1.length) = _; rw [n5, ite_self, Int.add_zero]
    have e6 : (mPrev mode s (t0 : Int) b X).2.2.1 = X.2.2.1 := rfl
    unfold rS
    rw [e1, e2, e3, e4, e5, e6]
    exact ⟨h1, h2⟩
  have m01 := aMet_01 (w := oOwn (1 - s) b (t0 : Int)) (l := X.1) X.1.length
  have ds : ∀ {α β : qM}, dRf G m oF oA α β → dRf G m gF kAr α β := fun q => q.mono (fun g y => by unfold oF at y; unfold gF; omega) (fun g y => by unfold oA at y; unfold kAr; omega)
  have ii : ∀ {α : qM} {q : Int}, dRf G m oF oA μ α → gI α 817 m = w32 q → mIn m α num (t0 : Int) s (w32 (sumW X.2.2.1)) (pOf 0 X.2.2.1) (w64 (sumY X.2.2.1)) (w32 q) := by
    intro α q hd h17
    obtain ⟨a1, a2, a3, a4, a5, a6, a7⟩ := h2
    have k : ∀ g, g ≠ 817 → gI α g m = gI μ g m := fun g hg => hd.1 _ _ (fun y => hg y.2)
    exact ⟨by rw [k _ (by decide)]; exact a1, by rw [k _ (by decide)]; exact a2, by rw [k _ (by decide)]; exact a3, by rw [k _ (by decide)]; exact a4, by rw [k _ (by decide)]; exact a5, by rw [k _ (by decide)]; exact a6, h17⟩
  by_cases c0 : aMet (oOwn (1 - s) b (t0 : Int)) X.1 X.1.length = 0
  · have no := aMet_0 c0
    have ez : (mPrev mode s (t0 : Int) b X).2.2.2.2.2.2 = X.2.2.2.2.2.2 := by
      show vLeft mode (oOwn (1 - s) b (t0 : Int)) X.1 X.2.2.2.2.2.2 = _
      unfold vLeft
      rw [if_neg (by omega)]
      exact bL_no (fun j hj _ => no j hj) _ (Nat.le_refl _)
    refine go μ dRf.rf (same (fun i hi => if_neg (no i hi))) (fun kk => ?_)
    rw [pre, if_pos c0, ez]
  · have c1 : aMet (oOwn (1 - s) b (t0 : Int)) X.1 X.1.length = 1 := by omega
    have off : (mode = 0 ∨ mode = 2) → ∃ μ1, f_X8_takesOwnOff N G m (1 - s) b μ = some μ1 ∧ dRf G m gF kAr μ μ1 ∧ rS G m T D tr n B x s (t0 : Int) num (mPrev mode s (t0 : Int) b X) μ1 := by
      intro hm02
      obtain ⟨μ1, k1, k2, k3, k4⟩ := z_takesOwnOff8 (N := N) (z := X.2.2.2.2.2.2) hL i1 hm02 i2.1 hN h2.2.1 rfl h1 h2.2.2.2.2.2.2
      refine ⟨μ1, k1, ds k2, ?_⟩
      have e4 : (mPrev mode s (t0 : Int) b X).2.2.2.2.1 = X.2.2.2.2.1 := by show X.2.2.2.2.1 + (if mode = 3 then _ else 0) = _; rw [if_neg (by omega), Int.add_zero]
      have e5 : (mPrev mode s (t0 : Int) b X).2.2.2.2.2.1 = X.2.2.2.2.2.1 + cY mode (oOwn (1 - s) b (t0 : Int)) X.1 X.2.2.2.2.2.2 X.1.length := by show X.2.2.2.2.2.1 + (if mode = 3 then 0 else _) = _; rw [if_neg (by omega)]
      unfold rS
      rw [e4, e5, ← Int.add_assoc]
      exact ⟨k3, ii k2 k4⟩
    by_cases m0 : mode = 0
    · obtain ⟨μ1, k1, k2, k3⟩ := off (Or.inl m0)
      have ez : (mPrev mode s (t0 : Int) b X).2.2.2.2.2.2 = X.2.2.2.2.2.2 := by
        show vLeft mode (oOwn (1 - s) b (t0 : Int)) X.1 X.2.2.2.2.2.2 = _
        unfold vLeft
        rw [if_neg (by omega)]
        exact bz (by omega)
      refine go μ1 k2 k3 (fun kk => ?_)
      rw [pre, if_neg c0, if_pos m0]
      unfold f_X8_meets_65 f_X8_meets_73
      rw [kb_p k1, if_neg (by omega), if_neg (by omega), if_neg (by omega), ez]
    · by_cases m2 : mode = 2
      · obtain ⟨μ1, k1, k2, k3⟩ := off (Or.inr m2)
        have ez : (mPrev mode s (t0 : Int) b X).2.2.2.2.2.2 = 0 := by
          show vLeft mode (oOwn (1 - s) b (t0 : Int)) X.1 X.2.2.2.2.2.2 = _
          unfold vLeft
          rw [if_pos ⟨c1, Or.inr m2⟩]
        refine done μ1 k2 k3 ez (fun kk => ?_)
        rw [pre, if_neg c0, if_neg m0, if_pos m2]
        unfold f_X8_meets_65 f_X8_meets_73
        rw [kb_p k1, if_neg (by omega), if_pos m2]
      · by_cases m1 : mode = 1
        · have ez : (mPrev mode s (t0 : Int) b X).2.2.2.2.2.2 = 0 := by
            show vLeft mode (oOwn (1 - s) b (t0 : Int)) X.1 X.2.2.2.2.2.2 = _
            unfold vLeft
            rw [if_pos ⟨c1, Or.inl m1⟩]
          refine done μ dRf.rf (same (fun i hi => ?_)) ez (fun kk => ?_)
          · unfold bY
            rw [if_neg (show ¬ mode = 3 by omega), if_neg (show ¬ (mode = 0 ∨ mode = 2) by omega), ite_self]
          · rw [pre, if_neg c0, if_neg m0, if_neg m2]
            unfold f_X8_meets_73
            rw [if_pos m1]
        · have m3 : mode = 3 := by omega
          subst m3
          obtain ⟨μ1, k1, k2, k3, k4⟩ := z_makesLess8 (N := N) (z := X.2.2.2.2.2.2) hL i1 i2 hN h2.2.1 rfl h1 h2.2.2.2.2.2.2
          have ez : (mPrev 3 s (t0 : Int) b X).2.2.2.2.2.2 = bL 3 (oOwn (1 - s) b (t0 : Int)) X.1 X.2.2.2.2.2.2 X.1.length := by
            show vLeft 3 (oOwn (1 - s) b (t0 : Int)) X.1 X.2.2.2.2.2.2 = _
            unfold vLeft
            rw [if_neg (by omega)]
          have e4 : (mPrev 3 s (t0 : Int) b X).2.2.2.2.1 = X.2.2.2.2.1 + cY 3 (oOwn (1 - s) b (t0 : Int)) X.1 X.2.2.2.2.2.2 X.1.length := by show X.2.2.2.2.1 + (if (3 : Int) = 3 then _ else 0) = _; rw [if_pos rfl]
          have e5 : (mPrev 3 s (t0 : Int) b X).2.2.2.2.2.1 = X.2.2.2.2.2.1 := by show X.2.2.2.2.2.1 + (if (3 : Int) = 3 then 0 else _) = _; rw [if_pos rfl, Int.add_zero]
          refine go μ1 (ds k2) ?_ (fun kk => ?_)
          · unfold rS
            rw [e4, e5]
            have e6 : X.2.2.2.2.1 + X.2.2.2.2.2.1 + cY 3 (oOwn (1 - s) b (t0 : Int)) X.1 X.2.2.2.2.2.2 X.1.length = X.2.2.2.2.1 + cY 3 (oOwn (1 - s) b (t0 : Int)) X.1 X.2.2.2.2.2.2 X.1.length + X.2.2.2.2.2.1 := by omega
            rw [e6] at k4
            exact ⟨k3, ii k2 k4⟩
          · rw [pre, if_neg c0, if_neg m0, if_neg m2]
            unfold f_X8_meets_73
            rw [if_neg m1, if_neg m2, if_pos rfl, kb2_p k1, ez]
theorem z_meets8 (hL : mL G m) (hT1 : T 1 = L1) (ht0 : t0 < 10) (hs : s = 0 ∨ s = 1) (hm : 0 ≤ mode ∧ mode ≤ 3) (h10 : 0 ≤ T 10 ∧ T 10 ≤ 60) (hN : 1000 < N) (hI : mI L1 (t0 : Int) X) (h : rS G m T D tr n B x s (t0 : Int) num X μ) :
    ∃ ν, f_X8_meets N G m pr X.2.2.2.2.2.2 mode μ = some ((mRun mode s num (t0 : Int) L1 pr 60 X).2.2.2.2.2.2, ν) ∧ dRf G m gF kAr μ ν ∧ rS G m T D tr n B x s (t0 : Int) num (mRun mode s num (t0 : Int) L1 pr 60 X) ν := by
  unfold f_X8_meets
  rw [h.2.2.2.1, ckI_p ⟨by omega, by omega⟩]
  unfold f_X8_meets_L11
  refine qLoop_inv
    (fun i st => ∃ Y mem, st = (m, pr, mode, Y.2.2.2.2.2.2, 1 - s, mem) ∧ dRf G m gF kAr μ mem ∧ rS G m T D tr n B x s (t0 : Int) num Y mem ∧ mI L1 (t0 : Int) Y ∧ mRun mode s num (t0 : Int) L1 pr 60 X = mRun mode s num (t0 : Int) L1 pr (60 - i) Y ∧ (Y.2.2.2.2.2.2 = 0 ∨ Y.1.length + i ≤ 60))
    (fun r => ∃ ν, r = some ((mRun mode s num (t0 : Int) L1 pr 60 X).2.2.2.2.2.2, ν) ∧ dRf G m gF kAr μ ν ∧ rS G m T D tr n B x s (t0 : Int) num (mRun mode s num (t0 : Int) L1 pr 60 X) ν) 60 ?_ ?_ 60 0 N _ (by omega) (by omega) ⟨X, μ, rfl, dRf.rf, h, hI, rfl, Or.inr (by have := hI.1.lo.1; omega)⟩
  · rintro i st hi ⟨Y, mem, rfl, hd, hc, hIY, hr, hle⟩
    by_cases c : 0 < Y.2.2.2.2.2.2
    · by_cases c1 : aBest (1 - s) Y.1 = 0 ∨ aBet (1 - s) pr (aBest (1 - s) Y.1) = true
      · refine Or.inl ⟨some (Y.2.2.2.2.2.2, mem), ⟨mem, by rw [hr, mRun_b c1], hd, by rw [hr, mRun_b c1]; exact hc⟩, fun kk => ?_⟩
        show f_X8_meets_11 N G _ m pr mode Y.2.2.2.2.2.2 (1 - s) mem = _
        unfold f_X8_meets_11
        rw [if_pos c, kb2_p (z_bestOf8 hc.1.1 hIY.1.lo (by omega)), hc.2.2.2.1, kb2_p z_isBetter8, b01_ite, ← aBet_sw hs]
        rcases c1 with c1 | c1
        · rw [if_pos c1]
        · rw [if_pos c1, ite_self]
      · have c2 : aBest (1 - s) Y.1 ≠ 0 := fun q => c1 (Or.inl q)
        have c3 : ¬ aBet (1 - s) pr (aBest (1 - s) Y.1) = true := fun q => c1 (Or.inr q)
        obtain ⟨ν, k1, k2, k3⟩ := z_turn8 (N := N) (mode := mode) (pr := pr) hL hT1 ht0 hs hm h10 hN hIY hc c rfl c2 c3
        have e60 : 60 - i = (60 - (i + 1)) + 1 := by omega
        have hr' : mRun mode s num (t0 : Int) L1 pr 60 X = mRun mode s num (t0 : Int) L1 pr (60 - (i + 1)) (mStep mode s num (t0 : Int) L1 (aBest (1 - s) Y.1) Y) := by rw [hr, e60, mRun_s (by omega) c1]
        have ls := mStep_less (mode := mode) (num := num) hs hIY rfl c2 c
        rcases k3 with k3 | ⟨k0, k3⟩
        · exact Or.inr ⟨_, ⟨_, ν, rfl, hd.tr k1, k2, mStep_inv hm hs hIY, hr', by omega⟩, fun kk => k3 _⟩
        · refine Or.inl ⟨some (0, ν), ⟨ν, by rw [hr', mRun_z (by omega), k0], hd.tr k1, by rw [hr', mRun_z (by omega)]; exact k2⟩, fun kk => k3 _⟩
    · have z0 : Y.2.2.2.2.2.2 = 0 := by have := hIY.2.1.1; omega
      refine Or.inl ⟨some (0, mem), ⟨mem, by rw [hr, mRun_z (by omega), z0], hd, by rw [hr, mRun_z (by omega)]; exact hc⟩, fun kk => ?_⟩
      show f_X8_meets_11 N G _ m pr mode Y.2.2.2.2.2.2 (1 - s) mem = _
      unfold f_X8_meets_11
      rw [if_neg c]
  · rintro st ⟨Y, mem, rfl, hd, hc, hIY, hr, hle⟩
    by_cases z0 : Y.2.2.2.2.2.2 = 0
    · refine ⟨some (0, mem), ⟨mem, by rw [hr, mRun_z (by omega), z0], hd, by rw [hr, mRun_z (by omega)]; exact hc⟩, fun kk => ?_⟩
      show f_X8_meets_11 N G _ m pr mode Y.2.2.2.2.2.2 (1 - s) mem = _
      unfold f_X8_meets_11
      rw [if_neg (by omega)]
    · have hz := hIY.2.1.1
      have e : Y.1 = [] := List.length_eq_zero_iff.mp (by omega)
      have b0 : aBest (1 - s) Y.1 = 0 := by rw [e]; rfl
      refine ⟨some (Y.2.2.2.2.2.2, mem), ⟨mem, by rw [hr, mRun_b (Or.inl b0)], hd, by rw [hr, mRun_b (Or.inl b0)]; exact hc⟩, fun kk => ?_⟩
      show f_X8_meets_11 N G _ m pr mode Y.2.2.2.2.2.2 (1 - s) mem = _
      unfold f_X8_meets_11
      rw [if_pos (by omega), kb2_p (z_bestOf8 hc.1.1 hIY.1.lo (by omega)), if_pos b0]
end MEET
