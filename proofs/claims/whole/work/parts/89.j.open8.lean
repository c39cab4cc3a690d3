/-! PURE: OPEN, reference -/
section OPEN8
variable {N : Nat} {G : qG} {m : Nat} {μ ν : qM} {l : List (Nat → Int)} {T U D : Nat → Int} {tr : Nat → Nat → Int} {n : Nat} {B : Nat → Int} {p0 pr s L1 v : Int} {X : OS}
theorem z_oside8 (hL : mL G m) (hT1 : T 1 = L1) (hL1 : 1 ≤ L1 ∧ L1 ≤ 50) (hU : U 6 = -1 ∧ U 7 = -1) (hU8 : U 8 = 0 ∧ U 9 = 0) (hs : s = 0 ∨ s = 1) (h10 : 0 ≤ T 10 ∧ T 10 ≤ 60) (hN : 1000 < N) (hpr : 1 ≤ pr ∧ pr ≤ 9999999) {L E : List (Nat → Int)} (hI : oIv s (L, E, v, aBest s L)) (h : oS8 G m T U D tr n B p0 (L, E, v, aBest s L) μ) (h818 : gI μ 818 m = pr) (h819 : gI μ 819 m = v) :
    ∃ ν, f_X8_opensSide N G m s μ = some ν ∧ dRf G m wF kAr μ ν ∧ oS8 G m T U D tr n B p0 (oRun s pr L1 60 (L, E, v, aBest s L)) ν := by
  have h60 := hI.1.1
  unfold f_X8_opensSide
  rw [h819]
  unfold f_X8_opensSide_L5
  refine qLoop_inv
    (fun i st => ∃ X mem, st = (m, s, X.2.2.1, mem) ∧ dRf G m wF kAr μ mem ∧ oS8 G m T U D tr n B p0 X mem ∧ oIv s X ∧ oRun s pr L1 60 (L, E, v, aBest s L) = oRun s pr L1 (60 - i) X ∧ (X.2.2.1 ≤ 0 ∨ aS (wNb s X.2.2.2) X.1 + (i : Int) ≤ 60))
    (fun r => ∃ ν, r = some ν ∧ dRf G m wF kAr μ ν ∧ oS8 G m T U D tr n B p0 (oRun s pr L1 60 (L, E, v, aBest s L)) ν) 60 ?_ ?_ 60 0 N _ (by omega) (by omega) ⟨(L, E, v, aBest s L), μ, rfl, dRf.rf, h, hI, rfl, Or.inr ?_⟩
  · rintro i st hi ⟨X, mem, rfl, hd, hc, hIX, hr, hm⟩
    by_cases c : 0 < X.2.2.1
    · obtain ⟨ν, k1, k2, k3⟩ := z_oturn8 (N := N) hL hT1 hL1 hU hU8 hs h10 hN hpr hIX hc (by rw [hd.1 _ _ (fun q => by have := q.2; unfold wF at this; omega)]; exact h818) c
      have e60 : 60 - i = (60 - (i + 1)) + 1 := by omega
      refine Or.inr ⟨_, ⟨oStep s pr L1 X, ν, rfl, hd.tr k1, k2, oStep_inv hIX hL1 c, by rw [hr, e60, oRun_s (by omega)], ?_⟩, fun kk => ?_⟩
      · by_cases c2 : 0 < (oStep s pr L1 X).2.2.1
        · have := cnt_less (pr := pr) hIX hL1 c c2
          exact Or.inr (by omega)
        · exact Or.inl (by omega)
      · show f_X8_opensSide_5 N G _ m s X.2.2.1 mem = _
        rw [k3]
    · refine Or.inl ⟨some mem, ⟨mem, rfl, hd, by rw [hr, oRun_z (by omega)]; exact hc⟩, fun kk => ?_⟩
      show f_X8_opensSide_5 N G _ m s X.2.2.1 mem = _
      unfold f_X8_opensSide_5
      rw [if_neg c]
  · rintro st ⟨X, mem, rfl, hd, hc, hIX, hr, hm⟩
    have c : ¬ 0 < X.2.2.1 := fun q => by
      have := cnt_pos hIX q
      omega
    refine ⟨some mem, ⟨mem, rfl, hd, by rw [hr]; exact hc⟩, fun kk => ?_⟩
    show f_X8_opensSide_5 N G _ m s X.2.2.1 mem = _
    unfold f_X8_opensSide_5
    rw [if_neg c]
  · have := aS_bd (w := wNb s (aBest s L)) (M := 1) (l := L) (fun i _ => by unfold wNb; split <;> omega)
    show aS (wNb s (aBest s L)) L + 0 ≤ 60
    have h60' : L.length ≤ 60 := h60
    omega
theorem apT_3s {E : List (Nat → Int)} {p p' : Int} : upd1 (apT T U p E 0 0 0 0 0) 3 p' = apT T U p' E 0 0 0 0 0 := by
  funext j
  by_cases c : j = 3
  · subst c; rw [upd1_s, apT_3]
  · rw [upd1_n c]
    exact apT_cg (fun _ => rfl) (fun _ => rfl) (fun q => absurd q c) (fun _ => rfl) (fun _ => rfl) (fun _ => rfl) (fun _ => rfl) (fun _ => ⟨rfl, rfl⟩)
theorem z_opening8 (hL : mL G m) (h : mR G m μ l T D tr n B) (ho : mOk l T) (hw : wOk T) (hd : dOk D) (hN : 1000 < N) :
    ∃ ν r, f_X8_opening N G m μ = some (r, ν) ∧ dRf G m (fun g => wF g ∨ lF g) kAr μ ν ∧ (T 2 = 0 → r = -1 ∧ mR G m ν l T D tr n B) ∧ (T 2 ≠ 0 → ∃ p v u, cSp l (T 3) p v u ∧ r = v ∧ mR G m ν (opRes l T D tr p v).1 (opRes l T D tr p v).2.1 (opRes l T D tr p v).2.2.1 (opRes l T D tr p v).2.2.2 n B) := by
  have hl := ho.lo
  have t1 := ho.t1
  have t3 := ho.t3
  have t10 := ho.t10
  unfold f_X8_opening
  rw [h.2.1 2 (by decide) (by decide)]
  by_cases h2 : T 2 = 0
  · rw [if_pos h2]
    exact ⟨μ, -1, rfl, dRf.rf, fun _ => ⟨rfl, h⟩, fun q => absurd h2 q⟩
  · rw [if_neg h2]
    have hc : T 2 = 1 := by have := ho.t2; omega
    have hcal := ho.2.2.2.2.2.2.2.2.2.2.2 hc
    have hm1 := h.T hL (j := 2) (v := 0) (by decide) (by decide) (by decide)
    have e3 : upd1 T 2 0 3 = T 3 := upd1_n (by decide)
    obtain ⟨μ2, p, v, u, k1, k2, k3, k4, k5, k6⟩ := z_clearing8 (N := N) hm1 hl (by rw [e3]; exact t3) (by omega)
    rw [e3] at k6
    have hm2 := hm1.clr k2
    have d1 : dRf G m (fun g => wF g ∨ lF g) kAr μ (sA μ (gR G 800 m) 2 0) := dRf.sA (by unfold kAr; omega)
    have d2 : dRf G m (fun g => wF g ∨ lF g) kAr μ μ2 := d1.tr (k2.mono (fun _ q => Or.inr q) (fun _ q => q.elim))
    obtain ⟨v0, v1, v2⟩ := opV k6 hl
    rw [kp_p, kb_p k1, k4]
    by_cases hz : v = 0
    · rw [if_pos hz]
      have R : opRes l T D tr p v = (l, upd1 T 2 0, D, tr) := if_neg (by omega)
      refine ⟨μ2, 0, rfl, d2, fun q => absurd q h2, fun _ => ⟨p, v, u, k6, hz.symm, ?_⟩⟩
      rw [R]
      exact hm2
    · rw [if_neg hz]
      have hz' : 0 < v := by omega
      obtain ⟨i0, i1, i2, q0, q1, e1, e2⟩ := opXY ho k6 hz'
      have hp := (v2 hz').1
      have hU : tps T 6 = -1 ∧ tps T 7 = -1 := ⟨(tps_u (by decide)).trans hcal.1, (tps_u (by decide)).trans hcal.2⟩
      have hU8 : tps T 8 = 0 ∧ tps T 9 = 0 := by
        have a := ho.top 0 (by decide)
        have b := ho.top 1 (by decide)
        have a6 : T (6 + 0) = -1 := hcal.1
        have b7 : T (6 + 1) = -1 := hcal.2
        have a8 : T 8 = T (8 + 0) := rfl
        have b9 : T 9 = T (8 + 1) := rfl
        exact ⟨by rw [tps_u (by decide)]; omega, by rw [tps_u (by decide)]; omega⟩
      have g1 : upd1 T 2 0 1 = T 1 := upd1_n (by decide)
      have g10 : 0 ≤ upd1 T 2 0 10 ∧ upd1 T 2 0 10 ≤ 60 := by rw [upd1_n (by decide)]; exact t10
      have st0 : oS8 G m (upd1 T 2 0) (tps T) D tr n B (T 3) (l, [], v, aBest 0 l) μ2 := by
        have e : l.filter aKp = l := flt_all (fun i hi => decide_eq_true (ho.pos i hi))
        show mR G m μ2 (l.filter aKp) _ _ _ n B
        rw [e]
        exact hm2.cg (fun j hj => apT_op hw t10.2 hj) (fun t ht => apD_s hd ht) (fun i w => rfl)
      obtain ⟨μ3, a1, a2, a3⟩ := z_oside8 (N := N) hL g1 t1 hU hU8 (Or.inl rfl) g10 hN hp i0 st0 k3 k4
      have nf : ∀ {α β : qM} {g}, dRf G m wF kAr α β → (g = 818 ∨ g = 819) → gI β g m = gI α g m := fun q hg => q.1 _ _ (fun y => by have := y.2; unfold wF at this; omega)
      have st1 : oS8 G m (upd1 T 2 0) (tps T) D tr n B (T 3) ((opX l T p v).1, (opX l T p v).2.1, v, aBest 1 (opX l T p v).1) μ3 := a3
      obtain ⟨μ4, b1, b2, b3⟩ := z_oside8 (N := N) hL g1 t1 hU hU8 (Or.inr rfl) g10 hN hp i1 st1 (by rw [nf a2 (by decide)]; exact k3) (by rw [nf a2 (by decide)]; exact k4)
      have hm4 : mR G m μ4 ((opY l T p v).1.filter aKp) (apT (upd1 T 2 0) (tps T) (T 3) (opY l T p v).2.1 0 0 0 0 0) (apD D (opY l T p v).2.1 0 0 0) (apTr tr (opY l T p v).2.1) n B := b3
      have h818 : gI μ4 818 m = p := by rw [nf b2 (by decide), nf a2 (by decide)]; exact k3
      have h819 : gI μ4 819 m = v := by rw [nf b2 (by decide), nf a2 (by decide)]; exact k4
      have hm5 := hm4.T hL (j := 3) (v := p) (by decide) (by decide) (by decide)
      rw [apT_3s] at hm5
      have hm5' : mR G m (sA μ4 (gR G 800 m) 3 p) ((opY l T p v).1.filter aKp) (opA T p (opY l T p v).2.1) (apD D (opY l T p v).2.1 0 0 0) (apTr tr (opY l T p v).2.1) n B := hm5
      have hm6 := hm5'.T hL (j := 11) (v := w32 (opA T p (opY l T p v).2.1 11 + v)) (by decide) (by decide) (by decide)
      have R : opRes l T D tr p v = ((opY l T p v).1.filter aKp, opT T p v (opY l T p v).2.1, apD D (opY l T p v).2.1 0 0 0, apTr tr (opY l T p v).2.1) := if_pos hz'
      rw [kb_p a1, kb_p b1, h818, kp_p, hm5'.2.1 11 (by decide) (by decide), gI_sA, h819, kp_p, kp_p, gI_sA, gI_sA, h819]
      have dw : ∀ {α β : qM}, dRf G m wF kAr α β → dRf G m (fun g => wF g ∨ lF g) kAr α β := fun q => q.mono (fun _ x => Or.inl x) (fun _ x => x)
      refine ⟨_, v, rfl, (((d2.tr (dw a2)).tr (dw b2)).tr (dRf.sA (by unfold kAr; omega))).tr (dRf.sA (by unfold kAr; omega)), fun q => absurd q h2, fun _ => ⟨p, v, u, k6, rfl, ?_⟩⟩
      rw [R]
      exact hm6
theorem z_open8 (hL : mL G m) (h : mR G m μ l T D tr n B) (ho : mOk l T) (hw : wOk T) (hd : dOk D) (hN : 1000 < N) :
    ∃ ν r, f_X8_open N G m μ = some (r, ν) ∧ (T 2 = 0 → r = -1 ∧ mR G m ν l T D tr n B) ∧ (T 2 ≠ 0 → ∃ p v u, cSp l (T 3) p v u ∧ r = v ∧ mR G m ν (opRes l T D tr p v).1 (opRes l T D tr p v).2.1 (opRes l T D tr p v).2.2.1 (opRes l T D tr p v).2.2.2 n B) := by
  have h1 := h.fld (f := 804) (a := m) (v := 0) (by decide)
  obtain ⟨ν, r, k1, -, k2⟩ := z_opening8 (N := N) hL h1 ho hw hd hN
  unfold f_X8_open
  rw [kp_p, kb2_p k1]
  exact ⟨ν, r, rfl, k2⟩
/-- the outcome, as one -/
noncomputable def cPV (l : List (Nat → Int)) (last : Int) : Int × Int × Int := @dite _ (∃ q : Int × Int × Int, cSp l last q.1 q.2.1 q.2.2) (Classical.propDecidable _) (fun h => Classical.choose h) (fun _ => (0, 0, 0))
theorem cPV_eq {last p u : Int} (h : cSp l last p v u) : cPV l last = (p, v, u) := by
  have hx : ∃ q : Int × Int × Int, cSp l last q.1 q.2.1 q.2.2 := ⟨(p, v, u), h⟩
  unfold cPV
  rw [dif_pos hx]
  have h1 := Classical.choose_spec hx
  obtain ⟨a, b, c⟩ := cSp_uq h1 h
  exact Prod.ext a (Prod.ext b c)
/-- OPEN: orders, numbers, money, trades, answer -/
noncomputable def opAll (l : List (Nat → Int)) (T D : Nat → Int) (tr : Nat → Nat → Int) : List (Nat → Int) × (Nat → Int) × (Nat → Int) × (Nat → Nat → Int) × Int :=
  if T 2 = 0 then (l, T, D, tr, -1) else ((opRes l T D tr (cPV l (T 3)).1 (cPV l (T 3)).2.1).1, (opRes l T D tr (cPV l (T 3)).1 (cPV l (T 3)).2.1).2.1, (opRes l T D tr (cPV l (T 3)).1 (cPV l (T 3)).2.1).2.2.1, (opRes l T D tr (cPV l (T 3)).1 (cPV l (T 3)).2.1).2.2.2, (cPV l (T 3)).2.1)
theorem z_opn8 (hL : mL G m) (h : mR G m μ l T D tr n B) (ho : mOk l T) (hw : wOk T) (hd : dOk D) (hN : 1000 < N) :
    ∃ ν, f_X8_opening N G m μ = some ((opAll l T D tr).2.2.2.2, ν) ∧ dRf G m (fun g => wF g ∨ lF g) kAr μ ν ∧ mR G m ν (opAll l T D tr).1 (opAll l T D tr).2.1 (opAll l T D tr).2.2.1 (opAll l T D tr).2.2.2.1 n B := by
  obtain ⟨ν, r, k1, k0, k2, k3⟩ := z_opening8 (N := N) hL h ho hw hd hN
  rw [k1]
  unfold opAll
  by_cases c : T 2 = 0
  · rw [if_pos c]
    obtain ⟨e, k⟩ := k2 c
    rw [e]
    exact ⟨ν, rfl, k0, k⟩
  · rw [if_neg c]
    obtain ⟨p, v, u, hs, e, k⟩ := k3 c
    rw [cPV_eq hs, e]
    exact ⟨ν, rfl, k0, k⟩
theorem opAll_ok (ho : mOk l T) (hw : wOk T) (hd : dOk D) (hs : T 2 ≠ 0 → ∃ p v u, cSp l (T 3) p v u) : mOk (opAll l T D tr).1 (opAll l T D tr).2.1 ∧ wOk (opAll l T D tr).2.1 ∧ dOk (opAll l T D tr).2.2.1 ∧ (opAll l T D tr).2.1 4 = T 4 := by
  unfold opAll
  by_cases c : T 2 = 0
  · rw [if_pos c]; exact ⟨ho, hw, hd, rfl⟩
  · rw [if_neg c]
    obtain ⟨p, v, u, h⟩ := hs c
    rw [cPV_eq h]
    exact opRes_ok ho hw hd h c
end OPEN8
section OPN7
variable {N : Nat} {G : qG} {ρ : Nat → Nat × Nat} {x : Nat} {μ ν : qM} {l : List (Nat → Int)} {T D : Nat → Int} {tr : Nat → Nat → Int} {n : Nat} {B : Nat → Int}
theorem z_opn7 (hy : cLY G ρ x) (h : cR G ρ x μ l T D tr n B) (ho : mOk l T) (hw : wOk T) (hd : dOk D) (hN : 1000 < N) :
    ∃ ν, f_X7_open N G x μ = some ((opAll l T D tr).2.2.2.2, ν) ∧ cR G ρ x ν (opAll l T D tr).1 (opAll l T D tr).2.1 (opAll l T D tr).2.2.1 (opAll l T D tr).2.2.2.1 n B ∧ (T 2 ≠ 0 → ∃ p v u, cSp l (T 3) p v u) := by
  obtain ⟨ν, r, k1, k2, k3⟩ := z_open7 (N := N) hy h ho hw hd hN
  rw [k1]
  unfold opAll
  by_cases c : T 2 = 0
  · rw [if_pos c]
    obtain ⟨e, k⟩ := k2 c
    rw [e]
    exact ⟨ν, rfl, k, fun q => absurd c q⟩
  · rw [if_neg c]
    obtain ⟨p, v, u, hs, e, k⟩ := k3 c
    rw [cPV_eq hs, e]
    exact ⟨ν, rfl, k, fun _ => ⟨p, v, u, hs⟩⟩
end OPN7
