/-! PURE: the class trades a side of the change-over -/
theorem fD_fB {J : List Nat} {h f0 : Nat → Int} (hinj : ∀ j k, j < J.length → k < J.length → jG J j = jG J k → j = k) (i : Nat) : fD J h f0 J.length i = fB J h f0 J.length i := by
  by_cases c : ∃ r, r < J.length ∧ jG J r = i
  · obtain ⟨r, hr, rfl⟩ := c
    rw [fD_at hr hinj _ (Nat.le_refl _), if_pos hr, fB_at hinj hr _ (Nat.le_refl _), if_pos (by omega)]
  · rw [fD_o _ (fun r hr e => c ⟨r, hr, e⟩), fB_o (fun r hr e => c ⟨r, hr, e⟩) _ (Nat.le_refl _)]
theorem fB_cg {J : List Nat} {h h' f0 : Nat → Int} (hh : ∀ k, k < J.length → h k = h' k) {i : Nat} : ∀ j, j ≤ J.length → fB J h f0 j i = fB J h' f0 j i := by
  intro j
  induction j with
  | zero => intro _; rfl
  | succ j ih =>
    intro hj
    show (if i = jG J (J.length - 1 - j) then fB J h f0 j i - h (J.length - 1 - j) else fB J h f0 j i) = (if i = jG J (J.length - 1 - j) then fB J h' f0 j i - h' (J.length - 1 - j) else fB J h' f0 j i)
    rw [ih (by omega), hh _ (by omega)]
theorem aS_two {w : (Nat → Int) → Int} : ∀ {L L' : List (Nat → Int)}, L.length = L'.length → (∀ i, i < L.length → w (lG L i) = w (lG L' i)) → aS w L = aS w L' := by
  intro L
  induction L with
  | nil => intro L' hl _; cases L' with
    | nil => rfl
    | cons o t => cases hl
  | cons o t ih =>
    intro L' hl h
    cases L' with
    | nil => cases hl
    | cons o' t' =>
      have h0 : w o = w o' := h 0 (by simp)
      rw [aS_cons, aS_cons, h0, ih (L' := t') (by simpa using hl) (fun i hi => h (i + 1) (by simpa using hi))]
section CNT
variable {s pr L1 : Int} {X : OS}
/-- fewer are behind -/
theorem cnt_less (h : oIv s X) (hL1 : 1 ≤ L1 ∧ L1 ≤ 50) (hz : 0 < X.2.2.1) (hz' : 0 < (oStep s pr L1 X).2.2.1) : aS (wNb s (oStep s pr L1 X).2.2.2) (oStep s pr L1 X).1 < aS (wNb s X.2.2.2) X.1 := by
  have len : (oStep s pr L1 X).1.length = X.1.length := by rw [oStep_1, upL_len]
  have fo : ∀ i w, i < X.1.length → w ≠ 4 → lG (oStep s pr L1 X).1 i w = lG X.1 i w := fun i w hi hw => by rw [oStep_1]; exact upL_o hi hw
  have hn := oStep_inv (pr := pr) h hL1 hz
  obtain ⟨k1, k2, k3, k4, k5⟩ := h.2.2.2 hz
  obtain ⟨m1, m2, -, -, -⟩ := hn.2.2.2 hz'
  have e1 : aS (wNb s (oStep s pr L1 X).2.2.2) (oStep s pr L1 X).1 = aS (wNb s (oStep s pr L1 X).2.2.2) X.1 := aS_two len (fun i hi => by
    rw [len] at hi
    unfold wNb
    rw [fo i 2 hi (by decide), fo i 3 hi (by decide)])
  rw [e1]
  rw [oStep_4] at m2 ⊢
  rcases aNext_in (s := s) (p := X.2.2.2) X.1 0 with q | ⟨j, hj, c1, c2, c3⟩
  · exact absurd q m2
  · have c3' : aNext s X.2.2.2 X.1 = lG X.1 j 3 := c3
    obtain ⟨i0, hi0, hat⟩ := k3
    obtain ⟨a1, a2⟩ := aAt_e hat
    refine aS_lt (j := i0) (fun i hi => ?_) hi0 ?_
    · unfold wNb
      by_cases c : lG X.1 i 2 = s ∧ ¬ aBet s (lG X.1 i 3) (aNext s X.2.2.2 X.1) = true
      · rw [if_pos c, if_pos ⟨c.1, fun q => c.2 (aBet_tr q (by rw [c3']; exact c2))⟩]
        exact Int.le_refl _
      · rw [if_neg c]
        split <;> omega
    · unfold wNb
      rw [a2, c3', if_neg (fun q => q.2 c2), if_pos ⟨a1, by rw [aBet_ir]; decide⟩]
      decide
theorem cnt_pos (h : oIv s X) (hz : 0 < X.2.2.1) : 0 < aS (wNb s X.2.2.2) X.1 := by
  obtain ⟨k1, k2, ⟨i0, hi0, hat⟩, k4, k5⟩ := h.2.2.2 hz
  obtain ⟨a1, a2⟩ := aAt_e hat
  have := aS_pos (v := wNb s X.2.2.2) (fun j _ => by unfold wNb; split <;> omega) hi0
  have e : wNb s X.2.2.2 (lG X.1 i0) = 1 := by unfold wNb; rw [a2, if_pos ⟨a1, by rw [aBet_ir]; decide⟩]
  omega
theorem oRun_s {n : Nat} (hz : ¬ X.2.2.1 ≤ 0) : oRun s pr L1 (n + 1) X = oRun s pr L1 n (oStep s pr L1 X) := if_neg hz
theorem oRun_z {n : Nat} (hz : X.2.2.1 ≤ 0) : oRun s pr L1 n X = X := by
  cases n with
  | zero => rfl
  | succ n => exact if_pos hz
end CNT
section SIDE7
variable {N : Nat} {G : qG} {ρ : Nat → Nat × Nat} {f : Nat} {V : Nat → Nat} {μ ν : qM} {T U D : Nat → Int} {tr : Nat → Nat → Int} {x s pr v L1 : Int} {X : OS}
/-- the class's floor at a point of the course -/
def oS7 (G : qG) (ρ : Nat → Nat × Nat) (f : Nat) (V : Nat → Nat) (T U D : Nat → Int) (tr : Nat → Nat → Int) (x : Int) (X : OS) (μ : qM) : Prop :=
  ∃ A nx, cFlx G ρ f A V nx μ X.1 (apT T U (pOf x X.2.1) X.2.1 0 0 0 0 0) (apD D X.2.1 0 0 0) (apTr tr X.2.1)
theorem z_sturn7 (hy : cLay G ρ f) (hT1 : T 1 = L1) (hL1 : 1 ≤ L1 ∧ L1 ≤ 50) (hU : U 6 = -1 ∧ U 7 = -1) (hs : s = 0 ∨ s = 1) (h10 : 0 ≤ T 10 ∧ T 10 ≤ 60) (hN : 1000 < N) (hpr : 1 ≤ pr ∧ pr ≤ 9999999) (hI : oIv s X) (h : oS7 G ρ f V T U D tr x X μ) (h100 : gI μ 100 (gR G 203 f) = pr) (hz : 0 < X.2.2.1) {i : Int} (hi : 0 ≤ i ∧ i < 60) :
    ∃ ν, dP ρ (pTc f) μ ν ∧ oS7 G ρ f V T U D tr x (oStep s pr L1 X) ν ∧ ∀ kk, f_X2_tradeSide_20 N G kk f s X.2.2.1 X.2.2.2 i μ = kk f s (oStep s pr L1 X).2.2.1 (oStep s pr L1 X).2.2.2 (i + 1) ν := by
  have hv := oIv_v hI
  have hI' := hI
  obtain ⟨h1, h2, h3, h4⟩ := hI
  obtain ⟨k1, k2, k3, k4, k5⟩ := h4 hz
  obtain ⟨A, nx, hf⟩ := h
  have h60 := h1.1
  have hbz := aS_bd (w := wZ s X.2.2.2) (wZ_bd h1)
  have price : 1 ≤ X.2.2.2 ∧ X.2.2.2 ≤ 9999999 := by
    obtain ⟨i0, hi0, hat⟩ := k3
    have := (h1.2 i0 hi0).2.2.2.1
    rw [(aAt_e hat).2] at this
    exact this
  obtain ⟨μ1, a1, a2, a3, a4, a5⟩ := z_load5 (N := N) hy hf h1 (by omega) s X.2.2.2
  have hf1 := hf.frm hy h60 a2 pSh_mk
  have all : gI μ1 507 (gR G 202 f) = aS (wZ s X.2.2.2) X.1 := by rw [a4, sumZ]
  have r203 : ρ (gR G 203 f) = (f, 203) := hy 203 (by decide)
  have r202 : ρ (gR G 202 f) = (f, 202) := hy 202 (by decide)
  have np203 : ∀ {α β : qM}, dP ρ (pTc f) α β → gI β 100 (gR G 203 f) = gI α 100 (gR G 203 f) := fun q => q.1 _ _ (by rw [r203]; exact fun y => y.2.2.1 rfl)
  have np202 : ∀ {α β : qM}, dP ρ (pTr f) α β → gI β 507 (gR G 202 f) = gI α 507 (gR G 202 f) := fun q => q.1 _ _ (by rw [r202]; exact pTr_not (by omega))
  have d1 : dP ρ (pTc f) μ μ1 := a2.mono pSh_c
  obtain ⟨jl, jg⟩ := lvl_J (s := s) (p := X.2.2.2) (l := X.1)
  have hc := aJ_len (s := s) (p := X.2.2.2) (l := X.1) X.1.length
  have hJl := fun k hk => kJ (so := s) (p := X.2.2.2) (l := X.1) (k := k) hk
  have hinj := fun j k hj hk e => kInj (so := s) (p := X.2.2.2) (l := X.1) (j := j) (k := k) hj hk e
  have eS : ∀ k, k < (aJ s X.2.2.2 X.1 X.1.length).length → jS X.1 (aJ s X.2.2.2 X.1 X.1.length) k = oS s X.2.2.2 X.1 k := fun k hk => by unfold jS oS; rw [jg k hk]
  have szi := szs_id (l := X.1)
  have f0b : ∀ i, i < X.1.length → 0 ≤ (fun i => lG X.1 i 4) i ∧ (fun i => lG X.1 i 4) i ≤ 1000 := fun i hi => (h1.2 i hi).2.2.2.2.1
  have e100 : gI μ1 100 (gR G 203 f) = pr := by rw [np203 d1]; exact h100
  -- the end of a turn
  have fin : ∀ μ2, gI μ2 507 (gR G 202 f) = aS (wZ s X.2.2.2) X.1 → oS7 G ρ f V T U D tr x (oStep s pr L1 X) μ2 → ∀ kk, f_X2_tradeSide_134 N G kk f s X.2.2.1 X.2.2.2 i μ2 = kk f s (oStep s pr L1 X).2.2.1 (oStep s pr L1 X).2.2.2 (i + 1) μ2 := by
    intro μ2 e507 hc2 kk
    obtain ⟨A2, nx2, hc2⟩ := hc2
    have hl2 := (oStep_inv (pr := pr) hI' hL1 hz).1
    have e3 : X.2.2.1 - min X.2.2.1 (aS (wZ s X.2.2.2) X.1) = (oStep s pr L1 X).2.2.1 := by
      rw [oStep_3]
      split <;> omega
    have e4 : aNext s X.2.2.2 (oStep s pr L1 X).1 = (oStep s pr L1 X).2.2.2 := by rw [oStep_4, oStep_1, aNext_up]
    unfold f_X2_tradeSide_134
    rw [e507, kp_p, ckI_p ⟨by omega, by omega⟩, kb2_p (z_nextPrice0 hc2.1 hl2 (by omega)), ckI_p ⟨by omega, by omega⟩, e3, e4]
  have eL : ∀ h, szs X.1 (fB (aJ s X.2.2.2 X.1 X.1.length) h (fun i => lG X.1 i 4) (aJ s X.2.2.2 X.1 X.1.length).length) = upL s X.2.2.2 h X.1 0 := fun h => upL_szs
  by_cases c : aS (wZ s X.2.2.2) X.1 ≤ X.2.2.1
  · -- all of it
    have r1 : ρ (gR G 501 (gR G 202 f)) = (f, 501) := hy 501 (by decide)
    have rA : rowsAt G (gR G 202 f) (gR G 501 (gR G 202 f)) μ1 A (aJ s X.2.2.2 X.1 X.1.length) (jS X.1 (aJ s X.2.2.2 X.1 X.1.length)) := ⟨a3, fun k hk => ⟨(a5 k hk).1, (a5 k hk).2.1⟩⟩
    obtain ⟨μ2, nx2, b1, b2, b3⟩ := z_tradeRows (N := N) (f := f) (μ := μ1) (l := X.1) (T := T) (U := U) (E := X.2.1) (J := aJ s X.2.2.2 X.1 X.1.length) (v := jS X.1 (aJ s X.2.2.2 X.1 X.1.length)) (f0 := fun i => lG X.1 i 4) (came := 0) (p := pr) (kind := 3) (so := 0) (q := 0) hy h1 (by omega) hJl hinj r1 (by decide) f0b (fun k hk => ⟨(f0b _ (hJl k hk)).1, Int.le_refl _⟩) rA h10 ⟨by omega, by omega⟩ (fun q => absurd q (by decide)) (by rw [szi]; exact hf1) (by omega)
    rw [if_neg (fun y => absurd y.1 (by decide)), gP_of] at b3
    have eE : gE X.1 (aJ s X.2.2.2 X.1 X.1.length) 0 pr (jS X.1 (aJ s X.2.2.2 X.1 X.1.length)) 3 X.2.1 (aJ s X.2.2.2 X.1 X.1.length).length = gEl (lvl s X.2.2.2 X.1) 0 pr (oS s X.2.2.2 X.1) 3 X.2.1 (lvl s X.2.2.2 X.1).length := by
      rw [gE_l _ jg, gEl_cg _ eS, jl]
    have eF : szs X.1 (fD (aJ s X.2.2.2 X.1 X.1.length) (jS X.1 (aJ s X.2.2.2 X.1 X.1.length)) (fun i => lG X.1 i 4) (aJ s X.2.2.2 X.1 X.1.length).length) = upL s X.2.2.2 (oS s X.2.2.2 X.1) X.1 0 := by
      rw [← eL]
      exact szs_congr (fun i _ => (fD_fB hinj i).trans (fB_cg eS _ (Nat.le_refl _)))
    have st : oStep s pr L1 X = (upL s X.2.2.2 (oS s X.2.2.2 X.1) X.1 0, gEl (lvl s X.2.2.2 X.1) 0 pr (oS s X.2.2.2 X.1) 3 X.2.1 (lvl s X.2.2.2 X.1).length, X.2.2.1 - aS (wZ s X.2.2.2) X.1, aNext s X.2.2.2 X.1) := if_pos c
    have hS2 : oS7 G ρ f V T U D tr x (oStep s pr L1 X) μ2 := by
      rw [st]
      rw [eE, eF] at b3
      exact ⟨A, nx2, b3⟩
    refine ⟨μ2, d1.tr (b2.mono pTr_c), hS2, fun kk => ?_⟩
    unfold f_X2_tradeSide_20
    rw [if_pos hi.2, if_pos hz, if_pos (by omega), kb_p a1, all, if_neg (by omega), e100, kb_p b1]
    exact fin μ2 (by rw [np202 b2]; exact all) hS2 kk
  · -- what is left is shared
    have r4 : ρ (gR G 504 (gR G 202 f)) = (f, 504) := hy 504 (by decide)
    have r5 : ρ (gR G 505 (gR G 202 f)) = (f, 505) := hy 505 (by decide)
    have oo := oOk' (s := s) (p := X.2.2.2) (L1 := L1) (X := X) (L := X.1) h1 ⟨h3, hv⟩ hL1
    have L1e : gI μ1 206 f = L1 := by rw [hf1.2.2.2.1.2.1, apT_k (by omega)]; exact hT1
    have g0 : ∀ k, k < (aJ s X.2.2.2 X.1 X.1.length).length → jGr (apT T U (pOf x X.2.1) X.2.1 0 0 0 0 0) X.1 (aJ s X.2.2.2 X.1 X.1.length) k = 0 := by
      intro k hk
      have hn := (h1.2 _ (hJl k hk)).1.1
      unfold jGr oGr
      rw [kS2 hk]
      rcases hs with rfl | rfl
      · rw [if_neg (by rw [apT_u (by decide)]; show ¬ U 6 = _; omega)]
      · rw [if_neg (by rw [apT_u (by decide)]; show ¬ U 7 = _; omega)]
    rw [← jl] at oo
    have ooJ : shOk (jS X.1 (aJ s X.2.2.2 X.1 X.1.length)) (fun _ => 0) X.2.2.1 L1 (aJ s X.2.2.2 X.1 X.1.length).length := ⟨oo.1, fun i hi => by rw [eS i hi]; exact oo.2.1 i hi, oo.2.2⟩
    obtain ⟨μ2, d1', d2, d3, d4, d5, d6, d7⟩ := z_deal (N := N) (μ := μ1) (S := jS X.1 (aJ s X.2.2.2 X.1 X.1.length)) (g := fun _ => 0) (K := X.2.2.1) (L := L1) hy a3 (fun k hk => ⟨(a5 k hk).2.1, by rw [(a5 k hk).2.2]; exact g0 k hk⟩) ooJ (by omega)
    have hf2 := hf1.frm hy h60 d2 pSh_mk
    have vB : ∀ k, k < (aJ s X.2.2.2 X.1 X.1.length).length → gA μ2 (gR G 504 (gR G 202 f)) k = oB s X.2.2.2 L1 X.2.2.1 X.1 k := fun k hk => by
      rw [(d7 k hk).2.1]
      unfold oB
      rw [shB_c2 eS hk, jl]
    have vC : ∀ k, k < (aJ s X.2.2.2 X.1 X.1.length).length → gA μ2 (gR G 505 (gR G 202 f)) k = oC s X.2.2.2 L1 X.2.2.1 X.1 k := fun k hk => by
      rw [(d7 k hk).2.2]
      unfold oC
      rw [shC_c2 eS hk, jl]
    have hbd : ∀ k, k < (aJ s X.2.2.2 X.1 X.1.length).length → 0 ≤ oB s X.2.2.2 L1 X.2.2.1 X.1 k ∧ 0 ≤ oC s X.2.2.2 L1 X.2.2.1 X.1 k ∧ oB s X.2.2.2 L1 X.2.2.1 X.1 k + oC s X.2.2.2 L1 X.2.2.1 X.1 k ≤ lG X.1 (jG (aJ s X.2.2.2 X.1 X.1.length) k) 4 := by
      intro k hk
      have hK : X.2.2.1 ≤ sumN (oS s X.2.2.2 X.1) (aJ s X.2.2.2 X.1 X.1.length).length := by rw [jl, oS_sum]; omega
      have a := shA_bd oo hk
      have b := shB_le oo hK hk
      have d := shC_le oo hK hk
      have e := eS k hk
      have e' : jS X.1 (aJ s X.2.2.2 X.1 X.1.length) k = lG X.1 (jG (aJ s X.2.2.2 X.1 X.1.length) k) 4 := rfl
      unfold oB oC
      rw [← jl]
      exact ⟨by omega, by omega, by omega⟩
    have rB : rowsAt G (gR G 202 f) (gR G 504 (gR G 202 f)) μ2 A (aJ s X.2.2.2 X.1 X.1.length) (oB s X.2.2.2 L1 X.2.2.1 X.1) := ⟨by rw [d3]; exact a3, fun k hk => ⟨by rw [d4]; exact (a5 k hk).1, vB k hk⟩⟩
    have rC : rowsAt G (gR G 202 f) (gR G 505 (gR G 202 f)) μ2 A (aJ s X.2.2.2 X.1 X.1.length) (oC s X.2.2.2 L1 X.2.2.1 X.1) := ⟨by rw [d3]; exact a3, fun k hk => ⟨by rw [d4]; exact (a5 k hk).1, vC k hk⟩⟩
    obtain ⟨μ3, nx3, b1, b2, b3⟩ := z_tradeRows (N := N) (f := f) (μ := μ2) (l := X.1) (T := T) (U := U) (E := X.2.1) (J := aJ s X.2.2.2 X.1 X.1.length) (v := oB s X.2.2.2 L1 X.2.2.1 X.1) (f0 := fun i => lG X.1 i 4) (came := 0) (p := pr) (kind := 1) (so := 0) (q := 0) hy h1 (by omega) hJl hinj r4 (by decide) f0b (fun k hk => ⟨(hbd k hk).1, by have := hbd k hk; show _ ≤ lG X.1 _ 4; omega⟩) rB h10 ⟨by omega, by omega⟩ (fun q => absurd q (by decide)) (by rw [szi]; exact hf2) (by omega)
    rw [if_neg (fun y => absurd y.1 (by decide)), gP_of] at b3
    have fbat : ∀ k, k < (aJ s X.2.2.2 X.1 X.1.length).length → fD (aJ s X.2.2.2 X.1 X.1.length) (oB s X.2.2.2 L1 X.2.2.1 X.1) (fun i => lG X.1 i 4) (aJ s X.2.2.2 X.1 X.1.length).length (jG (aJ s X.2.2.2 X.1 X.1.length) k) = lG X.1 (jG (aJ s X.2.2.2 X.1 X.1.length) k) 4 - oB s X.2.2.2 L1 X.2.2.1 X.1 k := fun k hk => by rw [fD_at hk hinj _ (Nat.le_refl _), if_pos hk]
    have fbb : ∀ i, i < X.1.length → 0 ≤ fD (aJ s X.2.2.2 X.1 X.1.length) (oB s X.2.2.2 L1 X.2.2.1 X.1) (fun i => lG X.1 i 4) (aJ s X.2.2.2 X.1 X.1.length).length i ∧ fD (aJ s X.2.2.2 X.1 X.1.length) (oB s X.2.2.2 L1 X.2.2.1 X.1) (fun i => lG X.1 i 4) (aJ s X.2.2.2 X.1 X.1.length).length i ≤ 1000 := by
      intro i hi
      by_cases q : ∃ k, k < (aJ s X.2.2.2 X.1 X.1.length).length ∧ jG (aJ s X.2.2.2 X.1 X.1.length) k = i
      · obtain ⟨k, hk, rfl⟩ := q
        rw [fbat k hk]
        have := hbd k hk
        have : lG X.1 (jG (aJ s X.2.2.2 X.1 X.1.length) k) 4 ≤ 1000 := (f0b _ hi).2
        omega
      · rw [fD_o _ (fun k hk e => q ⟨k, hk, e⟩)]
        exact f0b i hi
    obtain ⟨μ4, nx4, e1, e2, e3⟩ := z_tradeRows (N := N) (f := f) (μ := μ3) (l := X.1) (T := T) (U := U) (J := aJ s X.2.2.2 X.1 X.1.length) (v := oC s X.2.2.2 L1 X.2.2.1 X.1) (came := 0) (p := pr) (kind := 2) (so := 0) (q := 0) hy h1 (by omega) hJl hinj r5 (by decide) fbb (fun k hk => by rw [fbat k hk]; have := hbd k hk; omega) (b2.sh hy rC r5 (by decide)) h10 ⟨by omega, by omega⟩ (fun q => absurd q (by decide)) b3 (by omega)
    rw [if_neg (fun y => absurd y.1 (by decide)), gP_of] at e3
    have eE1 : gE X.1 (aJ s X.2.2.2 X.1 X.1.length) 0 pr (oB s X.2.2.2 L1 X.2.2.1 X.1) 1 X.2.1 (aJ s X.2.2.2 X.1 X.1.length).length = gEl (lvl s X.2.2.2 X.1) 0 pr (oB s X.2.2.2 L1 X.2.2.1 X.1) 1 X.2.1 (lvl s X.2.2.2 X.1).length := by
      rw [gE_l _ jg, jl]
    have eE2 : ∀ E, gE X.1 (aJ s X.2.2.2 X.1 X.1.length) 0 pr (oC s X.2.2.2 L1 X.2.2.1 X.1) 2 E (aJ s X.2.2.2 X.1 X.1.length).length = gEl (lvl s X.2.2.2 X.1) 0 pr (oC s X.2.2.2 L1 X.2.2.1 X.1) 2 E (lvl s X.2.2.2 X.1).length := fun E => by
      rw [gE_l _ jg, jl]
    have eF : szs X.1 (fD (aJ s X.2.2.2 X.1 X.1.length) (oC s X.2.2.2 L1 X.2.2.1 X.1) (fD (aJ s X.2.2.2 X.1 X.1.length) (oB s X.2.2.2 L1 X.2.2.1 X.1) (fun i => lG X.1 i 4) (aJ s X.2.2.2 X.1 X.1.length).length) (aJ s X.2.2.2 X.1 X.1.length).length) = upL s X.2.2.2 (fun k => oB s X.2.2.2 L1 X.2.2.1 X.1 k + oC s X.2.2.2 L1 X.2.2.1 X.1 k) X.1 0 := by
      rw [← eL]
      refine szs_congr (fun i _ => ?_)
      by_cases q : ∃ k, k < (aJ s X.2.2.2 X.1 X.1.length).length ∧ jG (aJ s X.2.2.2 X.1 X.1.length) k = i
      · obtain ⟨k, hk, rfl⟩ := q
        rw [fD_at hk hinj _ (Nat.le_refl _), if_pos hk, fbat k hk, fB_at hinj hk _ (Nat.le_refl _), if_pos (by omega)]
        omega
      · rw [fD_o _ (fun k hk e => q ⟨k, hk, e⟩), fD_o _ (fun k hk e => q ⟨k, hk, e⟩), fB_o (fun k hk e => q ⟨k, hk, e⟩) _ (Nat.le_refl _)]
    have st : oStep s pr L1 X = (upL s X.2.2.2 (fun k => oB s X.2.2.2 L1 X.2.2.1 X.1 k + oC s X.2.2.2 L1 X.2.2.1 X.1 k) X.1 0, gEl (lvl s X.2.2.2 X.1) 0 pr (oC s X.2.2.2 L1 X.2.2.1 X.1) 2 (gEl (lvl s X.2.2.2 X.1) 0 pr (oB s X.2.2.2 L1 X.2.2.1 X.1) 1 X.2.1 (lvl s X.2.2.2 X.1).length) (lvl s X.2.2.2 X.1).length, 0, aNext s X.2.2.2 X.1) := if_neg c
    have hS2 : oS7 G ρ f V T U D tr x (oStep s pr L1 X) μ4 := by
      rw [st]
      rw [eE1, eE2, eF] at e3
      exact ⟨A, nx4, e3⟩
    have dd : dP ρ (pTc f) μ μ3 := (d1.tr (d2.mono pSh_c)).tr (b2.mono pTr_c)
    refine ⟨μ4, dd.tr (e2.mono pTr_c), hS2, fun kk => ?_⟩
    have p2 : gI μ2 100 (gR G 203 f) = pr := by rw [np203 (d2.mono pSh_c)]; exact e100
    have p3 : gI μ3 100 (gR G 203 f) = pr := by rw [np203 (b2.mono pTr_c)]; exact p2
    unfold f_X2_tradeSide_20
    rw [if_pos hi.2, if_pos hz, if_pos (by omega), kb_p a1, all, if_pos (by omega), L1e, kb_p d1', p2, kb_p b1, p3, kb_p e1]
    exact fin μ4 (by rw [np202 e2, np202 b2, d3]; exact all) hS2 kk
theorem z_side7 (hy : cLay G ρ f) (hT1 : T 1 = L1) (hL1 : 1 ≤ L1 ∧ L1 ≤ 50) (hU : U 6 = -1 ∧ U 7 = -1) (hs : s = 0 ∨ s = 1) (h10 : 0 ≤ T 10 ∧ T 10 ≤ 60) (hN : 1000 < N) (hpr : 1 ≤ pr ∧ pr ≤ 9999999) {L E : List (Nat → Int)} (hI : oIv s (L, E, v, aBest s L)) (h : oS7 G ρ f V T U D tr x (L, E, v, aBest s L) μ) (h100 : gI μ 100 (gR G 203 f) = pr) (h101 : gI μ 101 (gR G 203 f) = v) :
    ∃ ν, f_X2_tradeSide N G f s μ = some ν ∧ dP ρ (pTc f) μ ν ∧ oS7 G ρ f V T U D tr x (oRun s pr L1 60 (L, E, v, aBest s L)) ν := by
  have r203 : ρ (gR G 203 f) = (f, 203) := hy 203 (by decide)
  have np203 : ∀ {α β : qM}, dP ρ (pTc f) α β → gI β 100 (gR G 203 f) = gI α 100 (gR G 203 f) := fun q => q.1 _ _ (by rw [r203]; exact fun y => y.2.2.1 rfl)
  have h60 := hI.1.1
  obtain ⟨A, nx, hf⟩ := id h
  have hbst : f_X0_best N G (gR G 200 f) s μ = some (aBest s L, μ) := z_best0 hf.1 hI.1 (by omega) hs
  unfold f_X2_tradeSide
  rw [kb2_p hbst, h101]
  unfold f_X2_tradeSide_L20
  refine qLoop_inv
    (fun i st => ∃ X mem, st = (f, s, X.2.2.1, X.2.2.2, (i : Int), mem) ∧ dP ρ (pTc f) μ mem ∧ oS7 G ρ f V T U D tr x X mem ∧ oIv s X ∧ oRun s pr L1 60 (L, E, v, aBest s L) = oRun s pr L1 (60 - i) X ∧ (X.2.2.1 ≤ 0 ∨ aS (wNb s X.2.2.2) X.1 + (i : Int) ≤ 60))
    (fun r => ∃ ν, r = some ν ∧ dP ρ (pTc f) μ ν ∧ oS7 G ρ f V T U D tr x (oRun s pr L1 60 (L, E, v, aBest s L)) ν) 60 ?_ ?_ 60 0 N _ (by omega) (by omega) ⟨(L, E, v, aBest s L), μ, rfl, dP.rf, h, hI, rfl, Or.inr ?_⟩
  · rintro i st hi ⟨X, mem, rfl, hd, hc, hIX, hr, hm⟩
    by_cases c : 0 < X.2.2.1
    · obtain ⟨ν, k1, k2, k3⟩ := z_sturn7 (N := N) (i := (i : Int)) hy hT1 hL1 hU hs h10 hN hpr hIX hc (by rw [np203 hd]; exact h100) c ⟨by omega, by omega⟩
      have e60 : 60 - i = (60 - (i + 1)) + 1 := by omega
      refine Or.inr ⟨_, ⟨oStep s pr L1 X, ν, rfl, hd.tr k1, k2, oStep_inv hIX hL1 c, by rw [hr, e60, oRun_s (by omega)], ?_⟩, fun kk => ?_⟩
      · by_cases c2 : 0 < (oStep s pr L1 X).2.2.1
        · have := cnt_less (pr := pr) hIX hL1 c c2
          exact Or.inr (by omega)
        · exact Or.inl (by omega)
      · show f_X2_tradeSide_20 N G _ f s X.2.2.1 X.2.2.2 (i : Int) mem = _
        rw [k3, cast1]
    · refine Or.inl ⟨some mem, ⟨mem, rfl, hd, by rw [hr, oRun_z (by omega)]; exact hc⟩, fun kk => ?_⟩
      show f_X2_tradeSide_20 N G _ f s X.2.2.1 X.2.2.2 (i : Int) mem = _
      unfold f_X2_tradeSide_20
      rw [if_pos (by omega), if_neg c]
  · rintro st ⟨X, mem, rfl, hd, hc, hIX, hr, hm⟩
    refine ⟨some mem, ⟨mem, rfl, hd, by rw [hr]; exact hc⟩, fun kk => ?_⟩
    show f_X2_tradeSide_20 N G _ f s X.2.2.1 X.2.2.2 ((60 : Nat) : Int) mem = _
    unfold f_X2_tradeSide_20
    rw [if_neg (by decide)]
  · have := aS_bd (w := wNb s (aBest s L)) (M := 1) (l := L) (fun i _ => by unfold wNb; split <;> omega)
    show aS (wNb s (aBest s L)) L + 0 ≤ 60
    have h60' : L.length ≤ 60 := h60
    omega
end SIDE7
