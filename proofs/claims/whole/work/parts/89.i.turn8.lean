/-! PURE: OPEN, reference: a side's course -/
section TURN8
variable {N : Nat} {G : qG} {m : Nat} {μ ν : qM} {T U D : Nat → Int} {tr : Nat → Nat → Int} {n : Nat} {B : Nat → Int} {p0 pr s L1 v : Int} {X : OS}
def oS8 (G : qG) (m : Nat) (T U D : Nat → Int) (tr : Nat → Nat → Int) (n : Nat) (B : Nat → Int) (p0 : Int) (X : OS) (μ : qM) : Prop :=
  mR G m μ (X.1.filter aKp) (apT T U p0 X.2.1 0 0 0 0 0) (apD D X.2.1 0 0 0) (apTr tr X.2.1) n B
/-- as places of those that are there -/
theorem o_list {h : Nat → Int} (hp : ∀ i, i < X.1.length → aAt s X.2.2.2 (lG X.1 i) = true → 0 < lG X.1 i 4) (hh : ∀ k, k < (aJ s X.2.2.2 (X.1.filter aKp) (X.1.filter aKp).length).length → h k = oH s L1 X k) :
    (szs (X.1.filter aKp) (fB (aJ s X.2.2.2 (X.1.filter aKp) (X.1.filter aKp).length) h (fun i => lG (X.1.filter aKp) i 4) (aJ s X.2.2.2 (X.1.filter aKp) (X.1.filter aKp).length).length)).filter aKp = (oStep s pr L1 X).1.filter aKp := by
  have e : szs (X.1.filter aKp) (fB (aJ s X.2.2.2 (X.1.filter aKp) (X.1.filter aKp).length) h (fun i => lG (X.1.filter aKp) i 4) (aJ s X.2.2.2 (X.1.filter aKp) (X.1.filter aKp).length).length) = upL s X.2.2.2 (oH s L1 X) (X.1.filter aKp) 0 := by
    rw [← upL_szs]
    exact szs_congr (fun i _ => fB_cg hh _ (Nat.le_refl _))
  rw [e, oStep_1, upL_flt _ _ hp]
theorem z_oturn8 (hL : mL G m) (hT1 : T 1 = L1) (hL1 : 1 ≤ L1 ∧ L1 ≤ 50) (hU : U 6 = -1 ∧ U 7 = -1) (hU8 : U 8 = 0 ∧ U 9 = 0) (hs : s = 0 ∨ s = 1) (h10 : 0 ≤ T 10 ∧ T 10 ≤ 60) (hN : 1000 < N) (hpr : 1 ≤ pr ∧ pr ≤ 9999999) (hI : oIv s X) (h : oS8 G m T U D tr n B p0 X μ) (h818 : gI μ 818 m = pr) (hz : 0 < X.2.2.1) :
    ∃ ν, dRf G m wF kAr μ ν ∧ oS8 G m T U D tr n B p0 (oStep s pr L1 X) ν ∧ ∀ kk, f_X8_opensSide_5 N G kk m s X.2.2.1 μ = kk m s (oStep s pr L1 X).2.2.1 ν := by
  have hv := oIv_v hI
  have hI' := hI
  obtain ⟨h1, h2, h3, h4⟩ := hI
  obtain ⟨k1, k2, k3, k4, k5⟩ := h4 hz
  have price : 1 ≤ X.2.2.2 ∧ X.2.2.2 ≤ 9999999 := by
    obtain ⟨i0, hi0, hat⟩ := k3
    have := (h1.2 i0 hi0).2.2.2.1
    rw [(aAt_e hat).2] at this
    exact this
  have patp : ∀ i, i < X.1.length → aAt s X.2.2.2 (lG X.1 i) = true → 0 < lG X.1 i 4 := fun i hi hat => k5 i hi (aAt_e hat).1 (by rw [(aAt_e hat).2, aBet_ir]; decide)
  have eZ : aS (wZ s X.2.2.2) (X.1.filter aKp) = aS (wZ s X.2.2.2) X.1 := aSZ_flt X.1 (fun i hi => (h1.2 i hi).2.2.2.2.1.1)
  have eV : lvl s X.2.2.2 (X.1.filter aKp) = lvl s X.2.2.2 X.1 := lvl_flt X.1 patp
  have ol : ∀ {h : Nat → Int}, (∀ k, k < (aJ s X.2.2.2 (X.1.filter aKp) (X.1.filter aKp).length).length → h k = oH s L1 X k) → (szs (X.1.filter aKp) (fB (aJ s X.2.2.2 (X.1.filter aKp) (X.1.filter aKp).length) h (fun i => lG (X.1.filter aKp) i 4) (aJ s X.2.2.2 (X.1.filter aKp) (X.1.filter aKp).length).length)).filter aKp = (oStep s pr L1 X).1.filter aKp := fun q => o_list patp q
  have hl : lOk (X.1.filter aKp) := h1.flt
  have hpos : ∀ j, j < (X.1.filter aKp).length → 0 < lG (X.1.filter aKp) j 4 := kp_pos
  have hbz := aS_bd (w := wZ s X.2.2.2) (wZ_bd h1)
  have hX60 := h1.1
  have hcal : ∀ L, oS s X.2.2.2 (X.1.filter aKp) = oS s X.2.2.2 X.1 ∧ oB s X.2.2.2 L X.2.2.1 (X.1.filter aKp) = oB s X.2.2.2 L X.2.2.1 X.1 ∧ oC s X.2.2.2 L X.2.2.1 (X.1.filter aKp) = oC s X.2.2.2 L X.2.2.1 X.1 := by
    intro L
    have a : oS s X.2.2.2 (X.1.filter aKp) = oS s X.2.2.2 X.1 := by
      funext k
      unfold oS
      rw [eV]
    refine ⟨a, ?_, ?_⟩
    · funext k
      unfold oB
      rw [a, eV]
    · funext k
      unfold oC
      rw [a, eV]
  have best : aBest s (X.1.filter aKp) = X.2.2.2 := by
    refine aBest_is hl ?_ (fun i hi hs' => ?_)
    · obtain ⟨i0, hi0, hat⟩ := k3
      obtain ⟨r1, r2, -, -⟩ := flt_gen (p := aKp) hi0 (decide_eq_true (patp i0 hi0 hat))
      exact ⟨_, r1, by rw [r2]; exact hat⟩
    · obtain ⟨a, j, b, -, c⟩ := flt_in hi
      rw [c] at hs' ⊢
      rw [c] at a
      exact k4 j b hs' (of_decide_eq_true a)
  have h0 : mR G m μ (X.1.filter aKp) (apT T U p0 X.2.1 0 0 0 0 0) (apD D X.2.1 0 0 0) (apTr tr X.2.1) n B := h
  have es : ((s.toNat : Nat) : Int) = s := by omega
  have hs2 : s.toNat < 2 := by omega
  have hUs : 0 ≤ U (8 + s.toNat) ∧ U (8 + s.toNat) ≤ 1000 := by
    rcases hs with rfl | rfl
    · show 0 ≤ U 8 ∧ U 8 ≤ 1000; omega
    · show 0 ≤ U 9 ∧ U 9 ≤ 1000; omega
  have hE : (oStep s pr L1 X).2.1 = if aS (wZ s X.2.2.2) X.1 ≤ X.2.2.1 then gEl (lvl s X.2.2.2 X.1) 0 pr (oS s X.2.2.2 X.1) 3 X.2.1 (lvl s X.2.2.2 X.1).length else gEl (lvl s X.2.2.2 X.1) 0 pr (oC s X.2.2.2 L1 X.2.2.1 X.1) 2 (gEl (lvl s X.2.2.2 X.1) 0 pr (oB s X.2.2.2 L1 X.2.2.1 X.1) 1 X.2.1 (lvl s X.2.2.2 X.1).length) (lvl s X.2.2.2 X.1).length := by
    unfold oStep
    split <;> rfl
  have hO3 := oStep_3 (s := s) (pr := pr) (L1 := L1) (X := X)
  have oo0 := oOk' (s := s) (p := X.2.2.2) (L1 := L1) (X := X) (L := X.1.filter aKp) hl ⟨h3, hv⟩ hL1
  obtain ⟨hcS, hcB, hcC⟩ := hcal L1
  have ohd : ∀ k, oH s L1 X k = if aS (wZ s X.2.2.2) X.1 ≤ X.2.2.1 then oS s X.2.2.2 (X.1.filter aKp) k else oB s X.2.2.2 L1 X.2.2.1 (X.1.filter aKp) k + oC s X.2.2.2 L1 X.2.2.1 (X.1.filter aKp) k := by
    intro k
    unfold oH
    rw [hcS, hcB, hcC]
  rw [← eV, ← hcS, ← hcB, ← hcC] at hE
  unfold oS8
  generalize (oStep s pr L1 X).1 = O1 at *
  generalize (oStep s pr L1 X).2.1 = O2 at *
  generalize (oStep s pr L1 X).2.2.1 = O3 at *
  generalize hlf : X.1.filter aKp = lf at *
  obtain ⟨jl, jg⟩ := lvl_J (s := s) (p := X.2.2.2) (l := lf)
  have hc := aJ_len (s := s) (p := X.2.2.2) (l := lf) lf.length
  have hmono := aJ_mono (s := s) (p := X.2.2.2) (l := lf) lf.length
  have hJl := fun k hk => kJ (so := s) (p := X.2.2.2) (l := lf) (k := k) hk
  have h60 : lf.length ≤ 60 := hl.1
  obtain ⟨μ1, a1, a2, a3⟩ := z_lays8 (N := N) hL h0 h60 (by omega) s X.2.2.2
  have hm1 := h0.frm hL a2
  have e18 : gI μ1 818 m = pr := by rw [a2.1 _ _ (fun q => by have := q.2; unfold wF at this; omega)]; exact h818
  have eS : ∀ k, k < (aJ s X.2.2.2 lf lf.length).length → jS lf (aJ s X.2.2.2 lf lf.length) k = oS s X.2.2.2 lf k := fun k hk => by unfold jS oS; rw [jg k hk]
  have f0b : ∀ i, i < lf.length → 0 ≤ lG lf i 4 ∧ lG lf i 4 ≤ 1000 := fun i hi => (hl.2 i hi).2.2.2.2.1
  have sb : ∀ k, k < (aJ s X.2.2.2 lf lf.length).length → 0 ≤ jS lf (aJ s X.2.2.2 lf lf.length) k ∧ jS lf (aJ s X.2.2.2 lf lf.length) k ≤ 1000 := fun k hk => f0b _ (hJl k hk)
  have e61 : ∀ k, k < (aJ s X.2.2.2 lf lf.length).length → gA μ1 (gR G 806 m) k = (jG (aJ s X.2.2.2 lf lf.length) k : Int) := fun k hk => (a3.2 k hk).1
  have e71 : ∀ k, k < (aJ s X.2.2.2 lf lf.length).length → gA μ1 (gR G 807 m) k = jS lf (aJ s X.2.2.2 lf lf.length) k := fun k hk => (a3.2 k hk).2
  have hp0 : 0 ≤ pr ∧ pr ≤ 9999999 := by omega
  have nA : ∀ g, (g = 806 ∨ g = 807 ∨ g = 808 ∨ g = 809 ∨ g = 810) → ∀ f, tA f → gR G g m ≠ gR G f m := by
    intro g hg f hf
    rcases hg with rfl | rfl | rfl | rfl | rfl <;> rcases hf with rfl | rfl <;> exact hL.ne (by decide) (by decide) (by decide)
  have nB : ∀ g, (g = 806 ∨ g = 807) → ∀ f, oArr f → gR G g m ≠ gR G f m := by
    intro g hg f hf
    have hf' : f = 800 ∨ f = 802 ∨ f = 808 ∨ f = 809 ∨ f = 810 := by unfold oArr at hf; omega
    rcases hg with rfl | rfl <;> rcases hf' with rfl | rfl | rfl | rfl | rfl <;> exact hL.ne (by decide) (by decide) (by decide)
  have szns : ∀ {h : Nat → Int}, ∀ i, i < (szs lf h).length → oNs (lG (szs lf h) i) := by
    intro h i hi
    rw [szs_len] at hi
    have := (hl.2 i hi).ns
    unfold oNs
    rw [szs_o hi (by decide), szs_o hi (by decide)]
    exact this
  -- the end of a turn
  have fin : ∀ (μ2 : qM) (a b d : Nat → Int) (z : Int), dRf G m wF kAr μ μ2 → mR G m μ2 lf (apT T U p0 O2 0 0 0 0 0) (apD D O2 0 0 0) (apTr tr O2) n B → gI μ2 805 m = ((aJ s X.2.2.2 lf lf.length).length : Int) →
      (∀ k, k < (aJ s X.2.2.2 lf lf.length).length → gA μ2 (gR G 806 m) k = (jG (aJ s X.2.2.2 lf lf.length) k : Int)) → (∀ k, k < (aJ s X.2.2.2 lf lf.length).length → gA μ2 (gR G 807 m) k = jS lf (aJ s X.2.2.2 lf lf.length) k) →
      (∀ k, k < (aJ s X.2.2.2 lf lf.length).length → gA μ2 (gR G 808 m) k = a k ∧ gA μ2 (gR G 809 m) k = b k ∧ gA μ2 (gR G 810 m) k = d k) → (∀ k, k < (aJ s X.2.2.2 lf lf.length).length → (0 ≤ a k ∧ a k ≤ 1000) ∧ (0 ≤ b k ∧ b k ≤ 1000) ∧ (0 ≤ d k ∧ d k ≤ 1000) ∧ a k + b k + d k ≤ jS lf (aJ s X.2.2.2 lf lf.length) k ∧ a k + b k + d k = oH s L1 X k) → X.2.2.1 - z = O3 →
      ∃ ν, dRf G m wF kAr μ ν ∧ mR G m ν (O1.filter aKp) (apT T U p0 O2 0 0 0 0 0) (apD D O2 0 0 0) (apTr tr O2) n B ∧ ∀ kk, f_X8_opensSide_184 N G kk m s X.2.2.1 z μ2 = kk m s O3 ν := by
    intro μ2 a b d z hd hm e5 e6 e7 e8 eh e3
    have hm' : mR G m μ2 lf (apT T U p0 O2 0 0 0 0 ((0 : Nat) : Int)) (apD D O2 0 0 0) (apTr tr O2) n B := hm
    obtain ⟨ν, b1, b2, b3⟩ := z_settles8 (N := N) (so := s.toNat) (t := -1) (S := jS lf (aJ s X.2.2.2 lf lf.length)) (a := a) (b := b) (d := d) hL hl hpos hs2 hJl hmono (Or.inl rfl) e5 e6 e7 (fun k hk => rfl) e8 (fun k hk => by have := eh k hk; omega) (fun k hk => by have := eh k hk; omega) hUs hm' hN
    rw [if_neg (by decide), aSw_no hU.1 hU.2 szns, ol (fun k hk => (eh k hk).2.2.2.2)] at b3
    rw [es] at b1
    have b3' : mR G m ν (O1.filter aKp) (apT T U p0 O2 0 0 0 0 0) (apD D O2 0 0 0) (apTr tr O2) n B := b3
    have hO : 0 ≤ O3 ∧ O3 ≤ 60000 := by rw [hO3]; split <;> omega
    refine ⟨ν, hd.tr (b2.rfm (by unfold kAr; omega)), b3', fun kk => ?_⟩
    unfold f_X8_opensSide_184
    rw [ckI_p ⟨by omega, by omega⟩, kb_p b1, e3]
  have c1 : dRf G m wF kAr μ μ1 := a2.mono (fun _ q => q) (fun g q => by unfold wA at q; unfold kAr; omega)
  have pre : ∀ kk, f_X8_opensSide_5 N G kk m s X.2.2.1 μ = if X.2.2.1 < aS (wZ s X.2.2.2) X.1 then (kb (f_X8_shares N G m X.2.2.1 (-1) 0 μ1) fun m9 => f_X8_opensSide_L110 N G kk m s X.2.2.1 (aS (wZ s X.2.2.2) X.1) 0 m9) else f_X8_opensSide_L38 N G kk m s X.2.2.1 (aS (wZ s X.2.2.2) X.1) 0 μ1 := by
    intro kk
    unfold f_X8_opensSide_5
    rw [if_pos hz, kb2_p (z_bestOf8 h0.1 hl (by omega)), best, kb_p a1, kb2_p (z_sizesAt8 hm1.1 hl (by omega)), eZ]
  by_cases c : aS (wZ s X.2.2.2) X.1 ≤ X.2.2.1
  · rw [if_pos c] at hE hO3
    have eE : gE lf (aJ s X.2.2.2 lf lf.length) 0 pr (jS lf (aJ s X.2.2.2 lf lf.length)) 3 X.2.1 (aJ s X.2.2.2 lf lf.length).length = O2 := by
      rw [hE, gE_l _ jg, gEl_cg _ eS, jl]
    obtain ⟨μ2, b1, b2, b3, b4⟩ := z_o38 (N := N) (so := s) (left := X.2.2.1) (all := aS (wZ s X.2.2.2) X.1) (v := jS lf (aJ s X.2.2.2 lf lf.length)) hL hl h10 hN (by omega) hJl hp0 e18 a3.1 e61 e71 sb hm1
    rw [eE] at b2
    have b1' : dRf G m wF kAr μ1 μ2 := b1.mono (fun _ q => q.elim) (fun g q => by unfold oArr at q; unfold kAr; omega)
    have oHk : ∀ k, k < (aJ s X.2.2.2 lf lf.length).length → jS lf (aJ s X.2.2.2 lf lf.length) k = oH s L1 X k := fun k hk => by rw [ohd, if_pos c, eS k hk]
    obtain ⟨ν, f1, f2, f3⟩ := fin μ2 (fun _ => 0) (jS lf (aJ s X.2.2.2 lf lf.length)) (fun _ => 0) (aS (wZ s X.2.2.2) X.1) (c1.tr b1') b2 (by rw [b1.1 _ _ (fun q => q.2)]; exact a3.1) (fun k hk => by rw [b1.2.1 _ _ (nB 806 (Or.inl rfl))]; exact e61 k hk) (fun k hk => by rw [b1.2.1 _ _ (nB 807 (Or.inr rfl))]; exact e71 k hk) b3 (fun k hk => by have := sb k hk; have := oHk k hk; show ((0 : Int) ≤ 0 ∧ (0 : Int) ≤ 1000) ∧ _ ∧ ((0 : Int) ≤ 0 ∧ (0 : Int) ≤ 1000) ∧ 0 + jS lf (aJ s X.2.2.2 lf lf.length) k + 0 ≤ _ ∧ 0 + jS lf (aJ s X.2.2.2 lf lf.length) k + 0 = _; omega) hO3.symm
    refine ⟨ν, f1, f2, fun kk => ?_⟩
    rw [pre, if_neg (by omega), b4]
    unfold f_X8_opensSide_171
    by_cases d : aS (wZ s X.2.2.2) X.1 < X.2.2.1
    · rw [if_pos d]; exact f3 kk
    · rw [if_neg d]
      have e : X.2.2.1 = aS (wZ s X.2.2.2) X.1 := by omega
      have := f3 kk
      rw [← e] at this
      exact this
  · rw [if_neg c] at hE hO3
    have g0 : ∀ k : Nat, topG (-1) 0 k = (fun _ => (0 : Int)) k := fun k => by unfold topG; rw [ite_self]
    have ooJ : shOk (jS lf (aJ s X.2.2.2 lf lf.length)) (fun _ => 0) X.2.2.1 L1 (aJ s X.2.2.2 lf lf.length).length := by
      rw [jl]
      exact ⟨oo0.1, fun i hi => by rw [eS i (by rw [jl]; exact hi)]; exact oo0.2.1 i hi, oo0.2.2⟩
    have x1 : apT T U p0 X.2.1 0 0 0 0 0 1 = L1 := by rw [apT_k (by omega)]; exact hT1
    obtain ⟨μ2, d1, d2, d3⟩ := z_shr8 (N := N) (S := jS lf (aJ s X.2.2.2 lf lf.length)) (g := fun _ => 0) (K := X.2.2.1) (t := -1) (gr := 0) (c := (aJ s X.2.2.2 lf lf.length).length) hL hm1 a3.1 e71 (Or.inl rfl) (by decide) (fun k _ => g0 k) (by rw [x1]; exact ooJ) (by omega)
    rw [x1] at d3
    have hm2 := hm1.frm hL d2.rfm
    have m8 := d2.m8 hL
    have hK : X.2.2.1 ≤ sumN (oS s X.2.2.2 lf) (lvl s X.2.2.2 lf).length := by rw [oS_sum, eZ]; omega
    have vA : ∀ k, k < (aJ s X.2.2.2 lf lf.length).length → shA (jS lf (aJ s X.2.2.2 lf lf.length)) (fun _ => 0) X.2.2.1 k = 0 := fun k hk => by
      have q1 := (shA_bd ooJ hk).1
      have q2 : shA (jS lf (aJ s X.2.2.2 lf lf.length)) (fun _ => 0) X.2.2.1 k ≤ 0 := (shA_bd ooJ hk).2.2.1
      omega
    have vB : ∀ k, k < (aJ s X.2.2.2 lf lf.length).length → shB (jS lf (aJ s X.2.2.2 lf lf.length)) (fun _ => 0) X.2.2.1 L1 (aJ s X.2.2.2 lf lf.length).length k = oB s X.2.2.2 L1 X.2.2.1 lf k := fun k hk => by
      unfold oB
      rw [shB_c2 eS hk, jl]
    have vC : ∀ k, k < (aJ s X.2.2.2 lf lf.length).length → shC (jS lf (aJ s X.2.2.2 lf lf.length)) (fun _ => 0) X.2.2.1 L1 (aJ s X.2.2.2 lf lf.length).length k = oC s X.2.2.2 L1 X.2.2.1 lf k := fun k hk => by
      unfold oC
      rw [shC_c2 eS hk, jl]
    have bd : ∀ k, k < (aJ s X.2.2.2 lf lf.length).length → 0 ≤ oB s X.2.2.2 L1 X.2.2.1 lf k ∧ 0 ≤ oC s X.2.2.2 L1 X.2.2.1 lf k ∧ oB s X.2.2.2 L1 X.2.2.1 lf k + oC s X.2.2.2 L1 X.2.2.1 lf k ≤ jS lf (aJ s X.2.2.2 lf lf.length) k := fun k hk => by
      have hk' : k < (lvl s X.2.2.2 lf).length := by rw [← jl]; exact hk
      have a := shA_bd oo0 hk'
      have b := shB_le oo0 hK hk'
      have d := shC_le oo0 hK hk'
      have e := eS k hk
      unfold oB oC
      exact ⟨by omega, by omega, by omega⟩
    have v8 : ∀ k, k < (aJ s X.2.2.2 lf lf.length).length → gA μ2 (gR G 808 m) k = 0 ∧ gA μ2 (gR G 809 m) k = oB s X.2.2.2 L1 X.2.2.1 lf k ∧ gA μ2 (gR G 810 m) k = oC s X.2.2.2 L1 X.2.2.1 lf k := fun k hk => by
      obtain ⟨q1, q2, q3⟩ := d3 k hk
      exact ⟨by rw [q1, vA k hk], by rw [q2, vB k hk], by rw [q3, vC k hk]⟩
    have v5 : gI μ2 805 m = ((aJ s X.2.2.2 lf lf.length).length : Int) := by rw [d2.1]; exact a3.1
    have v18 : gI μ2 818 m = pr := by rw [d2.1]; exact e18
    have v6 : ∀ k, k < (aJ s X.2.2.2 lf lf.length).length → gA μ2 (gR G 806 m) k = (jG (aJ s X.2.2.2 lf lf.length) k : Int) := fun k hk => by rw [m8.1]; exact e61 k hk
    have v7 : ∀ k, k < (aJ s X.2.2.2 lf lf.length).length → gA μ2 (gR G 807 m) k = jS lf (aJ s X.2.2.2 lf lf.length) k := fun k hk => by rw [m8.2]; exact e71 k hk
    obtain ⟨μ3, b1, b2, b3⟩ := z_o110 (N := N) (so := s) (left := X.2.2.1) (all := aS (wZ s X.2.2.2) X.1) (v := oB s X.2.2.2 L1 X.2.2.1 lf) hL hl h10 hN (by omega) hJl hp0 v18 v5 v6 (fun k hk => (v8 k hk).2.1) (fun k hk => by have := bd k hk; have := sb k hk; omega) hm2
    have k3' : ∀ g, (g = 806 ∨ g = 807 ∨ g = 808 ∨ g = 809 ∨ g = 810) → ∀ i, gA μ3 (gR G g m) i = gA μ2 (gR G g m) i := fun g hg i => b1.2.1 _ _ (nA g hg)
    obtain ⟨μ4, e1, e2, e3⟩ := z_o142 (N := N) (so := s) (left := X.2.2.1) (all := aS (wZ s X.2.2.2) X.1) (v := oC s X.2.2.2 L1 X.2.2.1 lf) hL hl h10 hN (by omega) hJl hp0 (by rw [b1.1 _ _ (fun q => q.2)]; exact v18) (by rw [b1.1 _ _ (fun q => q.2)]; exact v5) (fun k hk => by rw [k3' 806 (by decide)]; exact v6 k hk) (fun k hk => by rw [k3' 810 (by decide)]; exact (v8 k hk).2.2) (fun k hk => by have := bd k hk; have := sb k hk; omega) b2
    have k4' : ∀ g, (g = 806 ∨ g = 807 ∨ g = 808 ∨ g = 809 ∨ g = 810) → ∀ i, gA μ4 (gR G g m) i = gA μ2 (gR G g m) i := fun g hg i => (e1.2.1 _ _ (nA g hg)).trans (k3' g hg i)
    have eE : gE lf (aJ s X.2.2.2 lf lf.length) 0 pr (oC s X.2.2.2 L1 X.2.2.1 lf) 2 (gE lf (aJ s X.2.2.2 lf lf.length) 0 pr (oB s X.2.2.2 L1 X.2.2.1 lf) 1 X.2.1 (aJ s X.2.2.2 lf lf.length).length) (aJ s X.2.2.2 lf lf.length).length = O2 := by
      rw [hE, gE_l _ jg, gE_l _ jg, jl]
    rw [eE] at e2
    have cc : ∀ {α β}, dRf G m noF tA α β → dRf G m wF kAr α β := fun q => q.mono (fun g x => x.elim) (fun g x => by unfold tA at x; unfold kAr; omega)
    have c2 : dRf G m wF kAr μ1 μ2 := d2.rfm.mono (fun g x => x) (fun g x => by unfold wA at x; unfold kAr; omega)
    obtain ⟨ν, f1, f2, f3⟩ := fin μ4 (fun _ => 0) (oB s X.2.2.2 L1 X.2.2.1 lf) (oC s X.2.2.2 L1 X.2.2.1 lf) X.2.2.1 (((c1.tr c2).tr (cc b1)).tr (cc e1)) e2 (by rw [e1.1 _ _ (fun q => q.2), b1.1 _ _ (fun q => q.2)]; exact v5) (fun k hk => by rw [k4' 806 (by decide)]; exact v6 k hk) (fun k hk => by rw [k4' 807 (by decide)]; exact v7 k hk) (fun k hk => by rw [k4' 808 (by decide), k4' 809 (by decide), k4' 810 (by decide)]; exact v8 k hk) (fun k hk => by
      have := bd k hk
      have := sb k hk
      have eo := ohd k
      rw [if_neg c] at eo
      show ((0 : Int) ≤ 0 ∧ (0 : Int) ≤ 1000) ∧ _ ∧ _ ∧ 0 + oB s X.2.2.2 L1 X.2.2.1 lf k + oC s X.2.2.2 L1 X.2.2.1 lf k ≤ _ ∧ 0 + oB s X.2.2.2 L1 X.2.2.1 lf k + oC s X.2.2.2 L1 X.2.2.1 lf k = _
      omega) (by rw [hO3]; omega)
    refine ⟨ν, f1, f2, fun kk => ?_⟩
    rw [pre, if_pos (by omega), kb_p d1, b3, e3]
    unfold f_X8_opensSide_171
    rw [if_neg (show ¬ aS (wZ s X.2.2.2) X.1 < X.2.2.1 by omega)]
    exact f3 kk
end TURN8
