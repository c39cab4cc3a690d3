/-! PURE: OPEN, class -/
section OPEN7
variable {N : Nat} {G : qG} {ρ : Nat → Nat × Nat} {x f : Nat} {μ ν : qM} {l : List (Nat → Int)} {T D : Nat → Int} {tr : Nat → Nat → Int} {n : Nat} {B : Nat → Int}
theorem cFlx.ph {A V : Nat → Nat} {nx : Nat} (h : cFlx G ρ f A V nx μ l T D tr) {v : Int} : cFlx G ρ f A V nx (sI μ 207 f v) l (upd1 T 2 v) D tr := by
  obtain ⟨h1, h2, h3, h4, h5, h6, h7, h8⟩ := h
  refine ⟨⟨by rw [gI_f (by decide)]; exact h1.1, h1.2.1, h1.2.2.1, fun i k hi hk => by rw [gI_f (by omega)]; exact h1.2.2.2 i k hi hk⟩, h2, fun s hs => by rw [upd1_n (by omega), upd1_n (by omega)]; exact h3 s hs, ?_, ?_, fun t ht => by rw [upd1_n (by omega)]; exact h6 t ht, h7, fun i w hi => h8 i w (by rwa [upd1_n (by decide)] at hi)⟩
  · rw [gI_s, gI_f (by decide), gI_f (by decide), gI_f (by decide), gI_f (by decide), gI_f (by decide)]
    exact ⟨h4.1, h4.2.1, rfl, h4.2.2.2⟩
  · rw [gI_f (by decide), gI_f (by decide), gI_f (by decide), gI_f (by decide)]
    exact h5
theorem wOk.ph (hw : wOk T) {v : Int} : wOk (upd1 T 2 v) := ⟨by rw [upd1_n (by decide)]; exact hw.1, by rw [upd1_n (by decide)]; exact hw.2.1, by rw [upd1_n (by decide)]; exact hw.2.2.1, fun j a b => by rw [upd1_n (by omega)]; exact hw.2.2.2 j a b⟩
theorem apT_op (hw : wOk T) (h10 : T 10 ≤ 60) {j : Nat} (hj : j < 24) : apT (upd1 T 2 0) (tps T) (pOf (T 3) []) [] 0 0 0 0 0 j = upd1 T 2 0 j := by
  rw [← apT_s (T := upd1 T 2 0) (s := 0) (t0 := 0) hw.ph (by rw [upd1_n (by decide)]; exact h10) hj]
  exact apT_cg (fun _ => rfl) (fun q => by show tps T j = tps (upd1 T 2 0) j; rw [tps_u q, tps_u q, upd1_n (by omega)]) (fun _ => by show T 3 = upd1 T 2 0 3; rw [upd1_n (by decide)]) (fun _ => rfl) (fun _ => rfl) (fun _ => rfl) (fun _ => rfl) (fun _ => ⟨rfl, rfl⟩)
theorem z_change7 (hy : cLay G ρ f) (h : cFl G ρ f μ l T D tr) (ho : mOk l T) (hw : wOk T) (hd : dOk D) (h2 : T 2 ≠ 0) (hN : 1000 < N) :
    ∃ ν p v u, f_X2_changeOver N G f μ = some (v, ν) ∧ dRole ρ f μ ν ∧ cSp l (T 3) p v u ∧ cFl G ρ f ν (opRes l T D tr p v).1 (opRes l T D tr p v).2.1 (opRes l T D tr p v).2.2.1 (opRes l T D tr p v).2.2.2 ∧ gI ν 210 f = gI μ 210 f := by
  obtain ⟨A, V, nx, hf⟩ := h
  have hl := ho.lo
  have hc : T 2 = 1 := by have := ho.t2; omega
  have hcal := ho.2.2.2.2.2.2.2.2.2.2.2 hc
  have t1 := ho.t1
  have t3 := ho.t3
  have t10 := ho.t10
  have rf : (ρ f).1 = f := by rw [show ρ f = (f, 1) from hy 1 (by decide)]
  have r201 : ρ (gR G 201 f) = (f, 201) := hy 201 (by decide)
  have r203 : ρ (gR G 203 f) = (f, 203) := hy 203 (by decide)
  have hf1 := hf.ph (v := 0)
  have e303 : gI (sI μ 207 f 0) 303 (gR G 201 f) = T 3 := by rw [hf1.2.2.2.2.1.1, upd1_n (by decide)]
  obtain ⟨μ2, p, v, u, k1, k2, k3, k4, k5, k6⟩ := z_seek1 (N := N) (c := gR G 203 f) hf1.1 hl t3 (by omega)
  have hf2 := hf1.dc hl.1 k2
  have d2 : dRole ρ f μ μ2 := (dRole.sI rf).tr (k2.role hy)
  obtain ⟨v0, v1, v2⟩ := opV k6 hl
  unfold f_X2_changeOver
  rw [kp_p, e303, kb_p k1, k4]
  by_cases hz : 0 < v
  · rw [if_pos hz]
    obtain ⟨i0, i1, i2, q0, q1, e1, e2⟩ := opXY ho k6 hz
    have hp := (v2 hz).1
    have np : ∀ {α β : qM} {g}, dP ρ (pTc f) α β → gI β g (gR G 203 f) = gI α g (gR G 203 f) := fun q => q.1 _ _ (by rw [r203]; exact fun y => y.2.2.1 rfl)
    have hU : tps T 6 = -1 ∧ tps T 7 = -1 := ⟨(tps_u (by decide)).trans hcal.1, (tps_u (by decide)).trans hcal.2⟩
    have g1 : upd1 T 2 0 1 = T 1 := upd1_n (by decide)
    have g10 : 0 ≤ upd1 T 2 0 10 ∧ upd1 T 2 0 10 ≤ 60 := by rw [upd1_n (by decide)]; exact t10
    have st0 : oS7 G ρ f V (upd1 T 2 0) (tps T) D tr (T 3) (l, [], v, aBest 0 l) μ2 :=
      ⟨A, nx, hf2.cg (fun j hj => apT_op hw t10.2 hj) (fun t ht => apD_s hd ht) (fun i w => rfl)⟩
    obtain ⟨μ3, a1, a2, a3⟩ := z_side7 (N := N) hy g1 t1 hU (Or.inl rfl) g10 hN hp i0 st0 k3 k4
    have st1 : oS7 G ρ f V (upd1 T 2 0) (tps T) D tr (T 3) ((opX l T p v).1, (opX l T p v).2.1, v, aBest 1 (opX l T p v).1) μ3 := a3
    obtain ⟨μ4, b1, b2, b3⟩ := z_side7 (N := N) hy g1 t1 hU (Or.inr rfl) g10 hN hp i1 st1 (by rw [np a2]; exact k3) (by rw [np a2]; exact k4)
    have st2 : oS7 G ρ f V (upd1 T 2 0) (tps T) D tr (T 3) (opY l T p v) μ4 := b3
    obtain ⟨A4, nx4, hf4⟩ := st2
    rw [pOf_pq e1 e2] at hf4
    have hf4' : cFlx G ρ f A4 V nx4 μ4 (opY l T p v).1 (opA T p (opY l T p v).2.1) (apD D (opY l T p v).2.1 0 0 0) (apTr tr (opY l T p v).2.1) := hf4
    have e304 : gI μ4 304 (gR G 201 f) = opA T p (opY l T p v).2.1 11 := hf4'.2.2.2.2.1.2.2.1
    have e101 : gI μ4 101 (gR G 203 f) = v := by rw [np b2, np a2]; exact k4
    have hf5 := hf4'.lots (v := w32 (opA T p (opY l T p v).2.1 11 + v))
    have hn : gR G 2 (gR G 200 f) ≠ gR G 3 (gR G 200 f) := hy.ne (j := 12) (k := 13) (by decide) (by decide) (by decide)
    obtain ⟨ν, A', o1, o2, o3, o4, o5⟩ := z_sweep0 (N := N) hn hf5.1 hf5.2.2.1 i2.1 (by omega)
    have tU : ∀ j, 6 ≤ j ∧ j ≤ 9 → opT T p v (opY l T p v).2.1 j = T j := fun j hj => by unfold opT opA; rw [upd1_n (by omega), apT_u hj, tps_u hj]
    have eT : aSw (opT T p v (opY l T p v).2.1) (opY l T p v).1 = opT T p v (opY l T p v).2.1 := aSw_no (by rw [tU 6 (by decide)]; exact hcal.1) (by rw [tU 7 (by decide)]; exact hcal.2) (fun i hi => (i2.1.2 i hi).ns)
    have o5' : cTp G (gR G 200 f) ν (aSw (opT T p v (opY l T p v).2.1) (opY l T p v).1) := o5
    rw [eT] at o5'
    have hf6 := hf5.book hy o2 o3 o4 o5' (fun j _ _ _ _ => rfl)
    have ng : gI ν 101 (gR G 203 f) = v := by
      rw [o2.1 _ _ (fun q => by omega), gI_f (by decide)]
      exact e101
    have hP : ∀ q, pTc f q → q.1 = f := fun q h => h.1
    have R : opRes l T D tr p v = ((opY l T p v).1.filter aKp, opT T p v (opY l T p v).2.1, apD D (opY l T p v).2.1 0 0 0, apTr tr (opY l T p v).2.1) := if_pos hz
    have rff : ρ f = (f, 1) := hy 1 (by decide)
    have kk : ∀ {α β : qM}, dP ρ (pTc f) α β → gI β 210 f = gI α 210 f := fun q => q.1 _ _ (by rw [rff]; exact fun y => y.2.1 rfl)
    refine ⟨ν, p, v, u, ?_, (((d2.tr (a2.role hP)).tr (b2.role hP)).tr (dRole.sI (by rw [r201]))).tr (dRole.ofB hy o2), k6, ?_, by rw [o2.1 _ _ (fun q => by omega), gI_f (by decide), kk b2, kk a2, k2.1 _ _ (fun q => by omega), gI_f (by decide)]⟩
    · rw [kb_p a1, kb_p b1, e304, e101, kp_p, kp_p, kb_p o1, ng]
    · rw [R]
      exact ⟨A', V, nx4, hf6⟩
  · rw [if_neg hz]
    have R : opRes l T D tr p v = (l, upd1 T 2 0, D, tr) := if_neg hz
    refine ⟨μ2, p, v, u, rfl, d2, k6, ?_, by rw [k2.1 _ _ (fun q => by omega), gI_f (by decide)]⟩
    rw [R]
    exact ⟨A, V, nx, hf2⟩
theorem z_open7 (hy : cLY G ρ x) (h : cR G ρ x μ l T D tr n B) (ho : mOk l T) (hw : wOk T) (hd : dOk D) (hN : 1000 < N) :
    ∃ ν r, f_X7_open N G x μ = some (r, ν) ∧ (T 2 = 0 → r = -1 ∧ cR G ρ x ν l T D tr n B) ∧ (T 2 ≠ 0 → ∃ p v u, cSp l (T 3) p v u ∧ r = v ∧ cR G ρ x ν (opRes l T D tr p v).1 (opRes l T D tr p v).2.1 (opRes l T D tr p v).2.2.1 (opRes l T D tr p v).2.2.2 n B) := by
  obtain ⟨A, V, nx, hf⟩ := id h.1
  unfold f_X7_open
  rw [hf.2.2.2.1.2.2.1]
  by_cases c : T 2 = 0
  · rw [if_pos c]
    exact ⟨μ, -1, rfl, fun _ => ⟨rfl, h⟩, fun q => absurd c q⟩
  · rw [if_neg c]
    obtain ⟨ν, p, v, u, k1, k2, k3, k4, -⟩ := z_change7 (N := N) hy.1 h.1 ho hw hd c hN
    rw [kb2_p k1]
    exact ⟨ν, v, rfl, fun q => absurd q c, fun _ => ⟨p, v, u, k3, rfl, h.flo hy k2 k4⟩⟩
end OPEN7
