/-! PURE: what a line does; class -/
section DOL7
variable {N : Nat} {G : qG} {ρ : Nat → Nat × Nat} {x f : Nat} {μ ν : qM} {l : List (Nat → Int)} {T D : Nat → Int} {tr : Nat → Nat → Int} {t0 s pr z0 mode : Int}
/-- after what changes a floor alone, and not what is lost -/
def dFm (ρ : Nat → Nat × Nat) (f : Nat) (μ ν : qM) : Prop := dRole ρ f μ ν ∧ (in32 (gI μ 210 f) → in32 (gI ν 210 f))
theorem dFm.rf : dFm ρ f μ μ := ⟨dRole.rf, fun h => h⟩
theorem dFm.of (h : dRole ρ f μ ν) (e : gI ν 210 f = gI μ 210 f) : dFm ρ f μ ν := ⟨h, fun y => by rw [e]; exact y⟩
theorem z_comeF (hy : cLay G ρ f) (ho : mOk l T) (hw : wOk T) (hd : dOk D) (hF : isForm t0 s pr z0 mode) (h : cFl G ρ f μ l T D tr) (h210 : in32 (gI μ 210 f)) (h4 : T 4 ≤ 1999999999) (hN : 1000 < N) :
    ∃ ν, f_X2_comeIn N G f t0 s pr z0 mode μ = some ((ordRes l T D tr t0 s pr z0 mode).2.2.2.2, ν) ∧ dFm ρ f μ ν ∧ cFl G ρ f ν (ordRes l T D tr t0 s pr z0 mode).1 (ordRes l T D tr t0 s pr z0 mode).2.1 (ordRes l T D tr t0 s pr z0 mode).2.2.1 (ordRes l T D tr t0 s pr z0 mode).2.2.2.1 := by
  by_cases c2 : T 2 = 0
  · obtain ⟨ν, k1, k2, k3, k4⟩ := z_comeIn (N := N) hy ho hw hd hF h h210 h4 hN
    exact ⟨ν, k1, ⟨k2, fun _ => by rw [(k4 c2).2]; exact w32_in _⟩, k3⟩
  · obtain ⟨f1, f2, f3, f4, f5⟩ := hF
    obtain ⟨A, V, nx, hf⟩ := h
    have hl := ho.lo
    have h60 := hl.1
    have t4 := ho.t4
    have t2 := ho.t2
    have rf : ρ f = (f, 1) := hy 1 (by decide)
    have r204 : ρ (gR G 204 f) = (f, 204) := hy 204 (by decide)
    have e207 : gI μ 207 f = T 2 := hf.2.2.2.1.2.2.1
    have e208 : gI μ 208 f = T 4 := hf.2.2.2.1.2.2.2.1
    have full : f_X0_isFull N G (gR G 200 f) μ = some (if l.length = 60 then 1 else 0, μ) := by
      unfold f_X0_isFull
      rw [hf.1.1]
      by_cases c : l.length = 60
      · rw [if_neg (by omega), if_pos c]
      · rw [if_pos (by omega), if_neg c]
    -- the order itself
    generalize hμ1 : sI (sI (sI (sI (sI (sI (sI μ 208 f (T 4 + 1)) 400 (gR G 204 f) (T 4 + 1)) 401 (gR G 204 f) t0) 402 (gR G 204 f) s) 403 (gR G 204 f) pr) 404 (gR G 204 f) z0) 405 (gR G 204 f) z0 = μ1
    have d1 : dRole ρ f μ μ1 := by
      rw [← hμ1]
      have q : ∀ {g v} {α : qM}, dRole ρ f α (sI α g (gR G 204 f) v) := dRole.sI (by rw [r204])
      exact ((((((dRole.sI (by rw [rf])).tr q).tr q).tr q).tr q).tr q).tr q
    have hf1 : cFlx G ρ f A V nx μ1 l (upd1 T 4 (T 4 + 1)) D tr := by
      have a0 : cFlx G ρ f A V nx (sI μ 208 f (T 4 + 1)) l (upd1 T 4 (T 4 + 1)) D tr := by
        obtain ⟨g1, g2, g3, g4, g5, g6, g7, g8⟩ := hf
        refine ⟨⟨by rw [gI_f (by decide)]; exact g1.1, g1.2.1, g1.2.2.1, fun i k hi hk => by rw [gI_f (by omega)]; exact g1.2.2.2 i k hi hk⟩, g2, fun s hs => by rw [upd1_n (by omega), upd1_n (by omega)]; exact g3 s hs, ?_, ?_, fun t ht => by rw [upd1_n (by omega)]; exact g6 t ht, g7, fun i w hi => g8 i w (by rwa [upd1_n (by decide)] at hi)⟩
        · rw [gI_f (by decide), gI_f (by decide), gI_f (by decide), gI_s, gI_f (by decide), gI_f (by decide), upd1_n (by decide), upd1_n (by decide), upd1_n (by decide), upd1_s, upd1_n (by decide), upd1_n (by decide)]
          exact ⟨g4.1, g4.2.1, g4.2.2.1, rfl, g4.2.2.2.2⟩
        · rw [gI_f (by decide), gI_f (by decide), gI_f (by decide), gI_f (by decide), upd1_n (by decide), upd1_n (by decide), upd1_n (by decide)]
          exact g5
      rw [← hμ1]
      have a1 := a0.com hy h60 (w := 0) (v := T 4 + 1) (by decide)
      have a2 := a1.com hy h60 (w := 1) (v := t0) (by decide)
      have a3 := a2.com hy h60 (w := 2) (v := s) (by decide)
      have a4 := a3.com hy h60 (w := 3) (v := pr) (by decide)
      have a5 := a4.com hy h60 (w := 4) (v := z0) (by decide)
      exact a5.com hy h60 (w := 5) (v := z0) (by decide)
    have hc1 : cIn G f μ1 (T 4 + 1) t0 s pr z0 z0 := by
      rw [← hμ1]
      refine ⟨?_, ?_, ?_, ?_, ?_, ?_⟩ <;> simp [gI_sI]
    have k210 : gI μ1 210 f = gI μ 210 f := by rw [← hμ1, gI_f (by decide), gI_f (by decide), gI_f (by decide), gI_f (by decide), gI_f (by decide), gI_f (by decide), gI_f (by decide)]
    have pre : f_X2_comeIn_20 N G f t0 s pr z0 mode μ = if T 2 = 0 then (kb (f_X2_meet N G f mode μ1) fun m6 => f_X2_comeIn_59 N G f m6) else f_X2_comeIn_59 N G f μ1 := by
      unfold f_X2_comeIn_20
      rw [e208, ckI_p ⟨by omega, by omega⟩, kp_p, gI_s, kb_p z_become4, hμ1, hf1.2.2.2.1.2.2.1, upd1_n (by decide)]
    unfold f_X2_comeIn
    rw [e207]
    unfold ordRes
    rw [if_neg c2, if_neg c2, kb2_p full]
    by_cases cF : l.length = 60
    · rw [if_pos cF, if_pos cF, if_neg (by decide)]
      exact ⟨μ, rfl, dFm.rf, ⟨A, V, nx, hf⟩⟩
    · rw [if_neg cF, if_neg cF, if_pos rfl, pre, if_neg c2]
      obtain ⟨ν, nx3, r1, r2, r3, r4, r5⟩ := z_rest7 (N := N) hy hf1 hl (by omega) hc1 f2 (by omega) (by omega) (by rw [upd1_n (by decide)]; exact t2)
      rw [upd1_n (by decide), if_neg c2] at r3
      rw [upd1_s] at r1
      have eL : ordL (T 4 + 1) t0 s pr z0 l z0 = l ++ [oMk (T 4 + 1) t0 s pr z0 z0] := if_neg (by omega)
      rw [eL] at r3
      exact ⟨ν, r1, dFm.of (d1.tr r2) (by rw [r5, k210]), ⟨_, V, nx3, r3⟩⟩
theorem z_offF (hy : cLay G ρ (gR G 700 x)) (h : cFl G ρ (gR G 700 x) μ l T D tr) (hl : lOk l) (hp : ∀ j, j < l.length → 0 < lG l j 4) (hN : 100 < N) (k : Int) :
    (aPlace k l = none → f_X7_off N G x k μ = some (-1, μ)) ∧ ∀ i, aPlace k l = some i → ∃ ν, f_X7_off N G x k μ = some (lG l i 4, ν) ∧ dFm ρ (gR G 700 x) μ ν ∧ cFl G ρ (gR G 700 x) ν (l.eraseIdx i) (aGo T (lG l i)) D tr := by
  obtain ⟨A, V, nx, hf⟩ := h
  have h1 := hf.1
  unfold f_X7_off
  rw [kb2_p (z_find0 h1 hl.1 hN)]
  refine ⟨fun e => by rw [e]; rfl, fun i e => ?_⟩
  obtain ⟨-, hi, -, -⟩ := aPl_some e
  rw [Nat.zero_add] at hi
  rw [e]
  have hf1 := hf.ord (i := i) (w := 4) (v := 0) hl.1 hi (by decide)
  have hl1 : lOk (l.set i (upd1 (lG l i) 4 0)) := hl.set hi ⟨by decide, by decide⟩
  have hn : gR G 2 (gR G 200 (gR G 700 x)) ≠ gR G 3 (gR G 200 (gR G 700 x)) := hy.ne (j := 12) (k := 13) (by decide) (by decide) (by decide)
  obtain ⟨ν, A', e1, e2, e3, e4, e5⟩ := z_sweep0 (N := N) hn hf1.1 hf1.2.2.1 hl1 hN
  rw [filter_one hi hp] at e3
  rw [aSw_one hi hp] at e5
  show ∃ ν, (kp (sI μ 404 (A i) 0) fun m4 => kb (f_X0_sweep N G (gR G 200 (gR G 700 x)) m4) fun m5 => some (gI μ 404 (A i), m5)) = _ ∧ _
  rw [kp_p, kb_p e1, show gI μ 404 (A i) = lG l i 4 from h1.2.2.2 i 4 hi (by decide)]
  refine ⟨ν, rfl, dFm.of ((dRole.sI (by rw [hf.2.1 i (by have := hl.1; omega)])).tr (dRole.ofB hy e2)) (by rw [e2.1 _ _ (fun q => by omega), gI_f (by decide)]), ⟨A', V, nx, hf1.book hy e2 e3 e4 e5 (fun j a b c d => aGo_o (hl.2 i hi).2.2.1 a b c d)⟩⟩
theorem z_cutF (hy : cLay G ρ (gR G 700 x)) (h : cFl G ρ (gR G 700 x) μ l T D tr) (hl : lOk l) (hN : 100 < N) (k z : Int) :
    ((aPlace k l = none ∨ ∃ i, aPlace k l = some i ∧ ¬ (1 ≤ z ∧ z < lG l i 4)) → f_X7_cut N G x k z μ = some (-1, μ)) ∧ ∀ i, aPlace k l = some i → 1 ≤ z ∧ z < lG l i 4 → ∃ ν, f_X7_cut N G x k z μ = some (lG l i 4, ν) ∧ dFm ρ (gR G 700 x) μ ν ∧ cFl G ρ (gR G 700 x) ν (l.set i (upd1 (lG l i) 4 z)) (aGo T (lG l i)) D tr := by
  obtain ⟨A, V, nx, hf⟩ := h
  have h1 := hf.1
  unfold f_X7_cut
  rw [kb2_p (z_find0 h1 hl.1 hN)]
  refine ⟨fun e => ?_, fun i e hz => ?_⟩
  · rcases e with e | ⟨i, e, hz⟩
    · rw [e]; rfl
    · obtain ⟨-, hi, -, -⟩ := aPl_some e
      rw [Nat.zero_add] at hi
      rw [e]
      show (if z < 1 then some ((-1 : Int), μ) else if z < gI μ 404 (A i) then _ else some (-1, μ)) = _
      rw [show gI μ 404 (A i) = lG l i 4 from h1.2.2.2 i 4 hi (by decide)]
      by_cases c : z < 1
      · rw [if_pos c]
      · rw [if_neg c, if_neg (by omega)]
  · obtain ⟨-, hi, -, -⟩ := aPl_some e
    rw [Nat.zero_add] at hi
    rw [e]
    have ho := hl.2 i hi
    have hf1 := hf.ord (i := i) (w := 4) (v := z) hl.1 hi (by decide)
    have hn : gR G 2 (gR G 200 (gR G 700 x)) ≠ gR G 3 (gR G 200 (gR G 700 x)) := hy.ne (j := 12) (k := 13) (by decide) (by decide) (by decide)
    obtain ⟨ν, e1, e2, e3⟩ := z_lapse0 (N := N) (o := A i) (w := lG l i) hn hf1.2.2.1 (by rw [gI_f (by decide)]; exact h1.2.2.2 i 0 hi (by decide)) (by rw [gI_f (by decide)]; exact h1.2.2.2 i 2 hi (by decide)) ho.2.2.1 ho.1.1
    show ∃ ν, (if z < 1 then some ((-1 : Int), μ) else if z < gI μ 404 (A i) then kp (sI μ 404 (A i) z) fun m6 => kb (f_X0_lapse N G (gR G 200 (gR G 700 x)) (A i) m6) fun m7 => some (gI μ 404 (A i), m7) else some (-1, μ)) = _ ∧ _
    rw [show gI μ 404 (A i) = lG l i 4 from h1.2.2.2 i 4 hi (by decide), if_neg (by omega), if_pos hz.2, kp_p, kb_p e1]
    have hb : cB G (gR G 200 (gR G 700 x)) A ν (l.set i (upd1 (lG l i) 4 z)) := ⟨by rw [e2.1]; exact hf1.1.1, fun j hj => by rw [e2.2.2]; exact hf1.1.2.1 j hj, hf1.1.2.2.1, fun j k hj hk => by rw [e2.1]; exact hf1.1.2.2.2 j k hj hk⟩
    exact ⟨ν, rfl, dFm.of ((dRole.sI (by rw [hf.2.1 i (by have := hl.1; omega)])).tr (dRole.ofB hy e2.B)) (by rw [e2.1, gI_f (by decide)]), ⟨A, V, nx, hf1.book hy e2.B hb (fun j hj => ⟨j, hj, rfl⟩) e3 (fun j a b c d => aGo_o ho.2.2.1 a b c d)⟩⟩
theorem z_grantF (hy : cLay G ρ (gR G 700 x)) (h : cFl G ρ (gR G 700 x) μ l T D tr) (v : Int) : ∃ ν, f_X7_grant N G x v μ = some (if aIn v 0 1000 = true then T 0 else -1, ν) ∧ dFm ρ (gR G 700 x) μ ν ∧ cFl G ρ (gR G 700 x) ν l (if aIn v 0 1000 = true then upd1 T 0 v else T) D tr := by
  unfold f_X7_grant
  by_cases c : 0 ≤ v ∧ v ≤ 1000
  · have c' : aIn v 0 1000 = true := decide_eq_true c
    obtain ⟨A, V, nx, h1, h2, h3, h4, h5, h6, h7, h8⟩ := h
    rw [if_neg (by omega), if_neg (by omega), kp_p, if_pos c', if_pos c', h4.1]
    have pf : (ρ (gR G 700 x)).1 = gR G 700 x := by rw [show ρ (gR G 700 x) = (gR G 700 x, 1) from hy 1 (by decide)]
    refine ⟨_, rfl, dFm.of (dRole.sI pf) (gI_f (by decide)), ⟨A, V, nx, ⟨by rw [gI_f (by decide)]; exact h1.1, h1.2.1, h1.2.2.1, fun i k hi hk => by rw [gI_f (by omega)]; exact h1.2.2.2 i k hi hk⟩, h2, fun s hs => by rw [upd1_n (by omega), upd1_n (by omega)]; exact h3 s hs, ?_, ?_, fun t ht => by rw [upd1_n (by omega)]; exact h6 t ht, h7, fun i w hi => h8 i w (by rwa [upd1_n (by decide)] at hi)⟩⟩
    · rw [gI_s, upd1_s, gI_f (by decide), gI_f (by decide), gI_f (by decide), gI_f (by decide), gI_f (by decide)]
      exact ⟨rfl, h4.2⟩
    · rw [gI_f (by decide), gI_f (by decide), gI_f (by decide), gI_f (by decide)]
      exact h5
  · have c' : ¬ aIn v 0 1000 = true := fun q => c (of_decide_eq_true q)
    rw [if_neg c', if_neg c']
    refine ⟨μ, ?_, dFm.rf, h⟩
    by_cases d : v < 0
    · rw [if_pos d]
    · rw [if_neg d, if_pos (by omega)]
theorem z_leastF (hy : cLay G ρ (gR G 700 x)) (h : cFl G ρ (gR G 700 x) μ l T D tr) (v : Int) : ∃ ν, f_X7_least N G x v μ = some (if aIn v 1 50 = true then T 1 else -1, ν) ∧ dFm ρ (gR G 700 x) μ ν ∧ cFl G ρ (gR G 700 x) ν l (if aIn v 1 50 = true then upd1 T 1 v else T) D tr := by
  unfold f_X7_least
  by_cases c : 1 ≤ v ∧ v ≤ 50
  · have c' : aIn v 1 50 = true := decide_eq_true c
    obtain ⟨A, V, nx, h1, h2, h3, h4, h5, h6, h7, h8⟩ := h
    rw [if_neg (by omega), if_neg (by omega), kp_p, if_pos c', if_pos c', h4.2.1]
    have pf : (ρ (gR G 700 x)).1 = gR G 700 x := by rw [show ρ (gR G 700 x) = (gR G 700 x, 1) from hy 1 (by decide)]
    refine ⟨_, rfl, dFm.of (dRole.sI pf) (gI_f (by decide)), ⟨A, V, nx, ⟨by rw [gI_f (by decide)]; exact h1.1, h1.2.1, h1.2.2.1, fun i k hi hk => by rw [gI_f (by omega)]; exact h1.2.2.2 i k hi hk⟩, h2, fun s hs => by rw [upd1_n (by omega), upd1_n (by omega)]; exact h3 s hs, ?_, ?_, fun t ht => by rw [upd1_n (by omega)]; exact h6 t ht, h7, fun i w hi => h8 i w (by rwa [upd1_n (by decide)] at hi)⟩⟩
    · rw [gI_s, upd1_s, gI_f (by decide), gI_f (by decide), gI_f (by decide), gI_f (by decide), gI_f (by decide)]
      exact ⟨h4.1, rfl, h4.2.2⟩
    · rw [gI_f (by decide), gI_f (by decide), gI_f (by decide), gI_f (by decide)]
      exact h5
  · have c' : ¬ aIn v 1 50 = true := fun q => c (of_decide_eq_true q)
    rw [if_neg c', if_neg c']
    refine ⟨μ, ?_, dFm.rf, h⟩
    by_cases d : v < 1
    · rw [if_pos d]
    · rw [if_neg d, if_pos (by omega)]
theorem z_callF (hy : cLay G ρ (gR G 700 x)) (h : cFl G ρ (gR G 700 x) μ l T D tr) (hT : T 2 = 0 ∨ T 2 = 1) (hN : 100 < N) : ∃ ν, f_X7_call N G x μ = some (if T 2 = 1 then 0 else 1, ν) ∧ dFm ρ (gR G 700 x) μ ν ∧ cFl G ρ (gR G 700 x) ν l (if T 2 = 1 then T else aLap (aLap (upd1 T 2 1) 0) 1) D tr := by
  obtain ⟨A, V, nx, hf⟩ := id h
  unfold f_X7_call
  rw [hf.2.2.2.1.2.2.1]
  by_cases c : T 2 = 1
  · rw [if_pos c, if_pos c, if_neg (by omega)]
    exact ⟨μ, rfl, dFm.rf, h⟩
  · rw [if_neg c, if_neg c, if_pos (by omega), kp_p]
    have pf : (ρ (gR G 700 x)).1 = gR G 700 x := by rw [show ρ (gR G 700 x) = (gR G 700 x, 1) from hy 1 (by decide)]
    have hf1 := hf.ph (v := 1)
    have hn : gR G 2 (gR G 200 (gR G 700 x)) ≠ gR G 3 (gR G 200 (gR G 700 x)) := hy.ne (j := 12) (k := 13) (by decide) (by decide) (by decide)
    obtain ⟨ν, e1, e2, e3⟩ := z_lapseAll0 (N := N) hn hf1.2.2.1 hN
    rw [kb_p e1]
    have hb : cB G (gR G 200 (gR G 700 x)) A ν l := ⟨by rw [e2.1]; exact hf1.1.1, fun j hj => by rw [e2.2.2]; exact hf1.1.2.1 j hj, hf1.1.2.2.1, fun j k hj hk => by rw [e2.1]; exact hf1.1.2.2.2 j k hj hk⟩
    exact ⟨ν, rfl, dFm.of ((dRole.sI pf).tr (dRole.ofB hy e2.B)) (by rw [e2.1, gI_f (by decide)]), ⟨A, V, nx, hf1.book hy e2.B hb (fun j hj => ⟨j, hj, rfl⟩) e3 (fun j a b c d => by rw [aLap_o (by decide) a b c d, aLap_o (by decide) a b c d])⟩⟩
end DOL7
