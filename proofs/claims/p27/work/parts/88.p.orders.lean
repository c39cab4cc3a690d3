/-! PURE: an order comes in, on both sides -/
/-- the course of an order while trading -/
def ordY (l : List (Nat → Int)) (T : Nat → Int) (t0 s pr z0 mode : Int) : MS := mRun mode s (T 4 + 1) t0 (T 1) pr 60 (l, tps T, [], 0, 0, 0, z0)
def ordT0 (T : Nat → Int) (Y : MS) (s t0 : Int) : Nat → Int := apT (upd1 T 4 (T 4 + 1)) Y.2.1 (pOf (T 3) Y.2.2.1) Y.2.2.1 (sumW Y.2.2.1) Y.2.2.2.1 Y.2.2.2.2.1 s t0
/-- orders, numbers, money, trades, answer behind order() -/
def ordRes (l : List (Nat → Int)) (T D : Nat → Int) (tr : Nat → Nat → Int) (t0 s pr z0 mode : Int) : List (Nat → Int) × (Nat → Int) × (Nat → Int) × (Nat → Nat → Int) × Int :=
  if T 2 = 0 then (ordL (T 4 + 1) t0 s pr z0 (ordY l T t0 s pr z0 mode).1 (ordY l T t0 s pr z0 mode).2.2.2.2.2.2, ordT (T 4 + 1) s pr z0 (ordY l T t0 s pr z0 mode).1 (ordY l T t0 s pr z0 mode).2.2.2.2.2.2 (ordT0 T (ordY l T t0 s pr z0 mode) s t0), apD D (ordY l T t0 s pr z0 mode).2.2.1 (sumY (ordY l T t0 s pr z0 mode).2.2.1) s t0, apTr tr (ordY l T t0 s pr z0 mode).2.2.1, T 4 + 1)
  else if l.length = 60 then (l, T, D, tr, -3) else (l ++ [oMk (T 4 + 1) t0 s pr z0 z0], upd1 T 4 (T 4 + 1), D, tr, T 4 + 1)
/-- an order's form -/
def isForm (t0 s pr z0 mode : Int) : Prop := (0 ≤ t0 ∧ t0 ≤ 9) ∧ (s = 0 ∨ s = 1) ∧ (1 ≤ pr ∧ pr ≤ 9999999) ∧ (1 ≤ z0 ∧ z0 ≤ 1000) ∧ (0 ≤ mode ∧ mode ≤ 3)
section ORD
variable {N : Nat} {G : qG} {ρ : Nat → Nat × Nat} {f m : Nat} {μ ν : qM} {l : List (Nat → Int)} {T D : Nat → Int} {tr : Nat → Nat → Int} {n : Nat} {B : Nat → Int} {t0 s pr z0 mode : Int}
theorem tps_uOk (h : mOk l T) : uOk l (tps T) (T 1) := uOk.mk h.lo h.pos h.inc h.t1 (fun s hs => by rw [tps_u (by omega), tps_u (by omega)]; exact h.top s hs)
theorem ordY_inv (ho : mOk l T) (hF : isForm t0 s pr z0 mode) : mI (T 1) t0 (ordY l T t0 s pr z0 mode) := by
  obtain ⟨f1, f2, f3, f4, f5⟩ := hF
  exact mRun_inv f5 f2 60 _ ⟨tps_uOk ho, ⟨(by show 0 ≤ z0; omega), (by show z0 ≤ 1000; omega)⟩, fun i hi => by cases hi⟩
theorem z_comeIn (hy : cLay G ρ f) (ho : mOk l T) (hw : wOk T) (hd : dOk D) (hF : isForm t0 s pr z0 mode) (h : cFl G ρ f μ l T D tr) (h210 : in32 (gI μ 210 f)) (h4 : T 4 ≤ 1999999999) (hN : 1000 < N) :
    ∃ ν, f_X2_comeIn N G f t0 s pr z0 mode μ = some ((ordRes l T D tr t0 s pr z0 mode).2.2.2.2, ν) ∧ dRole ρ f μ ν ∧ cFl G ρ f ν (ordRes l T D tr t0 s pr z0 mode).1 (ordRes l T D tr t0 s pr z0 mode).2.1 (ordRes l T D tr t0 s pr z0 mode).2.2.1 (ordRes l T D tr t0 s pr z0 mode).2.2.2.1 ∧
      (T 2 = 0 → gI ν 404 (gR G 204 f) = ordR (ordY l T t0 s pr z0 mode).1 (ordY l T t0 s pr z0 mode).2.2.2.2.2.2 ∧ gI ν 210 f = w32 (gI μ 210 f + (ordY l T t0 s pr z0 mode).2.2.2.2.2.1)) := by
  have hYI := ordY_inv ho hF
  obtain ⟨f1, f2, f3, f4, f5⟩ := hF
  obtain ⟨A, V, nx, hf⟩ := h
  have hl := ho.lo
  have h60 := hl.1
  have t4 := ho.t4
  have t2 := ho.t2
  have rf : ρ f = (f, 1) := hy 1 (by decide)
  have r204 : ρ (gR G 204 f) = (f, 204) := hy 204 (by decide)
  have e207 : gI μ 207 f = T 2 := hf.2.2.2.1.2.2.1
  have e208 : gI μ 208 f = T 4 := hf.2.2.2.1.2.2.2.1
  have full : f_X0_isFull N G (gR G 200 f) μ = some (if l.length = 60 then 1 else 0, μ) := by
    unfold f_X0_isFull
    rw [hf.1.1]
    by_cases c : l.length = 60
    · rw [if_neg (by omega), if_pos c]
    · rw [if_pos (by omega), if_neg c]
  -- the order itself
  generalize hμ1 : sI (sI (sI (sI (sI (sI (sI μ 208 f (T 4 + 1)) 400 (gR G 204 f) (T 4 + 1)) 401 (gR G 204 f) t0) 402 (gR G 204 f) s) 403 (gR G 204 f) pr) 404 (gR G 204 f) z0) 405 (gR G 204 f) z0 = μ1
  have d1 : dRole ρ f μ μ1 := by
    rw [← hμ1]
    have q : ∀ {g v} {α : qM}, dRole ρ f α (sI α g (gR G 204 f) v) := dRole.sI (by rw [r204])
    exact ((((((dRole.sI (by rw [rf])).tr q).tr q).tr q).tr q).tr q).tr q
  have hf1 : cFlx G ρ f A V nx μ1 l (upd1 T 4 (T 4 + 1)) D tr := by
    have a0 : cFlx G ρ f A V nx (sI μ 208 f (T 4 + 1)) l (upd1 T 4 (T 4 + 1)) D tr := by
      obtain ⟨g1, g2, g3, g4, g5, g6, g7, g8⟩ := hf
      refine ⟨⟨by rw [gI_f (by decide)]; exact g1.1, g1.2.1, g1.2.2.1, fun i k hi hk => by rw [gI_f (by omega)]; exact g1.2.2.2 i k hi hk⟩, g2, fun s hs => by rw [upd1_n (by omega), upd1_n (by omega)]; exact g3 s hs, ?_, ?_, fun t ht => by rw [upd1_n (by omega)]; exact g6 t ht, g7, fun i w hi => g8 i w (by rwa [upd1_n (by decide)] at hi)⟩
      · rw [gI_f (by decide), gI_f (by decide), gI_f (by decide), gI_s, gI_f (by decide), gI_f (by decide), upd1_n (by decide), upd1_n (by decide), upd1_n (by decide), upd1_s, upd1_n (by decide), upd1_n (by decide)]
        exact ⟨g4.1, g4.2.1, g4.2.2.1, rfl, g4.2.2.2.2⟩
      · rw [gI_f (by decide), gI_f (by decide), gI_f (by decide), gI_f (by decide), upd1_n (by decide), upd1_n (by decide), upd1_n (by decide)]
        exact g5
    rw [← hμ1]
    have a1 := a0.com hy h60 (w := 0) (v := T 4 + 1) (by decide)
    have a2 := a1.com hy h60 (w := 1) (v := t0) (by decide)
    have a3 := a2.com hy h60 (w := 2) (v := s) (by decide)
    have a4 := a3.com hy h60 (w := 3) (v := pr) (by decide)
    have a5 := a4.com hy h60 (w := 4) (v := z0) (by decide)
    exact a5.com hy h60 (w := 5) (v := z0) (by decide)
  have hc1 : cIn G f μ1 (T 4 + 1) t0 s pr z0 z0 := by
    rw [← hμ1]
    refine ⟨?_, ?_, ?_, ?_, ?_, ?_⟩ <;> simp [gI_sI]
  have k210 : gI μ1 210 f = gI μ 210 f := by rw [← hμ1, gI_f (by decide), gI_f (by decide), gI_f (by decide), gI_f (by decide), gI_f (by decide), gI_f (by decide), gI_f (by decide)]
  have pre : f_X2_comeIn_20 N G f t0 s pr z0 mode μ = if T 2 = 0 then (kb (f_X2_meet N G f mode μ1) fun m6 => f_X2_comeIn_59 N G f m6) else f_X2_comeIn_59 N G f μ1 := by
    unfold f_X2_comeIn_20
    rw [e208, ckI_p ⟨by omega, by omega⟩, kp_p, gI_s, kb_p z_become4, hμ1, hf1.2.2.2.1.2.2.1, upd1_n (by decide)]
  unfold f_X2_comeIn
  rw [e207]
  unfold ordRes
  by_cases c2 : T 2 = 0
  · rw [if_pos c2, if_pos c2, pre, if_pos c2]
    obtain ⟨tn, htn⟩ : ∃ tn : Nat, t0 = (tn : Int) := ⟨t0.toNat, by omega⟩
    subst htn
    -- the start of the course
    have hcs : cS G ρ f V (upd1 T 4 (T 4 + 1)) D tr (T 3) s (tn : Int) pr (T 4 + 1) z0 (sh4 (gI μ 210 f) (l, tps T, [], 0, 0, 0, z0)) μ1 := by
      refine ⟨⟨A, nx, hf1.cg (fun j hj => ?_) (fun t ht => apD_s hd ht) (fun i w => rfl)⟩, hc1, ?_⟩
      · have hw4 : wOk (upd1 T 4 (T 4 + 1)) := ⟨by rw [upd1_n (by decide)]; exact hw.1, by rw [upd1_n (by decide)]; exact hw.2.1, by rw [upd1_n (by decide)]; exact hw.2.2.1, fun j h1 h2 => by rw [upd1_n (by omega)]; exact hw.2.2.2 j h1 h2⟩
        have e := apT_s (s := s) (t0 := (tn : Int)) hw4 (by rw [upd1_n (by decide)]; exact ho.t10.2) hj
        rw [← e]
        exact apT_cg (fun _ => rfl) (fun q => by show tps T j = tps (upd1 T 4 (T 4 + 1)) j; rw [tps_u q, tps_u q, upd1_n (by omega)]) (fun _ => by show T 3 = upd1 T 4 (T 4 + 1) 3; rw [upd1_n (by decide)]) (fun _ => rfl) (fun _ => rfl) (fun _ => rfl) (fun _ => rfl) (fun _ => ⟨rfl, rfl⟩)
      · show gI μ1 210 f = w32 (0 + gI μ 210 f)
        rw [k210, Int.zero_add, w32_id h210]
    have hI0 : mI (T 1) (tn : Int) (sh4 (gI μ 210 f) (l, tps T, [], 0, 0, 0, z0)) := ⟨tps_uOk ho, ⟨(by show 0 ≤ z0; omega), (by show z0 ≤ 1000; omega)⟩, fun i hi => by cases hi⟩
    obtain ⟨μ2, k1, k2, k3⟩ := z_meet7 (N := N) (L1 := T 1) hy (by rw [upd1_n (by decide)]) (by omega) f2 f5 (by rw [upd1_n (by decide)]; exact ho.t10) hN hI0 hcs
    rw [sh4_run] at k3
    have eY : mRun mode s (T 4 + 1) (tn : Int) (T 1) pr 60 (l, tps T, [], 0, 0, 0, z0) = ordY l T (tn : Int) s pr z0 mode := rfl
    rw [eY] at k3
    generalize ordY l T (tn : Int) s pr z0 mode = Y at *
    obtain ⟨⟨A2, nx2, q1⟩, q2, q3⟩ := k3
    obtain ⟨ν, nx3, r1, r2, r3, r4, r5⟩ := z_rest7 (N := N) hy q1 hYI.1.lo (by omega) q2 f2 (by omega) hYI.2.1.1 (by rw [apT_k (by omega), upd1_n (by decide)]; exact t2)
    have e2 : apT (upd1 T 4 (T 4 + 1)) (sh4 (gI μ 210 f) Y).2.1 (pOf (T 3) (sh4 (gI μ 210 f) Y).2.2.1) (sh4 (gI μ 210 f) Y).2.2.1 (sumW (sh4 (gI μ 210 f) Y).2.2.1) (sh4 (gI μ 210 f) Y).2.2.2.1 (sh4 (gI μ 210 f) Y).2.2.2.2.1 s (tn : Int) 2 = 0 := by rw [apT_k (by omega), upd1_n (by decide)]; exact c2
    have e4 : apT (upd1 T 4 (T 4 + 1)) (sh4 (gI μ 210 f) Y).2.1 (pOf (T 3) (sh4 (gI μ 210 f) Y).2.2.1) (sh4 (gI μ 210 f) Y).2.2.1 (sumW (sh4 (gI μ 210 f) Y).2.2.1) (sh4 (gI μ 210 f) Y).2.2.2.1 (sh4 (gI μ 210 f) Y).2.2.2.2.1 s (tn : Int) 4 = T 4 + 1 := by rw [apT_k (by omega), upd1_s]
    rw [if_pos e2] at r3
    rw [e4] at r1
    refine ⟨ν, by rw [kb_p k1]; exact r1, (d1.tr k2).tr r2, ⟨_, V, nx3, r3⟩, fun _ => ⟨r4, ?_⟩⟩
    rw [r5, q3]
    show w32 (Y.2.2.2.2.2.1 + gI μ 210 f) = _
    rw [Int.add_comm]
  · rw [if_neg c2, if_neg c2, kb2_p full]
    by_cases cF : l.length = 60
    · rw [if_pos cF, if_pos cF, if_neg (by decide)]
      exact ⟨μ, rfl, dRole.rf, ⟨A, V, nx, hf⟩, fun q => absurd q c2⟩
    · rw [if_neg cF, if_neg cF, if_pos rfl, pre, if_neg c2]
      obtain ⟨ν, nx3, r1, r2, r3, r4, r5⟩ := z_rest7 (N := N) hy hf1 hl (by omega) hc1 f2 (by omega) (by omega) (by rw [upd1_n (by decide)]; exact t2)
      rw [upd1_n (by decide), if_neg c2] at r3
      rw [upd1_s] at r1
      have eL : ordL (T 4 + 1) t0 s pr z0 l z0 = l ++ [oMk (T 4 + 1) t0 s pr z0 z0] := if_neg (by omega)
      rw [eL] at r3
      exact ⟨ν, r1, d1.tr r2, ⟨_, V, nx3, r3⟩, fun q => absurd q c2⟩
/-- what the reference's trading leaves of who came in -/
def inS (G : qG) (m : Nat) (μ : qM) (Y : MS) : Prop := gI μ 814 m = w32 (sumW Y.2.2.1) ∧ gI μ 815 m = pOf 0 Y.2.2.1 ∧ gI μ 816 m = w64 (sumY Y.2.2.1) ∧ gI μ 817 m = w32 (Y.2.2.2.2.1 + Y.2.2.2.2.2.1)
def hF (g : Nat) : Prop := g = 804 ∨ g = 805 ∨ (811 ≤ g ∧ g ≤ 817)
theorem z_comes8 (hL : mL G m) (h : mR G m μ l T D tr n B) (h4 : 0 ≤ T 4 ∧ T 4 ≤ 1999999999) :
    ∃ ν, f_X8_comes N G m t0 s μ = some ν ∧ dRf G m hF kAr μ ν ∧ mR G m ν l (upd1 T 4 (T 4 + 1)) D tr n B ∧ mIn m ν (T 4 + 1) t0 s 0 0 0 0 := by
  have h1 := h.T hL (j := 4) (v := T 4 + 1) (by decide) (by decide) (by decide)
  unfold f_X8_comes
  rw [h.2.1 4 (by decide) (by decide), ckI_p ⟨by omega, by omega⟩, kp_p, gA_s, kp_p, kp_p, kp_p, kp_p, kp_p, kp_p, kp_p]
  have q : ∀ {g v} {α : qM}, (811 ≤ g ∧ g ≤ 817) → dRf G m hF kAr α (sI α g m v) := fun hg => dRf.sI (Or.inr (Or.inr hg))
  refine ⟨_, rfl, (((((((dRf.sA (Or.inl rfl)).tr (q (by decide))).tr (q (by decide))).tr (q (by decide))).tr (q (by decide))).tr (q (by decide))).tr (q (by decide))).tr (q (by decide)), ((((((h1.fld (by decide)).fld (by decide)).fld (by decide)).fld (by decide)).fld (by decide)).fld (by decide)).fld (by decide), ?_⟩
  refine ⟨?_, ?_, ?_, ?_, ?_, ?_, ?_⟩ <;> simp [gI_sI]
theorem z_trading8 (hL : mL G m) (ho : mOk l T) (hw : wOk T) (hd : dOk D) (hF' : isForm t0 s pr z0 mode) (h : mR G m μ l T D tr n B) (h4 : T 4 ≤ 1999999999) (hN : 1000 < N) :
    ∃ ν, f_X8_trading N G m t0 s pr z0 mode μ = some (ordR (ordY l T t0 s pr z0 mode).1 (ordY l T t0 s pr z0 mode).2.2.2.2.2.2, ν) ∧ dRf G m hF kAr μ ν ∧
      mR G m ν (ordL (T 4 + 1) t0 s pr z0 (ordY l T t0 s pr z0 mode).1 (ordY l T t0 s pr z0 mode).2.2.2.2.2.2) (ordT (T 4 + 1) s pr z0 (ordY l T t0 s pr z0 mode).1 (ordY l T t0 s pr z0 mode).2.2.2.2.2.2 (ordT0 T (ordY l T t0 s pr z0 mode) s t0)) (apD D (ordY l T t0 s pr z0 mode).2.2.1 (sumY (ordY l T t0 s pr z0 mode).2.2.1) s t0) (apTr tr (ordY l T t0 s pr z0 mode).2.2.1) n B ∧
      gI ν 811 m = T 4 + 1 ∧ inS G m ν (ordY l T t0 s pr z0 mode) := by
  have hYI := ordY_inv ho hF'
  obtain ⟨f1, f2, f3, f4, f5⟩ := hF'
  have h60 := ho.lo.1
  have s6 : (6 + s).toNat = 6 + s.toNat := by omega
  have s8 : (8 + s).toNat = 8 + s.toNat := by omega
  have sb6 : 6 + s.toNat < 24 ∧ 6 + s.toNat ≠ 5 ∧ 6 + s.toNat ≠ 10 ∧ 0 ≠ 6 + s.toNat := by omega
  have sb8 : 8 + s.toNat < 24 ∧ 8 + s.toNat ≠ 5 ∧ 8 + s.toNat ≠ 10 := by omega
  have sc6 : in32 (6 + s) ∧ 0 ≤ 6 + s ∧ 6 + s < 684 := by omega
  have sc8 : in32 (8 + s) ∧ 0 ≤ 8 + s ∧ 8 + s < 684 := by omega
  obtain ⟨μ1, k1, k2, k3, k4⟩ := z_comes8 (N := N) (t0 := t0) (s := s) hL h ⟨ho.t4, h4⟩
  obtain ⟨tn, htn⟩ : ∃ tn : Nat, t0 = (tn : Int) := ⟨t0.toNat, by omega⟩
  subst htn
  have hrs : rS G m (upd1 T 4 (T 4 + 1)) D tr n B (T 3) s (tn : Int) (T 4 + 1) (l, tps T, [], 0, 0, 0, z0) μ1 := by
    refine ⟨k3.cg (fun j hj => ?_) (fun t ht => apD_s hd ht) (fun i w => rfl), k4⟩
    have hw4 : wOk (upd1 T 4 (T 4 + 1)) := ⟨by rw [upd1_n (by decide)]; exact hw.1, by rw [upd1_n (by decide)]; exact hw.2.1, by rw [upd1_n (by decide)]; exact hw.2.2.1, fun j h1 h2 => by rw [upd1_n (by omega)]; exact hw.2.2.2 j h1 h2⟩
    have e := apT_s (s := s) (t0 := (tn : Int)) hw4 (by rw [upd1_n (by decide)]; exact ho.t10.2) hj
    rw [← e]
    exact apT_cg (fun _ => rfl) (fun q => by show tps T j = tps (upd1 T 4 (T 4 + 1)) j; rw [tps_u q, tps_u q, upd1_n (by omega)]) (fun _ => by show T 3 = upd1 T 4 (T 4 + 1) 3; rw [upd1_n (by decide)]) (fun _ => rfl) (fun _ => rfl) (fun _ => rfl) (fun _ => rfl) (fun _ => ⟨rfl, rfl⟩)
  have hI0 : mI (T 1) (tn : Int) (l, tps T, [], 0, 0, 0, z0) := ⟨tps_uOk ho, ⟨(by show 0 ≤ z0; omega), (by show z0 ≤ 1000; omega)⟩, fun i hi => by cases hi⟩
  obtain ⟨μ2, g1, g2, g3⟩ := z_meets8 (N := N) (pr := pr) (L1 := T 1) hL (by rw [upd1_n (by decide)]) (by omega) f2 f5 (by rw [upd1_n (by decide)]; exact ho.t10) hN hI0 hrs
  have eY : mRun mode s (T 4 + 1) (tn : Int) (T 1) pr 60 (l, tps T, [], 0, 0, 0, z0) = ordY l T (tn : Int) s pr z0 mode := rfl
  rw [eY] at g1 g3
  have d2 : dRf G m hF kAr μ μ2 := k2.tr (g2.mono (fun g q => by unfold gF at q; unfold hF; omega) (fun _ q => q))
  generalize ordY l T (tn : Int) s pr z0 mode = Y at *
  obtain ⟨q1, q2⟩ := g3
  have hYl := hYI.1.lo
  have hY60 := hYl.1
  have hYz := hYI.2.1.1
  have e4 : gI μ2 811 m = T 4 + 1 := q2.1
  have hin : ∀ {ν : qM}, (∀ g, gI ν g m = gI μ2 g m) → inS G m ν Y := fun hk => ⟨by rw [hk]; exact q2.2.2.2.1, by rw [hk]; exact q2.2.2.2.2.1, by rw [hk]; exact q2.2.2.2.2.2.1, by rw [hk]; exact q2.2.2.2.2.2.2⟩
  unfold f_X8_trading
  rw [kb_p k1, kb2_p g1]
  have eT0 : apT (upd1 T 4 (T 4 + 1)) Y.2.1 (pOf (T 3) Y.2.2.1) Y.2.2.1 (sumW Y.2.2.1) Y.2.2.2.1 Y.2.2.2.2.1 s (tn : Int) = ordT0 T Y s (tn : Int) := rfl
  rw [eT0] at q1
  have x0 : ordT0 T Y s (tn : Int) 0 = T 0 := by unfold ordT0; rw [apT_k (by omega), upd1_n (by decide)]
  by_cases cz : Y.2.2.2.2.2.2 = 0
  · rw [if_pos cz]
    have eT : ordT (T 4 + 1) s pr z0 Y.1 Y.2.2.2.2.2.2 (ordT0 T Y s (tn : Int)) = ordT0 T Y s (tn : Int) := if_neg (fun q => q.1 (Or.inl cz))
    have eL : ordL (T 4 + 1) (tn : Int) s pr z0 Y.1 Y.2.2.2.2.2.2 = Y.1 := if_pos (Or.inl cz)
    have eR : ordR Y.1 Y.2.2.2.2.2.2 = 0 := if_pos (Or.inl cz)
    rw [eT, eL, eR]
    exact ⟨μ2, rfl, d2, q1, e4, hin (fun _ => rfl)⟩
  · rw [if_neg cz, q1.1.1]
    by_cases cF : Y.1.length = 60
    · rw [if_pos (by omega)]
      have eT : ordT (T 4 + 1) s pr z0 Y.1 Y.2.2.2.2.2.2 (ordT0 T Y s (tn : Int)) = ordT0 T Y s (tn : Int) := if_neg (fun q => q.1 (Or.inr cF))
      have eL : ordL (T 4 + 1) (tn : Int) s pr z0 Y.1 Y.2.2.2.2.2.2 = Y.1 := if_pos (Or.inr cF)
      have eR : ordR Y.1 Y.2.2.2.2.2.2 = 0 := if_pos (Or.inr cF)
      rw [eT, eL, eR]
      exact ⟨μ2, rfl, d2, q1, e4, hin (fun _ => rfl)⟩
    · have nf : ¬ (Y.2.2.2.2.2.2 = 0 ∨ Y.1.length = 60) := fun q => q.elim cz cF
      have eL : ordL (T 4 + 1) (tn : Int) s pr z0 Y.1 Y.2.2.2.2.2.2 = Y.1 ++ [oMk (T 4 + 1) (tn : Int) s pr Y.2.2.2.2.2.2 z0] := if_neg nf
      have eR : ordR Y.1 Y.2.2.2.2.2.2 = Y.2.2.2.2.2.2 := if_neg nf
      obtain ⟨μ3, o1, o2, o3⟩ := z_rests8 (N := N) hL q1 (by omega) (T 4 + 1) (tn : Int) s pr Y.2.2.2.2.2.2 z0
      have d3 : dRf G m hF kAr μ μ3 := d2.tr (o2.rfm (by unfold kAr; omega))
      have o1' : f_X8_rests N G m (gI μ2 811 m) (tn : Int) s pr Y.2.2.2.2.2.2 z0 μ2 = some μ3 := by rw [e4]; exact o1
      have g811 : gI μ3 811 m = T 4 + 1 := by rw [o2.1]; exact e4
      rw [if_neg (by omega), kb2_p (z_bestOf8 q1.1 hYl (by omega)), q1.2.1 0 (by decide) (by decide), x0, kb2_p z_isBetter8, b01_ite, eL, eR]
      have no : ¬ isTop s pr z0 (T 0) Y.1 Y.2.2.2.2.2.2 → ∃ ν, f_X8_trading_77 N G m (tn : Int) s pr z0 Y.2.2.2.2.2.2 μ2 = some (Y.2.2.2.2.2.2, ν) ∧ dRf G m hF kAr μ ν ∧ mR G m ν (Y.1 ++ [oMk (T 4 + 1) (tn : Int) s pr Y.2.2.2.2.2.2 z0]) (ordT (T 4 + 1) s pr z0 Y.1 Y.2.2.2.2.2.2 (ordT0 T Y s (tn : Int))) (apD D Y.2.2.1 (sumY Y.2.2.1) s (tn : Int)) (apTr tr Y.2.2.1) n B ∧ gI ν 811 m = T 4 + 1 ∧ inS G m ν Y := by
        intro nt
        unfold f_X8_trading_77 f_X8_trading_78
        rw [kb_p o1', if_pos rfl]
        refine ⟨μ3, rfl, d3, ?_, g811, hin (fun g => o2.1 g m)⟩
        unfold ordT
        rw [x0, if_neg nt]
        exact o3
      have yes : isTop s pr z0 (T 0) Y.1 Y.2.2.2.2.2.2 → ∃ ν, f_X8_trading_73 N G m (tn : Int) s pr z0 Y.2.2.2.2.2.2 μ2 = some (Y.2.2.2.2.2.2, ν) ∧ dRf G m hF kAr μ ν ∧ mR G m ν (Y.1 ++ [oMk (T 4 + 1) (tn : Int) s pr Y.2.2.2.2.2.2 z0]) (ordT (T 4 + 1) s pr z0 Y.1 Y.2.2.2.2.2.2 (ordT0 T Y s (tn : Int))) (apD D Y.2.2.1 (sumY Y.2.2.1) s (tn : Int)) (apTr tr Y.2.2.1) n B ∧ gI ν 811 m = T 4 + 1 ∧ inS G m ν Y := by
        intro nt
        unfold f_X8_trading_73 f_X8_trading_78
        have a1 := o3.T hL (j := 6 + s.toNat) (v := T 4 + 1) sb6.1 sb6.2.1 sb6.2.2.1
        have e0 : gA (sA μ3 (gR G 800 m) (6 + s.toNat) (T 4 + 1)) (gR G 800 m) 0 = T 0 := by rw [a1.2.1 0 (by decide) (by decide), upd1_n sb6.2.2.2, x0]
        have a2 := a1.T hL (j := 8 + s.toNat) (v := T 0) sb8.1 sb8.2.1 sb8.2.2
        rw [kb_p o1', if_neg (by decide), ckI_p sc6.1, wrA_p sc6.2, s6, g811, ckI_p sc8.1, wrA_p sc8.2, s8, e0]
        refine ⟨_, rfl, (d3.tr (dRf.sA (Or.inl rfl))).tr (dRf.sA (Or.inl rfl)), ?_, ?_, hin (fun g => by rw [gI_sA, gI_sA]; exact o2.1 g m)⟩
        · unfold ordT
          rw [x0, if_pos nt]
          exact a2
        · rw [gI_sA, gI_sA]; exact g811
      by_cases cz0 : Y.2.2.2.2.2.2 = z0
      · rw [if_pos cz0]
        by_cases cg : 0 < T 0
        · rw [if_pos cg]
          by_cases cb : aBest s Y.1 = 0
          · rw [if_pos cb]
            exact yes ⟨nf, cz0, cg, Or.inl cb⟩
          · rw [if_neg cb]
            by_cases ct : aBet s pr (aBest s Y.1) = true
            · rw [if_pos ct]
              exact yes ⟨nf, cz0, cg, Or.inr ct⟩
            · rw [if_neg ct]
              exact no (fun q => q.2.2.2.elim cb ct)
        · rw [if_neg cg]
          exact no (fun q => cg q.2.2.1)
      · rw [if_neg cz0]
        exact no (fun q => cz0 q.2.1)
theorem z_orders8 (hL : mL G m) (ho : mOk l T) (hw : wOk T) (hd : dOk D) (hF' : isForm t0 s pr z0 mode) (h : mR G m μ l T D tr n B) (h4 : T 4 ≤ 1999999999) (hN : 1000 < N) :
    ∃ ν, f_X8_orders N G m t0 s pr z0 mode μ = some ((ordRes l T D tr t0 s pr z0 mode).2.2.2.2, ν) ∧ dRf G m hF kAr μ ν ∧ mR G m ν (ordRes l T D tr t0 s pr z0 mode).1 (ordRes l T D tr t0 s pr z0 mode).2.1 (ordRes l T D tr t0 s pr z0 mode).2.2.1 (ordRes l T D tr t0 s pr z0 mode).2.2.2.1 n B := by
  have hl := ho.lo
  have h60 := hl.1
  have t4 := ho.t4
  unfold f_X8_orders ordRes
  rw [h.2.1 2 (by decide) (by decide)]
  by_cases c2 : T 2 = 0
  · rw [if_pos c2, if_pos c2]
    obtain ⟨ν, k1, k2, k3, k4, k5⟩ := z_trading8 (N := N) hL ho hw hd hF' h h4 hN
    have hYz := (ordY_inv ho hF').2.1.1
    have hr : 0 ≤ ordR (ordY l T t0 s pr z0 mode).1 (ordY l T t0 s pr z0 mode).2.2.2.2.2.2 := by unfold ordR; split <;> omega
    rw [kb2_p k1, if_neg (by omega), k4]
    exact ⟨ν, rfl, k2, k3⟩
  · rw [if_neg c2, if_neg c2, h.1.1]
    by_cases cF : l.length = 60
    · rw [if_pos (by omega), if_pos cF]
      exact ⟨μ, rfl, dRf.rf, h⟩
    · rw [if_neg (by omega), if_neg cF]
      obtain ⟨μ1, k1, k2, k3, k4⟩ := z_comes8 (N := N) (t0 := t0) (s := s) hL h ⟨t4, h4⟩
      obtain ⟨μ2, o1, o2, o3⟩ := z_rests8 (N := N) hL k3 (by omega) (T 4 + 1) t0 s pr z0 z0
      have o1' : f_X8_rests N G m (gI μ1 811 m) t0 s pr z0 z0 μ1 = some μ2 := by rw [k4.1]; exact o1
      rw [kb_p k1, kb_p o1', o2.1, k4.1]
      exact ⟨μ2, rfl, k2.tr (o2.rfm (by unfold kAr; omega)), o3⟩
end ORD
