/-! PURE: an OPEN, in itself -/
theorem aSw_no {T : Nat → Int} (h6 : T 6 = -1) (h7 : T 7 = -1) : ∀ {L : List (Nat → Int)}, (∀ i, i < L.length → oNs (lG L i)) → aSw T L = T := by
  intro L
  induction L with
  | nil => intro _; rfl
  | cons o t ih =>
    intro h
    have ho : oNs o := h 0 (by simp)
    have e : aSwF T o = T := by
      unfold aSwF aGo
      split
      · rfl
      · rcases ho.2 with q | q
        · rw [q, if_neg (show ¬ T (6 + (0 : Int).toNat) = o 0 by show ¬ T 6 = o 0; have := ho.1; omega)]
        · rw [q, if_neg (show ¬ T (6 + (1 : Int).toNat) = o 0 by show ¬ T 7 = o 0; have := ho.1; omega)]
    show aSw (aSwF T o) t = T
    rw [e]
    exact ih (fun i hi => h (i + 1) (by simpa using hi))
section OPI
variable {s p pr L1 v : Int} {l L E lv : List (Nat → Int)} {X : OS} {f : Nat → Int} {kind : Int}
theorem oIv_init (hl : lOk L) (hi : nInc L) (hp : ∀ i, i < L.length → lG L i 2 = s → 0 < lG L i 4) (h0 : 0 ≤ v) (hv : 0 < v → v ≤ aS (wSd s) L) : oIv s (L, E, v, aBest s L) := by
  refine ⟨hl, hi, h0, fun hz => ?_⟩
  have hz' : 0 < v := hz
  have hv' := hv hz'
  have p1 : ∀ i, i < L.length → 1 ≤ lG L i 3 := fun i hi => (hl.2 i hi).2.2.2.1.1
  have mx := (aBest_max (s := s) L 0 p1).2
  have ex : ∃ i, i < L.length ∧ lG L i 2 = s := by
    refine Decidable.byContradiction (fun hn => ?_)
    have : aS (wSd s) L = 0 := aS_none (fun i hi => by unfold wSd; rw [if_neg (fun c => hn ⟨i, hi, c⟩)])
    omega
  obtain ⟨i, hi', c⟩ := ex
  have ne : aBest s L ≠ 0 := (mx i hi' c).1
  exact ⟨hv', ne, (aBest_bd hl ne).2, fun i hi hs _ => (mx i hi hs).2, fun i hi hs _ => hp i hi hs⟩
/-- numbers, sides, prices stay; sizes of the other side too -/
def oKp (s : Int) (L L' : List (Nat → Int)) : Prop := L'.length = L.length ∧ ∀ i, i < L.length → (∀ w, w ≠ 4 → lG L' i w = lG L i w) ∧ (lG L i 2 ≠ s → lG L' i 4 = lG L i 4)
theorem oKp.rf : oKp s L L := ⟨rfl, fun _ _ => ⟨fun _ _ => rfl, fun _ => rfl⟩⟩
theorem oKp.tr {L' L'' : List (Nat → Int)} (h1 : oKp s L L') (h2 : oKp s L' L'') : oKp s L L'' :=
  ⟨h2.1.trans h1.1, fun i hi => ⟨fun w hw => ((h2.2 i (by rw [h1.1]; exact hi)).1 w hw).trans ((h1.2 i hi).1 w hw), fun hs => ((h2.2 i (by rw [h1.1]; exact hi)).2 (by rw [(h1.2 i hi).1 2 (by decide)]; exact hs)).trans ((h1.2 i hi).2 hs)⟩⟩
theorem oKp_step (h : oIv s X) (hL1 : 1 ≤ L1 ∧ L1 ≤ 50) : oKp s X.1 (oStep s pr L1 X).1 := by
  refine ⟨by rw [oStep_1, upL_len], fun i hi => ⟨fun w hw => by rw [oStep_1]; exact upL_o hi hw, fun hs => ?_⟩⟩
  rw [(oStep_sz (pr := pr) h hL1 hi).2.1 (fun q => hs (aAt_e q).1)]
theorem oRun_inv (hL1 : 1 ≤ L1 ∧ L1 ≤ 50) : ∀ (n : Nat) (X : OS), oIv s X → oIv s (oRun s pr L1 n X) ∧ oKp s X.1 (oRun s pr L1 n X).1 := by
  intro n
  induction n with
  | zero => intro X h; exact ⟨h, oKp.rf⟩
  | succ n ih =>
    intro X h
    by_cases c : X.2.2.1 ≤ 0
    · rw [oRun_z c]; exact ⟨h, oKp.rf⟩
    · rw [oRun_s c]
      obtain ⟨a, b⟩ := ih _ (oStep_inv (pr := pr) h hL1 (by omega))
      exact ⟨a, (oKp_step h hL1).tr b⟩
/-! its trades -/
def ePq (pr : Int) (E : List (Nat → Int)) : Prop := ∀ i, i < E.length → lG E i 2 = pr
theorem gEl_pq (hE : ePq pr E) : ∀ k, ePq pr (gEl lv 0 pr f kind E k) := by
  intro k
  induction k with
  | zero => exact hE
  | succ k ih =>
    intro i hi
    revert hi
    show i < (if 0 < f k then tRow (lG lv k) 0 pr (f k) kind :: gEl lv 0 pr f kind E k else gEl lv 0 pr f kind E k).length → lG (if 0 < f k then tRow (lG lv k) 0 pr (f k) kind :: gEl lv 0 pr f kind E k else gEl lv 0 pr f kind E k) i 2 = pr
    by_cases c : 0 < f k
    · rw [if_pos c]
      intro hi
      cases i with
      | zero => rfl
      | succ i => exact ih i (by simpa using hi)
    · rw [if_neg c]; exact ih i
theorem gEl_ne (hE : E ≠ []) : ∀ k, gEl lv 0 pr f kind E k ≠ [] := by
  intro k
  induction k with
  | zero => exact hE
  | succ k ih =>
    show (if 0 < f k then tRow (lG lv k) 0 pr (f k) kind :: gEl lv 0 pr f kind E k else gEl lv 0 pr f kind E k) ≠ []
    split
    · exact fun q => by cases q
    · exact ih
theorem gEl_W : ∀ k, (∀ j, j < k → 0 ≤ f j) → sumW (gEl lv 0 pr f kind E k) = sumW E + sumN f k := by
  intro k
  induction k with
  | zero => intro _; show sumW E = sumW E + 0; omega
  | succ k ih =>
    intro h
    have i1 := ih (fun j hj => h j (by omega))
    have hk := h k (by omega)
    show sumW (if 0 < f k then tRow (lG lv k) 0 pr (f k) kind :: gEl lv 0 pr f kind E k else gEl lv 0 pr f kind E k) = sumW E + (sumN f k + f k)
    by_cases c : 0 < f k
    · rw [if_pos c]
      have e1 : sumW (tRow (lG lv k) 0 pr (f k) kind :: gEl lv 0 pr f kind E k) = f k + sumW (gEl lv 0 pr f kind E k) := rfl
      omega
    · rw [if_neg c]; omega
theorem oStep_pq (h : ePq pr X.2.1) : ePq pr (oStep s pr L1 X).2.1 := by
  unfold oStep
  split
  · exact gEl_pq h _
  · exact gEl_pq (gEl_pq h _) _
theorem oStep_ne (h : X.2.1 ≠ []) : (oStep s pr L1 X).2.1 ≠ [] := by
  unfold oStep
  split
  · exact gEl_ne h _
  · exact gEl_ne (gEl_ne h _) _
theorem oStep_fst (h : oIv s X) (hL1 : 1 ≤ L1 ∧ L1 ≤ 50) (hz : 0 < X.2.2.1) : (oStep s pr L1 X).2.1 ≠ [] := by
  by_cases c0 : X.2.1 = []
  · intro hn
    have w0 : sumW (oStep s pr L1 X).2.1 = 0 := by rw [hn]; rfl
    have w1 : sumW X.2.1 = 0 := by rw [c0]; rfl
    have hv := oIv_v h
    have h' := h
    obtain ⟨h1, h2, h3, h4⟩ := h
    obtain ⟨k1, k2, ⟨i0, hi0, hat⟩, k4, k5⟩ := h4 hz
    have oo := oOk' (s := s) (p := X.2.2.2) (L1 := L1) (X := X) (L := X.1) h1 ⟨h3, hv⟩ hL1
    have sm := oH_sum h' hL1
    have hpos : 0 < aS (wZ s X.2.2.2) X.1 := by
      have := aS_pos (v := wZ s X.2.2.2) (fun j hj => (wZ_bd h1 j hj).1) hi0
      have e : wZ s X.2.2.2 (lG X.1 i0) = lG X.1 i0 4 := by unfold wZ; rw [if_pos hat]
      have := k5 i0 hi0 (aAt_e hat).1 (by rw [(aAt_e hat).2, aBet_ir]; decide)
      omega
    revert w0
    unfold oStep
    by_cases c : aS (wZ s X.2.2.2) X.1 ≤ X.2.2.1
    · rw [if_pos c]
      intro w0
      have e := gEl_W (lv := lvl s X.2.2.2 X.1) (pr := pr) (f := oS s X.2.2.2 X.1) (kind := 3) (E := X.2.1) (lvl s X.2.2.2 X.1).length (fun j hj => (oo.2.1 j hj).1)
      rw [oS_sum] at e
      have : sumW (gEl (lvl s X.2.2.2 X.1) 0 pr (oS s X.2.2.2 X.1) 3 X.2.1 (lvl s X.2.2.2 X.1).length) = 0 := w0
      omega
    · rw [if_neg c]
      intro w0
      have hK : X.2.2.1 ≤ sumN (oS s X.2.2.2 X.1) (lvl s X.2.2.2 X.1).length := by rw [oS_sum]; omega
      have e1 := gEl_W (lv := lvl s X.2.2.2 X.1) (pr := pr) (f := oB s X.2.2.2 L1 X.2.2.1 X.1) (kind := 1) (E := X.2.1) (lvl s X.2.2.2 X.1).length (fun j hj => (shB_le oo hK hj).1)
      have e2 := gEl_W (lv := lvl s X.2.2.2 X.1) (pr := pr) (f := oC s X.2.2.2 L1 X.2.2.1 X.1) (kind := 2) (E := gEl (lvl s X.2.2.2 X.1) 0 pr (oB s X.2.2.2 L1 X.2.2.1 X.1) 1 X.2.1 (lvl s X.2.2.2 X.1).length) (lvl s X.2.2.2 X.1).length (fun j hj => (shC_le oo hK hj).1)
      have e3 : sumN (oH s L1 X) (lvl s X.2.2.2 X.1).length = sumN (oB s X.2.2.2 L1 X.2.2.1 X.1) (lvl s X.2.2.2 X.1).length + sumN (oC s X.2.2.2 L1 X.2.2.1 X.1) (lvl s X.2.2.2 X.1).length := by
        rw [← sumN_add]
        exact sumN_congr (fun i hi => by unfold oH; rw [if_neg c])
      have : sumW (gEl (lvl s X.2.2.2 X.1) 0 pr (oC s X.2.2.2 L1 X.2.2.1 X.1) 2 (gEl (lvl s X.2.2.2 X.1) 0 pr (oB s X.2.2.2 L1 X.2.2.1 X.1) 1 X.2.1 (lvl s X.2.2.2 X.1).length) (lvl s X.2.2.2 X.1).length) = 0 := w0
      omega
  · exact oStep_ne c0
theorem oRun_pq : ∀ (n : Nat) (X : OS), ePq pr X.2.1 → ePq pr (oRun s pr L1 n X).2.1 := by
  intro n
  induction n with
  | zero => intro X h; exact h
  | succ n ih =>
    intro X h
    by_cases c : X.2.2.1 ≤ 0
    · rw [oRun_z c]; exact h
    · rw [oRun_s c]; exact ih _ (oStep_pq h)
theorem oRun_ne : ∀ (n : Nat) (X : OS), X.2.1 ≠ [] → (oRun s pr L1 n X).2.1 ≠ [] := by
  intro n
  induction n with
  | zero => intro X h; exact h
  | succ n ih =>
    intro X h
    by_cases c : X.2.2.1 ≤ 0
    · rw [oRun_z c]; exact h
    · rw [oRun_s c]; exact ih _ (oStep_ne h)
theorem oRun_fst (h : oIv s X) (hL1 : 1 ≤ L1 ∧ L1 ≤ 50) (hz : 0 < X.2.2.1) : (oRun s pr L1 60 X).2.1 ≠ [] := by
  rw [oRun_s (n := 59) (by omega)]
  exact oRun_ne _ _ (oStep_fst h hL1 hz)
theorem pOf_pq {x : Int} (h : ePq pr E) (hn : E ≠ []) : pOf x E = pr := by
  cases E with
  | nil => exact absurd rfl hn
  | cons e t => exact h 0 (by simp)
end OPI
/-! what it leaves: orders, numbers, money, trades -/
def opX (l : List (Nat → Int)) (T : Nat → Int) (p v : Int) : OS := oRun 0 p (T 1) 60 (l, [], v, aBest 0 l)
def opY (l : List (Nat → Int)) (T : Nat → Int) (p v : Int) : OS := oRun 1 p (T 1) 60 ((opX l T p v).1, (opX l T p v).2.1, v, aBest 1 (opX l T p v).1)
def opA (T : Nat → Int) (p : Int) (E : List (Nat → Int)) : Nat → Int := apT (upd1 T 2 0) (tps T) p E 0 0 0 0 0
def opT (T : Nat → Int) (p v : Int) (E : List (Nat → Int)) : Nat → Int := upd1 (opA T p E) 11 (w32 (opA T p E 11 + v))
def opRes (l : List (Nat → Int)) (T D : Nat → Int) (tr : Nat → Nat → Int) (p v : Int) : List (Nat → Int) × (Nat → Int) × (Nat → Int) × (Nat → Nat → Int) :=
  if 0 < v then ((opY l T p v).1.filter aKp, opT T p v (opY l T p v).2.1, apD D (opY l T p v).2.1 0 0 0, apTr tr (opY l T p v).2.1) else (l, upd1 T 2 0, D, tr)
section OPR
variable {p v u : Int} {l : List (Nat → Int)} {T D : Nat → Int} {tr : Nat → Nat → Int}
theorem opV (h : cSp l (T 3) p v u) (hl : lOk l) : 0 ≤ v ∧ v ≤ 60000 ∧ (0 < v → inP p ∧ v ≤ aS (wSd 0) l ∧ v ≤ aS (wSd 1) l) := by
  rcases h with ⟨-, h2, -, -⟩ | ⟨h1, h2, h3, -, -⟩
  · exact ⟨by omega, by omega, fun q => by omega⟩
  · have bs := aBS_bd (p := p) hl
    have le : ∀ {w w' : (Nat → Int) → Int} {L : List (Nat → Int)}, (∀ i, i < L.length → w (lG L i) ≤ w' (lG L i)) → aS w L ≤ aS w' L := by
      intro w w' L
      induction L with
      | nil => intro _; exact Int.le_refl _
      | cons o t ih =>
        intro h
        have h0 : w o ≤ w' o := h 0 (by simp)
        have h1 := ih (fun i hi => h (i + 1) (by simpa using hi))
        rw [aS_cons, aS_cons]
        omega
    have b0 : aBuy l p ≤ aS (wSd 0) l := le (fun i hi => by
      have := (hl.2 i hi).2.2.2.2.1
      unfold wBuy wSd
      split <;> split <;> omega)
    have b1 : aSel l p ≤ aS (wSd 1) l := le (fun i hi => by
      have := (hl.2 i hi).2.2.2.2.1
      unfold wSel wSd
      split <;> split <;> omega)
    have e : cV l p = min (aBuy l p) (aSel l p) := rfl
    exact ⟨by omega, by omega, fun _ => ⟨h1, by omega, by omega⟩⟩
/-- both sides' courses begin well -/
theorem opXY (ho : mOk l T) (h : cSp l (T 3) p v u) (hz : 0 < v) :
    oIv 0 (l, [], v, aBest 0 l) ∧ oIv 1 ((opX l T p v).1, (opX l T p v).2.1, v, aBest 1 (opX l T p v).1) ∧ oIv 1 (opY l T p v) ∧ oKp 0 l (opX l T p v).1 ∧ oKp 1 (opX l T p v).1 (opY l T p v).1 ∧ ePq p (opY l T p v).2.1 ∧ (opY l T p v).2.1 ≠ [] := by
  obtain ⟨v1, v2, v3⟩ := opV h ho.lo
  obtain ⟨-, b0, b1⟩ := v3 hz
  have i0 : oIv 0 (l, [], v, aBest 0 l) := oIv_init ho.lo ho.inc (fun i hi _ => ho.pos i hi) v1 (fun _ => b0)
  obtain ⟨a1, a2⟩ := oRun_inv (pr := p) ho.t1 60 _ i0
  have a2' : oKp 0 l (opX l T p v).1 := a2
  have a1' : oIv 0 (opX l T p v) := a1
  have i1 : oIv 1 ((opX l T p v).1, (opX l T p v).2.1, v, aBest 1 (opX l T p v).1) := by
    refine oIv_init a1'.1 a1'.2.1 (fun i hi hs => ?_) v1 (fun _ => ?_)
    · rw [a2'.1] at hi
      rw [(a2'.2 i hi).1 2 (by decide)] at hs
      rw [(a2'.2 i hi).2 (by omega)]
      exact ho.pos i hi
    · have e : aS (wSd 1) (opX l T p v).1 = aS (wSd 1) l := aS_two a2'.1 (fun i hi => by
        rw [a2'.1] at hi
        unfold wSd
        rw [(a2'.2 i hi).1 2 (by decide)]
        by_cases c : lG l i 2 = 1
        · rw [if_pos c, if_pos c, (a2'.2 i hi).2 (by omega)]
        · rw [if_neg c, if_neg c])
      rw [e]; exact b1
  obtain ⟨c1, c2⟩ := oRun_inv (pr := p) ho.t1 60 _ i1
  refine ⟨i0, i1, c1, a2', c2, oRun_pq _ _ (oRun_pq _ _ (fun i hi => by cases hi)), oRun_ne _ _ (oRun_fst i0 ho.t1 hz)⟩
theorem opRes_ok (ho : mOk l T) (hw : wOk T) (hd : dOk D) (h : cSp l (T 3) p v u) (h2 : T 2 ≠ 0) : mOk (opRes l T D tr p v).1 (opRes l T D tr p v).2.1 ∧ wOk (opRes l T D tr p v).2.1 ∧ dOk (opRes l T D tr p v).2.2.1 ∧ (opRes l T D tr p v).2.1 4 = T 4 := by
  have hc : T 2 = 1 := by have := ho.t2; omega
  have hcal := ho.2.2.2.2.2.2.2.2.2.2.2 hc
  have t0 := ho.t0
  have t1 := ho.t1
  have t3 := ho.t3
  have t4 := ho.t4
  have t10 := ho.t10
  have top := ho.top
  unfold opRes
  by_cases hz : 0 < v
  · rw [if_pos hz]
    obtain ⟨i0, i1, i2, k0, k1, q1, q2⟩ := opXY ho h hz
    have hp := ((opV h ho.lo).2.2 hz).1
    generalize hY : opY l T p v = Y at *
    have hk : Y.1.length = l.length := k1.1.trans k0.1
    have o : ∀ j, (j < 3 ∨ j = 4 ∨ j = 5) → j ≠ 2 → opT T p v Y.2.1 j = T j := fun j hj hn => by unfold opT opA; rw [upd1_n (by omega), apT_k hj, upd1_n hn]
    have o2 : opT T p v Y.2.1 2 = 0 := by unfold opT opA; rw [upd1_n (by decide), apT_k (by omega), upd1_s]
    have o3 : opT T p v Y.2.1 3 = p := by unfold opT opA; rw [upd1_n (by decide), apT_3]
    have o10 : 0 ≤ opT T p v Y.2.1 10 ∧ opT T p v Y.2.1 10 ≤ 60 := by unfold opT opA; rw [upd1_n (by decide), apT_10, upd1_n (by decide)]; omega
    have ot : ∀ j, 6 ≤ j ∧ j ≤ 9 → opT T p v Y.2.1 j = T j := fun j hj => by unfold opT opA; rw [upd1_n (by omega), apT_u hj, tps_u hj]
    refine ⟨⟨i2.1.flt, kp_pos, i2.2.1.flt, ?_, ?_, ?_, ?_, ?_, ?_, o10, ?_, ?_⟩, ?_, ?_, ?_⟩
    · intro j hj
      show _ ≤ opT T p v Y.2.1 4
      rw [o 4 (by omega) (by decide)]
      obtain ⟨-, i, a, -, b⟩ := flt_in hj
      have hi : i < l.length := by rw [← hk]; exact a
      rw [b, (k1.2 i (by rw [k0.1]; exact hi)).1 0 (by decide), (k0.2 i hi).1 0 (by decide)]
      exact ho.le4 i hi
    · show 0 ≤ opT T p v Y.2.1 0 ∧ opT T p v Y.2.1 0 ≤ 1000; rw [o 0 (by omega) (by decide)]; exact t0
    · show 1 ≤ opT T p v Y.2.1 1 ∧ opT T p v Y.2.1 1 ≤ 50; rw [o 1 (by omega) (by decide)]; exact t1
    · exact Or.inl o2
    · show 0 ≤ opT T p v Y.2.1 3 ∧ opT T p v Y.2.1 3 ≤ 9999999; rw [o3]; exact ⟨by have := hp.1; omega, hp.2⟩
    · show 0 ≤ opT T p v Y.2.1 4; rw [o 4 (by omega) (by decide)]; exact t4
    · intro s hs
      show (opT T p v Y.2.1 (6 + s) = -1 ∧ opT T p v Y.2.1 (8 + s) = 0) ∨ (1 ≤ opT T p v Y.2.1 (6 + s) ∧ 1 ≤ opT T p v Y.2.1 (8 + s) ∧ opT T p v Y.2.1 (8 + s) ≤ 1000)
      rw [ot _ (by omega), ot _ (by omega)]
      exact top s hs
    · intro q
      have q' : opT T p v Y.2.1 2 = 1 := q
      omega
    · have w := apT_wOk (T := upd1 T 2 0) (U := tps T) (p := p) (E := Y.2.1) (W := 0) (q2 := 0) (q3 := 0) (s := 0) (t0 := 0)
      show wOk (opT T p v Y.2.1)
      unfold opT
      refine ⟨by rw [upd1_s]; exact w32_in _, by rw [upd1_n (by decide)]; exact w.2.1, by rw [upd1_n (by decide)]; exact w.2.2.1, fun j a b => by rw [upd1_n (by omega)]; exact w.2.2.2 j a b⟩
    · exact apD_ok
    · exact o 4 (by omega) (by decide)
  · rw [if_neg hz]
    refine ⟨⟨ho.lo, ho.pos, ho.inc, ?_, ?_, ?_, Or.inl ?_, ?_, ?_, ?_, ?_, ?_⟩, ?_, hd, ?_⟩
    · intro j hj; show _ ≤ upd1 T 2 0 4; rw [upd1_n (by decide)]; exact ho.le4 j hj
    · show 0 ≤ upd1 T 2 0 0 ∧ upd1 T 2 0 0 ≤ 1000; rw [upd1_n (by decide)]; exact t0
    · show 1 ≤ upd1 T 2 0 1 ∧ upd1 T 2 0 1 ≤ 50; rw [upd1_n (by decide)]; exact t1
    · show upd1 T 2 0 2 = 0; exact upd1_s
    · show 0 ≤ upd1 T 2 0 3 ∧ upd1 T 2 0 3 ≤ 9999999; rw [upd1_n (by decide)]; exact t3
    · show 0 ≤ upd1 T 2 0 4; rw [upd1_n (by decide)]; exact t4
    · show 0 ≤ upd1 T 2 0 10 ∧ upd1 T 2 0 10 ≤ 60; rw [upd1_n (by decide)]; exact t10
    · intro s hs
      show (upd1 T 2 0 (6 + s) = -1 ∧ upd1 T 2 0 (8 + s) = 0) ∨ (1 ≤ upd1 T 2 0 (6 + s) ∧ 1 ≤ upd1 T 2 0 (8 + s) ∧ upd1 T 2 0 (8 + s) ≤ 1000)
      rw [upd1_n (by omega), upd1_n (by omega)]
      exact top s hs
    · intro q
      have q' : upd1 T 2 0 2 = 1 := q
      rw [upd1_s] at q'
      omega
    · show wOk (upd1 T 2 0)
      exact ⟨by rw [upd1_n (by decide)]; exact hw.1, by rw [upd1_n (by decide)]; exact hw.2.1, by rw [upd1_n (by decide)]; exact hw.2.2.1, fun j a b => by rw [upd1_n (by omega)]; exact hw.2.2.2 j a b⟩
    · show upd1 T 2 0 4 = T 4; exact upd1_n (by decide)
end OPR
