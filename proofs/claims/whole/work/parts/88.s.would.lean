/-! PURE: would, worth -/
def aWould (l : List (Nat → Int)) (T : Nat → Int) (t0 s pr z0 mode w : Int) : Int :=
  if aForm t0 s pr z0 mode = true ∧ aDear pr z0 = true ∧ aIn w 0 3 = true then
    (if w = 0 then w32 (sumW (ordY l T t0 s pr z0 mode).2.2.1) else if w = 1 then ordR (ordY l T t0 s pr z0 mode).1 (ordY l T t0 s pr z0 mode).2.2.2.2.2.2 else if w = 2 then pOf 0 (ordY l T t0 s pr z0 mode).2.2.1 else w32 ((ordY l T t0 s pr z0 mode).2.2.2.2.1 + (ordY l T t0 s pr z0 mode).2.2.2.2.2.1)) else -1
def aWorth (l : List (Nat → Int)) (T : Nat → Int) (t0 s pr z0 mode : Int) : Int :=
  if aForm t0 s pr z0 mode = true ∧ aDear pr z0 = true then w64 (sumY (ordY l T t0 s pr z0 mode).2.2.1) else -1
section WOULD
variable {N : Nat} {G : qG} {ρ : Nat → Nat × Nat} {x m : Nat} {μ ν : qM} {l : List (Nat → Int)} {T D : Nat → Int} {tr : Nat → Nat → Int} {n : Nat} {B : Nat → Int} {t0 s pr z0 mode : Int}
/-- after what changes the trial alone -/
theorem cR.tri (hy : cLY G ρ x) (h : cR G ρ x μ l T D tr n B) (hl : l.length ≤ 60) (hd : dRole ρ (gR G 701 x) μ ν) (hs : cSt G ρ (gR G 701 x) ν) : cR G ρ x ν l T D tr n B := by
  obtain ⟨⟨A, V, nx, hf⟩, -, ht⟩ := h
  have ne : gR G 700 x ≠ gR G 701 x := hy.2.2.1
  refine ⟨⟨A, V, nx, hf.fr hy.1 hl (fun g a e => hd.1 g a (by rw [e]; exact ne)) (fun a i e => hd.2.1 a i (by rw [e]; exact ne)) (fun a i e => hd.2.2 a i (by rw [e]; exact ne))⟩, hs, ht.fr hy hy.2.2.2.2.1 hd⟩
theorem cFl.st {f : Nat} (h : cFl G ρ f μ l T D tr) : cSt G ρ f μ := by
  obtain ⟨A, V, nx, h1, h2, h3, h4, h5, h6, h7, h8⟩ := h
  exact ⟨A, V, fun i hi => ⟨(h1.2.1 i hi).1, (h1.2.1 i hi).2, h2 i hi⟩, h1.2.2.1, h7⟩
theorem sPW_0 {E : List (Nat → Int)} {t : Nat} (h : ∀ i, i < E.length → lG E i 5 ≠ (t : Int)) : sPW E t = 0 := by
  unfold sPW
  exact aS_none (fun i hi => if_neg (h i hi))
/-- the trial, in full -/
theorem z_try7 (hy : cLY G ρ x) (h : cR G ρ x μ l T D tr n B) (ho : mOk l T) (hF : isForm t0 s pr z0 mode) (h4 : T 4 ≤ 1999999999) (hN : 1000 < N) :
    ∃ μ1 v ν, f_X2_prepareTrial N G (gR G 701 x) (gR G 700 x) μ = some μ1 ∧ f_X2_comeIn N G (gR G 701 x) t0 s pr z0 mode μ1 = some (v, ν) ∧ cR G ρ x ν l T D tr n B ∧
      gI ν 304 (gR G 201 (gR G 701 x)) = w32 (sumW (ordY l T t0 s pr z0 mode).2.2.1) ∧ gI ν 404 (gR G 204 (gR G 701 x)) = ordR (ordY l T t0 s pr z0 mode).1 (ordY l T t0 s pr z0 mode).2.2.2.2.2.2 ∧ gI ν 303 (gR G 201 (gR G 701 x)) = pOf 0 (ordY l T t0 s pr z0 mode).2.2.1 ∧
      w32 (gI ν 210 (gR G 701 x) + gI ν 211 (gR G 701 x)) = w32 ((ordY l T t0 s pr z0 mode).2.2.2.2.1 + (ordY l T t0 s pr z0 mode).2.2.2.2.2.1) ∧ gA ν (gR G 306 (gR G 201 (gR G 701 x))) t0.toNat = w64 (-(sg s (sumY (ordY l T t0 s pr z0 mode).2.2.1))) := by
  have h60 := ho.lo.1
  have hYI := ordY_inv ho hF
  obtain ⟨μ1, a1, a2, a3, a4⟩ := z_prepare (N := N) hy.1 hy.2.1 hy.2.2.1 h.1 h.2.1 h60 (by omega)
  obtain ⟨ν, b1, b2, b3, b4⟩ := z_comeIn (N := N) hy.2.1 (trT_mOk ho) trT_wOk (fun t _ => by decide) hF a3 (by rw [a4]; decide) (by rw [trT_y (by omega)]; exact h4) hN
  have c2 : trT T 2 = 0 := trT_n (by omega)
  obtain ⟨b5, b6⟩ := b4 c2
  rw [trT_Y] at b5 b6
  rw [a4, Int.zero_add] at b6
  have hcr := h.tri hy h60 (a2.tr b2) b3.st
  unfold ordRes at b3
  rw [if_pos c2, trT_Y] at b3
  obtain ⟨A, V, nx, g1, g2, g3, g4, g5, g6, g7, g8⟩ := b3
  obtain ⟨f1, f2, f3, f4, f5⟩ := hF
  refine ⟨μ1, _, ν, a1, b1, hcr, ?_, b5, ?_, ?_, ?_⟩
  · rw [g5.2.2.1]
    show ordT (trT T 4 + 1) s pr z0 _ _ (ordT0 (trT T) _ s t0) 11 = _
    have e : ∀ X z L, ordT (trT T 4 + 1) s pr z0 L z X 11 = X 11 := fun X z L => by
      unfold ordT; split
      · rw [upd1_n (by omega), upd1_n (by omega)]
      · rfl
    rw [e]
    unfold ordT0
    rw [apT_11, upd1_n (by decide), trT_n (by omega), Int.zero_add]
  · rw [g5.1]
    show ordT (trT T 4 + 1) s pr z0 _ _ (ordT0 (trT T) _ s t0) 3 = _
    have e : ∀ X z L, ordT (trT T 4 + 1) s pr z0 L z X 3 = X 3 := fun X z L => by
      unfold ordT; split
      · rw [upd1_n (by omega), upd1_n (by omega)]
      · rfl
    rw [e]
    unfold ordT0
    rw [apT_3, trT_n (by omega)]
  · rw [b6, g4.2.2.2.2.2]
    show w32 (w32 _ + ordT (trT T 4 + 1) s pr z0 _ _ (ordT0 (trT T) _ s t0) 13) = _
    have e : ∀ X z L, ordT (trT T 4 + 1) s pr z0 L z X 13 = X 13 := fun X z L => by
      unfold ordT; split
      · rw [upd1_n (by omega), upd1_n (by omega)]
      · rfl
    rw [e]
    unfold ordT0
    rw [apT_13, upd1_n (by decide), trT_n (by omega), Int.zero_add, w32_l, Int.add_comm, w32_l]
  · rw [(g6 t0.toNat (by omega)).2]
    show apD (fun _ => 0) (ordY l T t0 s pr z0 mode).2.2.1 (sumY (ordY l T t0 s pr z0 mode).2.2.1) s t0 t0.toNat = _
    unfold apD
    rw [sPW_0 (fun i hi => by have := hYI.2.2 i hi; omega), if_pos (by omega)]
    show w64 ((0 : Int) - 0 - sg s (sumY (ordY l T t0 s pr z0 mode).2.2.1)) = _
    congr 1
    omega
theorem z_would7 (hy : cLY G ρ x) (h : cR G ρ x μ l T D tr n B) (ho : mOk l T) (h4 : T 4 ≤ 1999999999) (hN : 1000 < N) (w : Int) :
    ∃ ν, f_X7_would N G x t0 s pr z0 mode w μ = some (aWould l T t0 s pr z0 mode w, ν) ∧ cR G ρ x ν l T D tr n B := by
  unfold f_X7_would aWould
  rw [kb2_p z_isForm7, b01_ite]
  by_cases c : aForm t0 s pr z0 mode = true
  · have hF := aForm_t c
    rw [if_pos c, kb2_p (z_isWorthInt7 hF.2.2.1 hF.2.2.2.1), b01_ite]
    by_cases d : aDear pr z0 = true
    · obtain ⟨μ1, v, ν, k1, k2, k3, k4, k5, k6, k7, k8⟩ := z_try7 (N := N) hy h ho hF h4 hN
      rw [if_pos d, kb_p k1, kb2_p k2, k4, k5, k6, kp_p, k7]
      refine ⟨ν, ?_, k3⟩
      by_cases e : 0 ≤ w ∧ w ≤ 3
      · have hc : aForm t0 s pr z0 mode = true ∧ aDear pr z0 = true ∧ aIn w 0 3 = true := ⟨c, d, decide_eq_true e⟩
        rw [if_pos hc]
        by_cases w0 : w = 0
        · rw [if_pos w0, if_pos w0]
        · by_cases w1 : w = 1
          · rw [if_neg w0, if_pos w1, if_neg w0, if_pos w1]
          · by_cases w2 : w = 2
            · rw [if_neg w0, if_neg w1, if_pos w2, if_neg w0, if_neg w1, if_pos w2]
            · rw [if_neg w0, if_neg w1, if_neg w2, if_pos (by omega), if_neg w0, if_neg w1, if_neg w2]
      · rw [if_neg (show ¬ (aForm t0 s pr z0 mode = true ∧ aDear pr z0 = true ∧ aIn w 0 3 = true) from fun q => e (of_decide_eq_true q.2.2)), if_neg (by omega), if_neg (by omega), if_neg (by omega), if_neg (by omega)]
    · rw [if_neg d, if_neg (fun q => d q.2.1)]; exact ⟨μ, rfl, h⟩
  · rw [if_neg c, if_neg (fun q => c q.1)]; exact ⟨μ, rfl, h⟩
theorem z_worth7 (hy : cLY G ρ x) (h : cR G ρ x μ l T D tr n B) (ho : mOk l T) (h4 : T 4 ≤ 1999999999) (hN : 1000 < N) :
    ∃ ν, f_X7_worth N G x t0 s pr z0 mode μ = some (aWorth l T t0 s pr z0 mode, ν) ∧ cR G ρ x ν l T D tr n B := by
  unfold f_X7_worth aWorth
  rw [kb2_p z_isForm7, b01_ite]
  by_cases c : aForm t0 s pr z0 mode = true
  · have hF := aForm_t c
    rw [if_pos c, kb2_p (z_isWorthInt7 hF.2.2.1 hF.2.2.2.1), b01_ite]
    by_cases d : aDear pr z0 = true
    · obtain ⟨μ1, v, ν, k1, k2, k3, k4, k5, k6, k7, k8⟩ := z_try7 (N := N) hy h ho hF h4 hN
      have f1 := hF.1
      have hc : aForm t0 s pr z0 mode = true ∧ aDear pr z0 = true := ⟨c, d⟩
      rw [if_pos d, kb_p k1, kb2_p k2, rdA_p ⟨by omega, by omega⟩, k8, if_pos hc]
      refine ⟨ν, ?_, k3⟩
      have e2 : w64 (-w64 (-(sumY (ordY l T t0 s pr z0 mode).2.2.1))) = w64 (sumY (ordY l T t0 s pr z0 mode).2.2.1) := by
        have := w64_ls (a := -(sumY (ordY l T t0 s pr z0 mode).2.2.1)) (b := 0)
        have e3 : w64 (0 - w64 (-(sumY (ordY l T t0 s pr z0 mode).2.2.1))) = w64 (0 - -(sumY (ordY l T t0 s pr z0 mode).2.2.1)) := by unfold w64; simp
        rw [Int.zero_sub, Int.zero_sub, Int.neg_neg] at e3
        exact e3
      by_cases s0 : s = 0
      · rw [if_pos s0, kp_p]
        unfold sg
        rw [if_pos s0, e2]
      · rw [if_neg s0]
        unfold sg
        rw [if_neg s0, Int.neg_neg]
    · rw [if_neg d, if_neg (fun q => d q.2)]; exact ⟨μ, rfl, h⟩
  · rw [if_neg c, if_neg (fun q => c q.1)]; exact ⟨μ, rfl, h⟩
/-! the reference puts all aside, and back -/
theorem z_putsAside8 (hL : mL G m) (hN : 1000 < N) :
    ∃ ν, f_X8_putsAside N G m μ = some ν ∧ dRf G m (fun _ => False) (fun a => a = 801 ∨ a = 803) μ ν ∧ (∀ j, j < 684 → gA ν (gR G 801 m) j = gA μ (gR G 800 m) j) ∧ ∀ t, t < 10 → gA ν (gR G 803 m) t = gA μ (gR G 802 m) t := by
  have n01 : gR G 800 m ≠ gR G 801 m := hL.ne (by decide) (by decide) (by decide)
  have n21 : gR G 802 m ≠ gR G 801 m := hL.ne (by decide) (by decide) (by decide)
  have n23 : gR G 802 m ≠ gR G 803 m := hL.ne (by decide) (by decide) (by decide)
  have n13 : gR G 801 m ≠ gR G 803 m := hL.ne (by decide) (by decide) (by decide)
  obtain ⟨w1, w2, w3, w4, w5⟩ := wrM_at (μ := μ) (a := gR G 801 m) (f := fun j => gA μ (gR G 800 m) j) 684
  generalize hμ1 : wrM μ (gR G 801 m) (fun j => gA μ (gR G 800 m) j) 684 = μ1 at *
  obtain ⟨v1, v2, v3, v4, v5⟩ := wrM_at (μ := μ1) (a := gR G 803 m) (f := fun t => gA μ (gR G 802 m) t) 10
  refine ⟨wrM μ1 (gR G 803 m) (fun t => gA μ (gR G 802 m) t) 10, ?_, ⟨fun g a _ => (v1 g a).trans (w1 g a), fun a i hx => (v3 a i (hx 803 (Or.inr rfl))).trans (w3 a i (hx 801 (Or.inl rfl))), fun a i => (v2 a i).trans (w2 a i)⟩, fun j hj => by rw [v3 _ _ n13]; exact w4 j hj, fun t ht => v4 t ht⟩
  have L2 : f_X8_putsAside_L29 N G m 0 μ1 = some (wrM μ1 (gR G 803 m) (fun t => gA μ (gR G 802 m) t) 10) := by
    unfold f_X8_putsAside_L29
    refine qLoop_end (fun j => (m, (j : Int), wrM μ1 (gR G 803 m) (fun t => gA μ (gR G 802 m) t) j)) 10 N (by omega) (fun j hj k => ?_) (fun k => ?_)
    · show f_X8_putsAside_29 N G _ m (j : Int) (wrM μ1 (gR G 803 m) (fun t => gA μ (gR G 802 m) t) j) = _
      obtain ⟨x1, x2, x3, x4, x5⟩ := wrM_at (μ := μ1) (a := gR G 803 m) (f := fun t => gA μ (gR G 802 m) t) j
      unfold f_X8_putsAside_29
      rw [if_pos (by omega), rdA_p ⟨by omega, by omega⟩, wrA_p ⟨by omega, by omega⟩, Int.toNat_natCast, x3 _ _ n23, w3 _ _ n21, ckI_p ⟨by omega, by omega⟩, cast1]
      rfl
    · show f_X8_putsAside_29 N G _ m ((10 : Nat) : Int) _ = _
      unfold f_X8_putsAside_29
      rw [if_neg (by decide)]
  unfold f_X8_putsAside f_X8_putsAside_L2
  refine qLoop_end (fun j => (m, (j : Int), wrM μ (gR G 801 m) (fun j => gA μ (gR G 800 m) j) j)) 684 N (by omega) (fun j hj k => ?_) (fun k => ?_)
  · show f_X8_putsAside_2 N G _ m (j : Int) (wrM μ (gR G 801 m) (fun j => gA μ (gR G 800 m) j) j) = _
    obtain ⟨x1, x2, x3, x4, x5⟩ := wrM_at (μ := μ) (a := gR G 801 m) (f := fun j => gA μ (gR G 800 m) j) j
    unfold f_X8_putsAside_2
    rw [if_pos (by omega), rdA_p ⟨by omega, by omega⟩, wrA_p ⟨by omega, by omega⟩, Int.toNat_natCast, x3 _ _ n01, ckI_p ⟨by omega, by omega⟩, cast1]
    rfl
  · show f_X8_putsAside_2 N G _ m ((684 : Nat) : Int) _ = _
    unfold f_X8_putsAside_2
    rw [if_neg (by decide), hμ1]
    exact L2
theorem z_putsBack8 (hL : mL G m) (hN : 1000 < N) :
    ∃ ν, f_X8_putsBack N G m μ = some ν ∧ dRf G m (fun _ => False) (fun a => a = 800 ∨ a = 802) μ ν ∧ (∀ j, j < 684 → gA ν (gR G 800 m) j = gA μ (gR G 801 m) j) ∧ ∀ t, t < 10 → gA ν (gR G 802 m) t = gA μ (gR G 803 m) t := by
  have n01 : gR G 801 m ≠ gR G 800 m := hL.ne (by decide) (by decide) (by decide)
  have n21 : gR G 803 m ≠ gR G 800 m := hL.ne (by decide) (by decide) (by decide)
  have n23 : gR G 803 m ≠ gR G 802 m := hL.ne (by decide) (by decide) (by decide)
  have n13 : gR G 800 m ≠ gR G 802 m := hL.ne (by decide) (by decide) (by decide)
  obtain ⟨w1, w2, w3, w4, w5⟩ := wrM_at (μ := μ) (a := gR G 800 m) (f := fun j => gA μ (gR G 801 m) j) 684
  generalize hμ1 : wrM μ (gR G 800 m) (fun j => gA μ (gR G 801 m) j) 684 = μ1 at *
  obtain ⟨v1, v2, v3, v4, v5⟩ := wrM_at (μ := μ1) (a := gR G 802 m) (f := fun t => gA μ (gR G 803 m) t) 10
  refine ⟨wrM μ1 (gR G 802 m) (fun t => gA μ (gR G 803 m) t) 10, ?_, ⟨fun g a _ => (v1 g a).trans (w1 g a), fun a i hx => (v3 a i (hx 802 (Or.inr rfl))).trans (w3 a i (hx 800 (Or.inl rfl))), fun a i => (v2 a i).trans (w2 a i)⟩, fun j hj => by rw [v3 _ _ n13]; exact w4 j hj, fun t ht => v4 t ht⟩
  have L2 : f_X8_putsBack_L29 N G m 0 μ1 = some (wrM μ1 (gR G 802 m) (fun t => gA μ (gR G 803 m) t) 10) := by
    unfold f_X8_putsBack_L29
    refine qLoop_end (fun j => (m, (j : Int), wrM μ1 (gR G 802 m) (fun t => gA μ (gR G 803 m) t) j)) 10 N (by omega) (fun j hj k => ?_) (fun k => ?_)
    · show f_X8_putsBack_29 N G _ m (j : Int) (wrM μ1 (gR G 802 m) (fun t => gA μ (gR G 803 m) t) j) = _
      obtain ⟨x1, x2, x3, x4, x5⟩ := wrM_at (μ := μ1) (a := gR G 802 m) (f := fun t => gA μ (gR G 803 m) t) j
      unfold f_X8_putsBack_29
      rw [if_pos (by omega), rdA_p ⟨by omega, by omega⟩, wrA_p ⟨by omega, by omega⟩, Int.toNat_natCast, x3 _ _ n23, w3 _ _ n21, ckI_p ⟨by omega, by omega⟩, cast1]
      rfl
    · show f_X8_putsBack_29 N G _ m ((10 : Nat) : Int) _ = _
      unfold f_X8_putsBack_29
      rw [if_neg (by decide)]
  unfold f_X8_putsBack f_X8_putsBack_L2
  refine qLoop_end (fun j => (m, (j : Int), wrM μ (gR G 800 m) (fun j => gA μ (gR G 801 m) j) j)) 684 N (by omega) (fun j hj k => ?_) (fun k => ?_)
  · show f_X8_putsBack_2 N G _ m (j : Int) (wrM μ (gR G 800 m) (fun j => gA μ (gR G 801 m) j) j) = _
    obtain ⟨x1, x2, x3, x4, x5⟩ := wrM_at (μ := μ) (a := gR G 800 m) (f := fun j => gA μ (gR G 801 m) j) j
    unfold f_X8_putsBack_2
    rw [if_pos (by omega), rdA_p ⟨by omega, by omega⟩, wrA_p ⟨by omega, by omega⟩, Int.toNat_natCast, x3 _ _ n01, ckI_p ⟨by omega, by omega⟩, cast1]
    rfl
  · show f_X8_putsBack_2 N G _ m ((684 : Nat) : Int) _ = _
    unfold f_X8_putsBack_2
    rw [if_neg (by decide), hμ1]
    exact L2
theorem mR.same (h : mR G m μ l T D tr n B) (hn : l.length ≤ 60) (h10 : T 10 ≤ 60) (hX : ∀ j, j < 684 → gA ν (gR G 800 m) j = gA μ (gR G 800 m) j) (hM : ∀ t, t < 10 → gA ν (gR G 802 m) t = gA μ (gR G 802 m) t) (hI : gI ν 822 m = gI μ 822 m) (hB : ∀ j, gA ν (gR G 821 m) j = gA μ (gR G 821 m) j) : mR G m ν l T D tr n B :=
  ⟨⟨by rw [hX _ (by decide)]; exact h.1.1, fun i k hi hk => by rw [hX _ (by omega)]; exact h.1.2 i k hi hk⟩, fun j a b => by rw [hX _ (by omega)]; exact h.2.1 j a b, fun t ht => by rw [hM t ht]; exact h.2.2.1 t ht, fun i w hi hw => by rw [hX _ (by omega)]; exact h.2.2.2.1 i w hi hw, by rw [hI]; exact h.2.2.2.2.1, h.2.2.2.2.2.1, fun j hj => by rw [hB]; exact h.2.2.2.2.2.2 j hj⟩
theorem z_try8 (hL : mL G m) (h : mR G m μ l T D tr n B) (ho : mOk l T) (hw : wOk T) (hd : dOk D) (hF' : isForm t0 s pr z0 mode) (h4 : T 4 ≤ 1999999999) (hN : 1000 < N) :
    ∃ μ1 μ2 ν, f_X8_putsAside N G m μ = some μ1 ∧ f_X8_trading N G m t0 s pr z0 mode μ1 = some (ordR (ordY l T t0 s pr z0 mode).1 (ordY l T t0 s pr z0 mode).2.2.2.2.2.2, μ2) ∧ f_X8_putsBack N G m μ2 = some ν ∧ mR G m ν l T D tr n B ∧ inS G m ν (ordY l T t0 s pr z0 mode) := by
  have h60 := ho.lo.1
  obtain ⟨μ1, a1, a2, a3, a4⟩ := z_putsAside8 (N := N) (μ := μ) hL hN
  have nn : ∀ g, (g = 800 ∨ g = 802 ∨ g = 821) → ∀ f, (f = 801 ∨ f = 803) → gR G g m ≠ gR G f m := by
    intro g hg f hf
    rcases hg with rfl | rfl | rfl <;> rcases hf with rfl | rfl <;> exact hL.ne (by decide) (by decide) (by decide)
  have h1 : mR G m μ1 l T D tr n B := h.same h60 ho.t10.2 (fun j _ => a2.2.1 _ _ (nn 800 (by decide))) (fun t _ => a2.2.1 _ _ (nn 802 (by decide))) (a2.1 _ _ (fun q => q.2)) (fun j => a2.2.1 _ _ (nn 821 (by decide)))
  obtain ⟨μ2, b1, b2, -, -, b5⟩ := z_trading8 (N := N) hL ho hw hd hF' h1 h4 hN
  obtain ⟨ν, c1, c2, c3, c4⟩ := z_putsBack8 (N := N) (μ := μ2) hL hN
  have nk : ∀ g, (g = 801 ∨ g = 803 ∨ g = 821) → ∀ f, kAr f → gR G g m ≠ gR G f m := by
    intro g hg f hf
    unfold kAr at hf
    have hf' : f = 800 ∨ f = 802 ∨ f = 806 ∨ f = 807 ∨ f = 808 ∨ f = 809 ∨ f = 810 := by omega
    rcases hg with rfl | rfl | rfl <;> rcases hf' with rfl | rfl | rfl | rfl | rfl | rfl | rfl <;> exact hL.ne (by decide) (by decide) (by decide)
  have n2 : ∀ f, (f = 800 ∨ f = 802) → gR G 821 m ≠ gR G f m := by
    intro f hf
    rcases hf with rfl | rfl <;> exact hL.ne (by decide) (by decide) (by decide)
  refine ⟨μ1, μ2, ν, a1, b1, c1, ?_, ?_⟩
  · refine h.same h60 ho.t10.2 (fun j hj => ?_) (fun t ht => ?_) ?_ (fun j => ?_)
    · rw [c3 j hj, b2.2.1 _ _ (nk 801 (by decide)), a3 j hj]
    · rw [c4 t ht, b2.2.1 _ _ (nk 803 (by decide)), a4 t ht]
    · rw [c2.1 _ _ (fun q => q.2), b2.1 _ _ (fun q => by have := q.2; unfold hF at this; omega), a2.1 _ _ (fun q => q.2)]
    · rw [c2.2.1 _ _ n2, b2.2.1 _ _ (nk 821 (by decide)), a2.2.1 _ _ (nn 821 (by decide))]
  · obtain ⟨i1, i2, i3, i4⟩ := b5
    have k : ∀ g, gI ν g m = gI μ2 g m := fun g => c2.1 _ _ (fun q => q.2)
    exact ⟨by rw [k]; exact i1, by rw [k]; exact i2, by rw [k]; exact i3, by rw [k]; exact i4⟩
theorem z_would8 (hL : mL G m) (h : mR G m μ l T D tr n B) (ho : mOk l T) (hw : wOk T) (hd : dOk D) (h4 : T 4 ≤ 1999999999) (hN : 1000 < N) (w : Int) :
    ∃ ν, f_X8_would N G m t0 s pr z0 mode w μ = some (aWould l T t0 s pr z0 mode w, ν) ∧ mR G m ν l T D tr n B := by
  have h1 := h.fld (f := 804) (a := m) (v := 0) (by decide)
  unfold f_X8_would aWould
  rw [kp_p, kb2_p z_isOrder8, b01_ite]
  by_cases c : aForm t0 s pr z0 mode = true
  · have hF := aForm_t c
    rw [if_pos c, kb2_p (z_isInt8 hF.2.2.1 hF.2.2.2.1), b01_ite]
    by_cases d : aDear pr z0 = true
    · rw [if_pos d, kb2_p z_within8, b01_ite]
      by_cases e : aIn w 0 3 = true
      · obtain ⟨μ1, μ2, ν, k1, k2, k3, k4, k5⟩ := z_try8 (N := N) hL h1 ho hw hd hF h4 hN
        obtain ⟨i1, i2, i3, i4⟩ := k5
        rw [if_pos e, if_pos ⟨c, d, e⟩, kb_p k1, kb2_p k2, kb_p k3, i1, i2, i4]
        refine ⟨ν, ?_, k4⟩
        rw [ite_some, ite_some, ite_some]
      · rw [if_neg e, if_neg (fun q => e q.2.2)]; exact ⟨_, rfl, h1⟩
    · rw [if_neg d, if_neg (fun q => d q.2.1)]; exact ⟨_, rfl, h1⟩
  · rw [if_neg c, if_neg (fun q => c q.1)]; exact ⟨_, rfl, h1⟩
theorem z_worth8 (hL : mL G m) (h : mR G m μ l T D tr n B) (ho : mOk l T) (hw : wOk T) (hd : dOk D) (h4 : T 4 ≤ 1999999999) (hN : 1000 < N) :
    ∃ ν, f_X8_worth N G m t0 s pr z0 mode μ = some (aWorth l T t0 s pr z0 mode, ν) ∧ mR G m ν l T D tr n B := by
  have h1 := h.fld (f := 804) (a := m) (v := 0) (by decide)
  unfold f_X8_worth aWorth
  rw [kp_p, kb2_p z_isOrder8, b01_ite]
  by_cases c : aForm t0 s pr z0 mode = true
  · have hF := aForm_t c
    rw [if_pos c, kb2_p (z_isInt8 hF.2.2.1 hF.2.2.2.1), b01_ite]
    by_cases d : aDear pr z0 = true
    · obtain ⟨μ1, μ2, ν, k1, k2, k3, k4, k5⟩ := z_try8 (N := N) hL h1 ho hw hd hF h4 hN
      obtain ⟨i1, i2, i3, i4⟩ := k5
      have hYz := (ordY_inv ho hF).2.1.1
      have hr : 0 ≤ ordR (ordY l T t0 s pr z0 mode).1 (ordY l T t0 s pr z0 mode).2.2.2.2.2.2 := by unfold ordR; split <;> omega
      rw [if_pos d, if_pos ⟨c, d⟩, kb_p k1, kb2_p k2, kb_p k3, if_neg (by omega), i3]
      exact ⟨ν, rfl, k4⟩
    · rw [if_neg d, if_neg (fun q => d q.2)]; exact ⟨_, rfl, h1⟩
  · rw [if_neg c, if_neg (fun q => c q.1)]; exact ⟨_, rfl, h1⟩
end WOULD
