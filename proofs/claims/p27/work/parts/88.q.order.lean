/-! PURE: order() on both sides; the market stays in order -/
def nmB (M : Int) (L : List (Nat → Int)) : Prop := ∀ i, i < L.length → lG L i 0 ≤ M
def ePr (E : List (Nat → Int)) : Prop := ∀ i, i < E.length → 1 ≤ lG E i 2 ∧ lG E i 2 ≤ 9999999
section NM
variable {mode s num t0 L1 pr b M : Int} {X : MS} {l : List (Nat → Int)}
theorem nmB.flt {p : (Nat → Int) → Bool} (h : nmB M l) : nmB M (l.filter p) := by
  intro i hi
  obtain ⟨-, j, h2, -, h4⟩ := flt_in hi
  rw [h4]; exact h j h2
theorem nmB.sz {f : Nat → Int} (h : nmB M l) : nmB M (szs l f) := by
  intro i hi
  rw [szs_len] at hi
  rw [szs_o hi (by decide)]; exact h i hi
theorem gE_pr {J : List Nat} {came p : Int} {v : Nat → Int} {kind : Int} {E : List (Nat → Int)} (hE : ePr E) (hp : 1 ≤ p ∧ p ≤ 9999999) : ∀ k, ePr (gE l J came p v kind E k) := by
  intro k
  induction k with
  | zero => exact hE
  | succ k ih =>
    show ePr (if 0 < v k then tRow (lG l (jG J k)) came p (v k) kind :: gE l J came p v kind E k else gE l J came p v kind E k)
    split
    · intro i hi
      cases i with
      | zero => exact hp
      | succ i => exact ih i (by simpa using hi)
    · exact ih
theorem mStep_nm (hb : 1 ≤ b ∧ b ≤ 9999999) (h : nmB M X.1 ∧ ePr X.2.2.1) : nmB M (mStep mode s num t0 L1 b X).1 ∧ ePr (mStep mode s num t0 L1 b X).2.2.1 := by
  have h1 : nmB M (mPrev mode s t0 b X).1 := h.1.sz.flt
  have h2 : ePr (mPrev mode s t0 b X).2.2.1 := h.2
  unfold mStep
  generalize mPrev mode s t0 b X = X1 at *
  unfold mTake
  split
  · exact ⟨h1.sz.flt, gE_pr (gE_pr (gE_pr h2 hb _) hb _) hb _⟩
  · exact ⟨h1, h2⟩
theorem mRun_nm (hm : 0 ≤ mode ∧ mode ≤ 3) (hs : s = 0 ∨ s = 1) : ∀ (n : Nat) (X : MS), mI L1 t0 X → nmB M X.1 ∧ ePr X.2.2.1 → nmB M (mRun mode s num t0 L1 pr n X).1 ∧ ePr (mRun mode s num t0 L1 pr n X).2.2.1 := by
  intro n
  induction n with
  | zero => intro X _ h; exact h
  | succ n ih =>
    intro X hI h
    by_cases hz : X.2.2.2.2.2.2 ≤ 0
    · rw [mRun_z hz]; exact h
    · by_cases hb : aBest (1 - s) X.1 = 0 ∨ aBet (1 - s) pr (aBest (1 - s) X.1) = true
      · rw [mRun_b hb]; exact h
      · rw [mRun_s hz hb]
        exact ih _ (mStep_inv hm hs hI) (mStep_nm (aBest_bd hI.1.lo (fun q => hb (Or.inl q))).1 h)
theorem pOf_bd {E : List (Nat → Int)} {x : Int} (h : ePr E) (hx : 0 ≤ x ∧ x ≤ 9999999) : 0 ≤ pOf x E ∧ pOf x E ≤ 9999999 := by
  cases E with
  | nil => exact hx
  | cons e t => have := h 0 (by simp); show 0 ≤ e 2 ∧ e 2 ≤ 9999999; have e' : lG (e :: t) 0 = e := rfl; rw [e'] at this; omega
end NM
section ORDOK
variable {l : List (Nat → Int)} {T D : Nat → Int} {tr : Nat → Nat → Int} {t0 s pr z0 mode : Int}
theorem app_ok {num z : Int} (hl : lOk l) (hn : l.length < 60) (hp : ∀ j, j < l.length → 0 < lG l j 4) (hi : nInc l) (hm : ∀ j, j < l.length → lG l j 0 < num) (hnum : 1 ≤ num ∧ num ≤ 2000000000) (f1 : 0 ≤ t0 ∧ t0 ≤ 9) (f2 : s = 0 ∨ s = 1) (f3 : 1 ≤ pr ∧ pr ≤ 9999999) (hz : 1 ≤ z ∧ z ≤ 1000) (f4 : 1 ≤ z0 ∧ z0 ≤ 1000) :
    lOk (l ++ [oMk num t0 s pr z z0]) ∧ (∀ j, j < (l ++ [oMk num t0 s pr z z0]).length → 0 < lG (l ++ [oMk num t0 s pr z z0]) j 4) ∧ nInc (l ++ [oMk num t0 s pr z z0]) ∧ ∀ j, j < (l ++ [oMk num t0 s pr z z0]).length → lG (l ++ [oMk num t0 s pr z z0]) j 0 ≤ num := by
  have el : (l ++ [oMk num t0 s pr z z0]).length = l.length + 1 := by rw [List.length_append]; rfl
  refine ⟨⟨by omega, fun i hi => ?_⟩, fun i hi => ?_, fun i j hij hj => ?_, fun i hi => ?_⟩
  · rw [el] at hi
    rw [lG_app]
    by_cases c : i = l.length
    · rw [if_pos c]
      exact ⟨hnum, f1, f2, f3, ⟨(by show 0 ≤ z; omega), hz.2⟩, f4⟩
    · rw [if_neg c]; exact hl.2 i (by omega)
  · rw [el] at hi
    rw [lG_app]
    by_cases c : i = l.length
    · rw [if_pos c]; show 0 < z; omega
    · rw [if_neg c]; exact hp i (by omega)
  · rw [el] at hj
    rw [lG_app, lG_app, if_neg (show ¬ i = l.length by omega)]
    by_cases c : j = l.length
    · rw [if_pos c]; exact hm i (by omega)
    · rw [if_neg c]; exact hi i j hij (by omega)
  · rw [el] at hi
    rw [lG_app]
    by_cases c : i = l.length
    · rw [if_pos c]; exact Int.le_refl _
    · rw [if_neg c]; exact Int.le_of_lt (hm i (by omega))
theorem ordRes_ok (ho : mOk l T) (hw : wOk T) (hd : dOk D) (hF : isForm t0 s pr z0 mode) (h4 : T 4 ≤ 1999999999) :
    mOk (ordRes l T D tr t0 s pr z0 mode).1 (ordRes l T D tr t0 s pr z0 mode).2.1 ∧ wOk (ordRes l T D tr t0 s pr z0 mode).2.1 ∧ dOk (ordRes l T D tr t0 s pr z0 mode).2.2.1 ∧ (ordRes l T D tr t0 s pr z0 mode).2.1 4 ≤ T 4 + 1 := by
  have hYI := ordY_inv ho hF
  obtain ⟨f1, f2, f3, f4, f5⟩ := hF
  have t4 := ho.t4
  have hnm := mRun_nm (t0 := t0) (num := T 4 + 1) (pr := pr) (M := T 4) f5 f2 60 (l, tps T, [], 0, 0, 0, z0) ⟨tps_uOk ho, ⟨(by show 0 ≤ z0; omega), (by show z0 ≤ 1000; omega)⟩, fun i hi => by cases hi⟩ ⟨ho.le4, fun i hi => by cases hi⟩
  have eY : mRun mode s (T 4 + 1) t0 (T 1) pr 60 (l, tps T, [], 0, 0, 0, z0) = ordY l T t0 s pr z0 mode := rfl
  rw [eY] at hnm
  unfold ordRes
  by_cases c2 : T 2 = 0
  · rw [if_pos c2]
    generalize ordY l T t0 s pr z0 mode = Y at *
    obtain ⟨u1, u2, u3⟩ := hYI
    have hp3 := pOf_bd hnm.2 ho.t3
    have X0 : ordT0 T Y s t0 0 = T 0 := by unfold ordT0; rw [apT_k (by omega), upd1_n (by decide)]
    have X1 : ordT0 T Y s t0 1 = T 1 := by unfold ordT0; rw [apT_k (by omega), upd1_n (by decide)]
    have X2 : ordT0 T Y s t0 2 = T 2 := by unfold ordT0; rw [apT_k (by omega), upd1_n (by decide)]
    have X3 : ordT0 T Y s t0 3 = pOf (T 3) Y.2.2.1 := by unfold ordT0; rw [apT_3]
    have X4 : ordT0 T Y s t0 4 = T 4 + 1 := by unfold ordT0; rw [apT_k (by omega), upd1_s]
    have X10 : 0 ≤ ordT0 T Y s t0 10 ∧ ordT0 T Y s t0 10 ≤ 60 := by unfold ordT0; rw [apT_10, upd1_n (by decide)]; have := ho.t10; omega
    have Xt : ∀ q, q < 2 → (ordT0 T Y s t0 (6 + q) = -1 ∧ ordT0 T Y s t0 (8 + q) = 0) ∨ (1 ≤ ordT0 T Y s t0 (6 + q) ∧ 1 ≤ ordT0 T Y s t0 (8 + q) ∧ ordT0 T Y s t0 (8 + q) ≤ 1000) := by
      intro q hq
      unfold ordT0
      rw [apT_u (by omega), apT_u (by omega)]
      exact u1.top q hq
    have Xw : wOk (ordT0 T Y s t0) := apT_wOk
    generalize ordT0 T Y s t0 = X at *
    have lL : lOk (ordL (T 4 + 1) t0 s pr z0 Y.1 Y.2.2.2.2.2.2) ∧ (∀ j, j < (ordL (T 4 + 1) t0 s pr z0 Y.1 Y.2.2.2.2.2.2).length → 0 < lG (ordL (T 4 + 1) t0 s pr z0 Y.1 Y.2.2.2.2.2.2) j 4) ∧ nInc (ordL (T 4 + 1) t0 s pr z0 Y.1 Y.2.2.2.2.2.2) ∧ ∀ j, j < (ordL (T 4 + 1) t0 s pr z0 Y.1 Y.2.2.2.2.2.2).length → lG (ordL (T 4 + 1) t0 s pr z0 Y.1 Y.2.2.2.2.2.2) j 0 ≤ T 4 + 1 := by
      unfold ordL
      by_cases c : Y.2.2.2.2.2.2 = 0 ∨ Y.1.length = 60
      · rw [if_pos c]
        exact ⟨u1.lo, u1.pos, u1.inc, fun j hj => by have := hnm.1 j hj; omega⟩
      · rw [if_neg c]
        have h60 := u1.lo.1
        have hz := u2
        exact app_ok u1.lo (by omega) u1.pos u1.inc (fun j hj => by have := hnm.1 j hj; omega) ⟨by omega, by omega⟩ f1 f2 f3 ⟨by omega, hz.2⟩ f4
    have oT : ∀ j, ¬ (6 ≤ j ∧ j ≤ 9) → ordT (T 4 + 1) s pr z0 Y.1 Y.2.2.2.2.2.2 X j = X j := by
      intro j hj
      unfold ordT
      split
      · rw [upd1_n (by omega), upd1_n (by omega)]
      · rfl
    have oTt : ∀ q, q < 2 → (ordT (T 4 + 1) s pr z0 Y.1 Y.2.2.2.2.2.2 X (6 + q) = -1 ∧ ordT (T 4 + 1) s pr z0 Y.1 Y.2.2.2.2.2.2 X (8 + q) = 0) ∨ (1 ≤ ordT (T 4 + 1) s pr z0 Y.1 Y.2.2.2.2.2.2 X (6 + q) ∧ 1 ≤ ordT (T 4 + 1) s pr z0 Y.1 Y.2.2.2.2.2.2 X (8 + q) ∧ ordT (T 4 + 1) s pr z0 Y.1 Y.2.2.2.2.2.2 X (8 + q) ≤ 1000) := by
      intro q hq
      unfold ordT
      split
      · rename_i hi
        have hg := hi.2.2.1
        have := ho.t0
        rw [upd1_n (by omega)]
        by_cases e : q = s.toNat
        · subst e; rw [upd1_s, upd1_s]; exact Or.inr ⟨by omega, by omega, by omega⟩
        · rw [upd1_n (by omega), upd1_n (by omega), upd1_n (by omega)]; exact Xt q hq
      · exact Xt q hq
    refine ⟨⟨lL.1, lL.2.1, lL.2.2.1, ?_, ?_, ?_, ?_, ?_, ?_, ?_, oTt, ?_⟩, ?_, apD_ok, ?_⟩
    · intro j hj; show _ ≤ ordT (T 4 + 1) s pr z0 Y.1 Y.2.2.2.2.2.2 X 4; rw [oT 4 (by omega), X4]; exact lL.2.2.2 j hj
    · show 0 ≤ ordT (T 4 + 1) s pr z0 Y.1 Y.2.2.2.2.2.2 X 0 ∧ ordT (T 4 + 1) s pr z0 Y.1 Y.2.2.2.2.2.2 X 0 ≤ 1000; rw [oT 0 (by omega), X0]; exact ho.t0
    · show 1 ≤ ordT (T 4 + 1) s pr z0 Y.1 Y.2.2.2.2.2.2 X 1 ∧ ordT (T 4 + 1) s pr z0 Y.1 Y.2.2.2.2.2.2 X 1 ≤ 50; rw [oT 1 (by omega), X1]; exact ho.t1
    · show ordT (T 4 + 1) s pr z0 Y.1 Y.2.2.2.2.2.2 X 2 = 0 ∨ ordT (T 4 + 1) s pr z0 Y.1 Y.2.2.2.2.2.2 X 2 = 1; rw [oT 2 (by omega), X2]; exact Or.inl c2
    · show 0 ≤ ordT (T 4 + 1) s pr z0 Y.1 Y.2.2.2.2.2.2 X 3 ∧ ordT (T 4 + 1) s pr z0 Y.1 Y.2.2.2.2.2.2 X 3 ≤ 9999999; rw [oT 3 (by omega), X3]; exact hp3
    · show 0 ≤ ordT (T 4 + 1) s pr z0 Y.1 Y.2.2.2.2.2.2 X 4; rw [oT 4 (by omega), X4]; omega
    · show 0 ≤ ordT (T 4 + 1) s pr z0 Y.1 Y.2.2.2.2.2.2 X 10 ∧ ordT (T 4 + 1) s pr z0 Y.1 Y.2.2.2.2.2.2 X 10 ≤ 60; rw [oT 10 (by omega)]; exact X10
    · intro q
      have q' : ordT (T 4 + 1) s pr z0 Y.1 Y.2.2.2.2.2.2 X 2 = 1 := q
      rw [oT 2 (by omega), X2] at q'
      omega
    · show wOk (ordT (T 4 + 1) s pr z0 Y.1 Y.2.2.2.2.2.2 X)
      exact ⟨by rw [oT 11 (by omega)]; exact Xw.1, by rw [oT 12 (by omega)]; exact Xw.2.1, by rw [oT 13 (by omega)]; exact Xw.2.2.1, fun j h1 h2 => by rw [oT j (by omega)]; exact Xw.2.2.2 j h1 h2⟩
    · show ordT (T 4 + 1) s pr z0 Y.1 Y.2.2.2.2.2.2 X 4 ≤ T 4 + 1; rw [oT 4 (by omega), X4]; exact Int.le_refl _
  · rw [if_neg c2]
    by_cases cF : l.length = 60
    · rw [if_pos cF]
      exact ⟨ho, hw, hd, by show T 4 ≤ T 4 + 1; omega⟩
    · rw [if_neg cF]
      have h60 := ho.lo.1
      obtain ⟨a1, a2, a3, a4⟩ := app_ok (num := T 4 + 1) (z := z0) ho.lo (by omega) ho.pos ho.inc (fun j hj => by have := ho.le4 j hj; omega) ⟨by omega, by omega⟩ f1 f2 f3 f4 f4
      refine ⟨⟨a1, a2, a3, ?_, ?_, ?_, ?_, ?_, ?_, ?_, ?_, ?_⟩, ?_, hd, ?_⟩
      · intro j hj; show _ ≤ upd1 T 4 (T 4 + 1) 4; rw [upd1_s]; exact a4 j hj
      · show 0 ≤ upd1 T 4 (T 4 + 1) 0 ∧ upd1 T 4 (T 4 + 1) 0 ≤ 1000; rw [upd1_n (by decide)]; exact ho.t0
      · show 1 ≤ upd1 T 4 (T 4 + 1) 1 ∧ upd1 T 4 (T 4 + 1) 1 ≤ 50; rw [upd1_n (by decide)]; exact ho.t1
      · show upd1 T 4 (T 4 + 1) 2 = 0 ∨ upd1 T 4 (T 4 + 1) 2 = 1; rw [upd1_n (by decide)]; exact ho.t2
      · show 0 ≤ upd1 T 4 (T 4 + 1) 3 ∧ upd1 T 4 (T 4 + 1) 3 ≤ 9999999; rw [upd1_n (by decide)]; exact ho.t3
      · show 0 ≤ upd1 T 4 (T 4 + 1) 4; rw [upd1_s]; omega
      · show 0 ≤ upd1 T 4 (T 4 + 1) 10 ∧ upd1 T 4 (T 4 + 1) 10 ≤ 60; rw [upd1_n (by decide)]; exact ho.t10
      · intro q hq; show (upd1 T 4 (T 4 + 1) (6 + q) = -1 ∧ upd1 T 4 (T 4 + 1) (8 + q) = 0) ∨ (1 ≤ upd1 T 4 (T 4 + 1) (6 + q) ∧ 1 ≤ upd1 T 4 (T 4 + 1) (8 + q) ∧ upd1 T 4 (T 4 + 1) (8 + q) ≤ 1000); rw [upd1_n (by omega), upd1_n (by omega)]; exact ho.top q hq
      · intro q
        have q' : upd1 T 4 (T 4 + 1) 2 = 1 := q
        rw [upd1_n (by decide)] at q'
        show upd1 T 4 (T 4 + 1) 6 = -1 ∧ upd1 T 4 (T 4 + 1) 7 = -1
        rw [upd1_n (by decide), upd1_n (by decide)]
        exact ho.cal q'
      · exact ⟨by show in32 (upd1 T 4 (T 4 + 1) 11); rw [upd1_n (by decide)]; exact hw.1, by show in32 (upd1 T 4 (T 4 + 1) 12); rw [upd1_n (by decide)]; exact hw.2.1, by show in32 (upd1 T 4 (T 4 + 1) 13); rw [upd1_n (by decide)]; exact hw.2.2.1, fun j h1 h2 => by show in32 (upd1 T 4 (T 4 + 1) j); rw [upd1_n (by omega)]; exact hw.2.2.2 j h1 h2⟩
      · show upd1 T 4 (T 4 + 1) 4 ≤ T 4 + 1; rw [upd1_s]; exact Int.le_refl _
end ORDOK
/-- order() in full -/
def ordAll (l : List (Nat → Int)) (T D : Nat → Int) (tr : Nat → Nat → Int) (t0 s pr z0 mode : Int) : List (Nat → Int) × (Nat → Int) × (Nat → Int) × (Nat → Nat → Int) × Int :=
  if aForm t0 s pr z0 mode = true then (if aDear pr z0 = true then ordRes l T D tr t0 s pr z0 mode else (l, T, D, tr, -2)) else (l, T, D, tr, -1)
section ORDER
variable {N : Nat} {G : qG} {ρ : Nat → Nat × Nat} {x m : Nat} {μ ν : qM} {l : List (Nat → Int)} {T D : Nat → Int} {tr : Nat → Nat → Int} {n : Nat} {B : Nat → Int} {t0 s pr z0 mode : Int}
theorem ordAll_ok (ho : mOk l T) (hw : wOk T) (hd : dOk D) (h4 : T 4 ≤ 1999999999) :
    mOk (ordAll l T D tr t0 s pr z0 mode).1 (ordAll l T D tr t0 s pr z0 mode).2.1 ∧ wOk (ordAll l T D tr t0 s pr z0 mode).2.1 ∧ dOk (ordAll l T D tr t0 s pr z0 mode).2.2.1 ∧ (ordAll l T D tr t0 s pr z0 mode).2.1 4 ≤ T 4 + 1 := by
  unfold ordAll
  by_cases c : aForm t0 s pr z0 mode = true
  · rw [if_pos c]
    by_cases d : aDear pr z0 = true
    · rw [if_pos d]; exact ordRes_ok ho hw hd (aForm_t c) h4
    · rw [if_neg d]; exact ⟨ho, hw, hd, by show T 4 ≤ T 4 + 1; omega⟩
  · rw [if_neg c]; exact ⟨ho, hw, hd, by show T 4 ≤ T 4 + 1; omega⟩
theorem z_order7 (hy : cLY G ρ x) (h : cR G ρ x μ l T D tr n B) (ho : mOk l T) (hw : wOk T) (hd : dOk D) (h210 : in32 (gI μ 210 (gR G 700 x))) (h4 : T 4 ≤ 1999999999) (hN : 1000 < N) :
    ∃ ν, f_X7_order N G x t0 s pr z0 mode μ = some ((ordAll l T D tr t0 s pr z0 mode).2.2.2.2, ν) ∧ cR G ρ x ν (ordAll l T D tr t0 s pr z0 mode).1 (ordAll l T D tr t0 s pr z0 mode).2.1 (ordAll l T D tr t0 s pr z0 mode).2.2.1 (ordAll l T D tr t0 s pr z0 mode).2.2.2.1 n B := by
  unfold f_X7_order ordAll
  rw [kb2_p z_isForm7, b01_ite]
  by_cases c : aForm t0 s pr z0 mode = true
  · have hF := aForm_t c
    rw [if_pos c, if_pos c, kb2_p (z_isWorthInt7 hF.2.2.1 hF.2.2.2.1), b01_ite]
    by_cases d : aDear pr z0 = true
    · rw [if_pos d, if_pos d]
      obtain ⟨ν, k1, k2, k3, -⟩ := z_comeIn (N := N) hy.1 ho hw hd hF h.1 h210 h4 hN
      rw [kb2_p k1]
      exact ⟨ν, rfl, h.flo hy k2 k3⟩
    · rw [if_neg d, if_neg d]; exact ⟨μ, rfl, h⟩
  · rw [if_neg c, if_neg c]; exact ⟨μ, rfl, h⟩
theorem z_order8 (hL : mL G m) (h : mR G m μ l T D tr n B) (ho : mOk l T) (hw : wOk T) (hd : dOk D) (h4 : T 4 ≤ 1999999999) (hN : 1000 < N) :
    ∃ ν, f_X8_order N G m t0 s pr z0 mode μ = some ((ordAll l T D tr t0 s pr z0 mode).2.2.2.2, ν) ∧ mR G m ν (ordAll l T D tr t0 s pr z0 mode).1 (ordAll l T D tr t0 s pr z0 mode).2.1 (ordAll l T D tr t0 s pr z0 mode).2.2.1 (ordAll l T D tr t0 s pr z0 mode).2.2.2.1 n B := by
  have h1 := h.fld (f := 804) (a := m) (v := 0) (by decide)
  unfold f_X8_order ordAll
  rw [kp_p, kb2_p z_isOrder8, b01_ite]
  by_cases c : aForm t0 s pr z0 mode = true
  · have hF := aForm_t c
    rw [if_pos c, if_pos c, kb2_p (z_isInt8 hF.2.2.1 hF.2.2.2.1), b01_ite]
    by_cases d : aDear pr z0 = true
    · rw [if_pos d, if_pos d]
      obtain ⟨ν, k1, k2, k3⟩ := z_orders8 (N := N) hL ho hw hd hF h1 h4 hN
      rw [kb2_p k1]
      exact ⟨ν, rfl, k3⟩
    · rw [if_neg d, if_neg d]; exact ⟨_, rfl, h1⟩
  · rw [if_neg c, if_neg c]; exact ⟨_, rfl, h1⟩
end ORDER
