/-! PURE: what the law's market tells before the take, and the take itself -/
section TAK
variable {l : List (Nat → Int)} {T D U : Nat → Int} {tr : Nat → Nat → Int} {q n : Nat} {s g L K : Int} {sz : Nat → Int}
theorem jGr_one (hr : Rw l q n s sz) (hs : s = 0 ∨ s = 1) (h6 : U (6 + s.toNat) = (if g = 0 then -1 else (q : Int) + 1)) (h8 : U (8 + s.toNat) = (if g = 0 then 0 else g)) {k : Nat} (hk : k < n) : jGr U l (aJ s 100 l l.length) k = gOne g k := by
  unfold jGr oGr
  rw [hr.jGa hk, hr.2.2.2 k hk]
  show (if U (6 + s.toNat) = (q : Int) + 1 + (k : Int) then U (8 + s.toNat) else 0) = gOne g k
  rw [h6, h8]
  unfold gOne
  by_cases c : g = 0
  · rw [if_pos c, if_neg (by omega), c]; split <;> rfl
  · rw [if_neg c, if_neg c]
    by_cases d : k = 0
    · rw [if_pos (by omega), if_pos d]
    · rw [if_neg (by omega), if_neg d]
theorem Mk.u6 (h : Mk l T D q n s g L sz) (hn : 1 ≤ n) : T (6 + s.toNat) = (if g = 0 then -1 else (q : Int) + 1) := by
  rw [h.2.2.2.2.1]
  by_cases c : g = 0
  · rw [if_pos (Or.inr c), if_pos c]
  · rw [if_neg (by omega), if_neg (by omega), if_neg c]
theorem Mk.u8 (h : Mk l T D q n s g L sz) (hn : 1 ≤ n) : T (8 + s.toNat) = (if g = 0 then 0 else g) := by
  rw [h.2.2.2.2.2]
  by_cases c : g = 0
  · rw [if_pos (Or.inr c), if_pos c]
  · rw [if_neg (by omega), if_neg c]
theorem Rw.all (hr : Rw l q n s sz) : aS (wZ s 100) l = sumN sz n := by
  rw [← sumZ, hr.len]
  exact sN_cg (fun i hi => hr.jSz hi)
theorem Rw.cg (hr : Rw l q n s sz) (hs : s = 0 ∨ s = 1) (h6 : U (6 + s.toNat) = (if g = 0 then -1 else (q : Int) + 1)) (h8 : U (8 + s.toNat) = (if g = 0 then 0 else g)) : ∀ i, i < n → jS l (aJ s 100 l l.length) i = sz i ∧ jGr U l (aJ s 100 l l.length) i = gOne g i := fun i hi => ⟨hr.jSz hi, jGr_one hr hs h6 h8 hi⟩
/-- share() -/
theorem Mk.share (h : Mk l T D q n s g L sz) (hs : s = 0 ∨ s = 1) {k : Nat} (hk : k < n) {m : Int} (hm : m = (q : Int) + 1 + (k : Int)) (w : Int) :
    aShare l T m K w = if aIn w 0 3 = true ∧ aIn K 1 (sumN sz n) = true then jP (shA sz (gOne g) K k) (shB sz (gOne g) K L n k) (shC sz (gOne g) K L n k) w else -1 := by
  have hr := h.1
  have hc := hr.cg hs (h.u6 (by omega)) (h.u8 (by omega))
  have hL : T 1 = L := h.2.2.2.1.2.1
  unfold aShare
  rw [hr.place hk hm]
  show aShr l T (q + k) K w = _
  unfold aShr
  rw [show lG l (q + k) 2 = s by rw [hr.2.2.2 k hk]; rfl, show lG l (q + k) 3 = 100 by rw [hr.2.2.2 k hk]; rfl, hr.all, (hr.J k (by omega)).1]
  unfold jA jB jC
  rw [hr.len, hL, shA_cg hc hk, shB_cg hc hk, shC_cg hc hk]
theorem Mk.of5 (h : Mk l T D q n s g L sz) (hs : s = 0 ∨ s = 1) {k : Nat} (hk : k < n) : oGr T (lG l (q + k)) = gOne g k := by
  have e := jGr_one h.1 hs (h.u6 (by omega)) (h.u8 (by omega)) hk
  unfold jGr at e
  rwa [h.1.jGa hk] at e
/-! the take -/
theorem Mk.uu (h : Mk l T D q n s g L sz) (hs : s = 0 ∨ s = 1) (hn : 1 ≤ n) : tps T (6 + s.toNat) = (if g = 0 then -1 else (q : Int) + 1) ∧ tps T (8 + s.toNat) = (if g = 0 then 0 else g) :=
  ⟨by rw [tps_u (by omega)]; exact h.u6 hn, by rw [tps_u (by omega)]; exact h.u8 hn⟩
theorem Mk.own (h : Mk l T D q n s g L sz) (hn : n ≤ 8) : ∀ i, i < l.length → ¬ oOwn s 100 9 (lG l i) = true := by
  intro i hi e
  obtain ⟨e1, e2⟩ := oOwn_t.mp e
  have hr := h.1
  rw [hr.1] at hi
  by_cases c : i < q
  · rw [hr.2.2.1 i c] at e1
    have e3 : pFar s = 100 := (aAt_e e1).2
    unfold pFar at e3
    split at e3 <;> omega
  · obtain ⟨k, rfl⟩ : ∃ k, i = q + k := ⟨i - q, by omega⟩
    rw [hr.2.2.2 k (by omega)] at e2
    have e3 : (k : Int) = 9 := e2
    omega
theorem Mk.course (h : Mk l T D q n s g L sz) (hs : s = 0 ∨ s = 1) (hn : 1 ≤ n ∧ n ≤ 8) (hK : 1 ≤ K ∧ K ≤ sumN sz n) :
    ordY l T 9 (1 - s) 100 K 0 = ((kL l (tps T) L s 100 K).filter aKp, kU l (tps T) L s 100 K, kE l (tps T) L (T 4 + 1) s 100 K [], 0, 0, 0, 0) := by
  have e1 : 1 - (1 - s) = s := by omega
  have hb : aBest s l = 100 := by
    rw [h.2.2.1]
    unfold bst
    rw [if_neg (by omega)]
  have ho := h.2.1.1
  have hown := h.own hn.2
  have hY0 : ∀ i, i < l.length → bY 0 (oOwn s 100 9) l K i = 0 := fun i hi => by unfold bY; rw [if_neg (hown i hi)]
  obtain ⟨n1, n2, n3, n4, n5⟩ := noLoss (U := tps T) ho.pos hY0
  have hz : vLeft 0 (oOwn s 100 9) l K = K := by
    unfold vLeft
    rw [if_neg (by omega)]
    exact bL_no (fun j hj e => absurd e (by decide)) l.length (Nat.le_refl _)
  have hp : mPrev 0 (1 - s) 9 100 (l, tps T, [], 0, 0, 0, K) = (l, tps T, [], 0, 0, 0, K) := by
    show ((vL 0 (oOwn (1 - (1 - s)) 100 9) l K).filter aKp, aSw (tps T) (vL 0 (oOwn (1 - (1 - s)) 100 9) l K), ([] : List (Nat → Int)), 0 + cZ 0 (oOwn (1 - (1 - s)) 100 9) l K l.length, (0 : Int) + (if (0 : Int) = 3 then cY 0 (oOwn (1 - (1 - s)) 100 9) l K l.length else 0), (0 : Int) + (if (0 : Int) = 3 then 0 else cY 0 (oOwn (1 - (1 - s)) 100 9) l K l.length), vLeft 0 (oOwn (1 - (1 - s)) 100 9) l K) = _
    rw [e1, n2, n3, n4, n5, hz]
    rfl
  have hL : T 1 = L := h.2.2.2.1.2.1
  have hm : min K (aS (wZ s 100) l) = K := by rw [h.1.all]; omega
  unfold ordY
  rw [mRun_s (by show ¬ K ≤ 0; omega) (by show ¬ (aBest (1 - (1 - s)) l = 0 ∨ aBet (1 - (1 - s)) 100 (aBest (1 - (1 - s)) l) = true); rw [e1, hb, aBet_same]; exact fun e => e.elim (fun e => absurd e (by decide)) (fun e => by cases e))]
  have eS : mStep 0 (1 - s) (T 4 + 1) 9 (T 1) (aBest (1 - (1 - s)) l) (l, tps T, [], 0, 0, 0, K) = ((kL l (tps T) L s 100 K).filter aKp, kU l (tps T) L s 100 K, kE l (tps T) L (T 4 + 1) s 100 K [], 0, 0, 0, 0) := by
    rw [e1, hb, hL]
    unfold mStep
    rw [hp]
    unfold mTake
    show (if 0 < min K (aS (wZ (1 - (1 - s)) 100) l) then _ else _) = _
    rw [e1, hm, if_pos (by omega), Int.sub_self]
  show mRun 0 (1 - s) (T 4 + 1) 9 (T 1) 100 59 (mStep 0 (1 - s) (T 4 + 1) 9 (T 1) (aBest (1 - (1 - s)) l) (l, tps T, [], 0, 0, 0, K)) = _
  rw [eS]
  exact mRun_z (Int.le_refl _)
theorem Mk.final (h : Mk l T D q n s g L sz) (hs : s = 0 ∨ s = 1) (hn : 1 ≤ n ∧ n ≤ 8) (hK : 1 ≤ K ∧ K ≤ sumN sz n) (hK2 : K ≤ 1000) :
    (ordAll l T D tr 9 (1 - s) 100 K 0).2.2.2.2 = (q : Int) + 1 + (n : Int) ∧ (ordAll l T D tr 9 (1 - s) 100 K 0).1 = (kL l (tps T) L s 100 K).filter aKp ∧
    (ordAll l T D tr 9 (1 - s) 100 K 0).2.2.2.1 = apTr tr (kE l (tps T) L ((q : Int) + 1 + (n : Int)) s 100 K []) ∧
    (ordAll l T D tr 9 (1 - s) 100 K 0).2.1 = apT (upd1 T 4 (T 4 + 1)) (kU l (tps T) L s 100 K) (pOf (T 3) (kE l (tps T) L ((q : Int) + 1 + (n : Int)) s 100 K [])) (kE l (tps T) L ((q : Int) + 1 + (n : Int)) s 100 K []) (sumW (kE l (tps T) L ((q : Int) + 1 + (n : Int)) s 100 K [])) 0 0 (1 - s) 9 := by
  have hY := h.course hs hn hK
  have e4 : T 4 + 1 = (q : Int) + 1 + (n : Int) := by have := h.2.2.2.1.2.2.2.1; omega
  have c1 : aForm 9 (1 - s) 100 K 0 = true := decide_eq_true ⟨by omega, by omega, by omega, by omega, by omega⟩
  have c2 : aDear 100 K = true := decide_eq_true (by omega)
  have e : ordAll l T D tr 9 (1 - s) 100 K 0 = ordRes l T D tr 9 (1 - s) 100 K 0 := by unfold ordAll; rw [if_pos c1, if_pos c2]
  rw [e]
  unfold ordRes
  rw [if_pos h.2.2.2.1.2.2.1, hY, e4]
  refine ⟨rfl, ?_, rfl, ?_⟩
  · show ordL ((q : Int) + 1 + (n : Int)) 9 (1 - s) 100 K ((kL l (tps T) L s 100 K).filter aKp) 0 = _
    unfold ordL
    rw [if_pos (Or.inl rfl)]
  · have e5 : ∀ X : Nat → Int, ordT ((q : Int) + 1 + (n : Int)) (1 - s) 100 K ((kL l (tps T) L s 100 K).filter aKp) 0 X = X := by
      intro X
      unfold ordT
      rw [if_neg (fun e => e.1 (Or.inl rfl))]
    refine (e5 _).trans ?_
    unfold ordT0
    rw [e4]
    rfl
end TAK
