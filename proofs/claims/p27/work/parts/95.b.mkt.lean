/-! PURE: the market of the law, order by order -/
def Mk (l : List (Nat → Int)) (T D : Nat → Int) (q n : Nat) (s g L : Int) (sz : Nat → Int) : Prop :=
  Rw l q n s sz ∧ (mOk l T ∧ wOk T ∧ dOk D) ∧ aBest s l = bst q n s ∧ (T 0 = g ∧ T 1 = L ∧ T 2 = 0 ∧ T 4 = (q : Int) + (n : Int) ∧ T 10 = 0 ∧ T 11 = 0 ∧ T 23 = 0) ∧
  T (6 + s.toNat) = (if q + n = 0 ∨ g = 0 then -1 else if n = 0 then 1 else (q : Int) + 1) ∧ T (8 + s.toNat) = (if q + n = 0 ∨ g = 0 then 0 else g)
theorem upd1_cg {X X' : Nat → Int} {k j : Nat} {v : Int} (h : X j = X' j) : upd1 X k v j = upd1 X' k v j := by
  unfold upd1
  rw [h]
section MKT
variable {l : List (Nat → Int)} {T D : Nat → Int} {tr : Nat → Nat → Int} {t0 s pr z0 : Int}
theorem ord_quiet (ho : mOk l T) (hw : wOk T) (h2 : T 2 = 0) (hb : aBest (1 - s) l = 0) (hn : l.length < 60) (hF : isForm t0 s pr z0 0) (hdr : pr * z0 ≤ 2147483647) :
    (ordAll l T D tr t0 s pr z0 0).1 = l ++ [oMk (T 4 + 1) t0 s pr z0 z0] ∧ (ordAll l T D tr t0 s pr z0 0).2.2.2.2 = T 4 + 1 ∧ ∀ j, j < 24 → (ordAll l T D tr t0 s pr z0 0).2.1 j = ordT (T 4 + 1) s pr z0 l z0 (upd1 T 4 (T 4 + 1)) j := by
  obtain ⟨f1, f2, f3, f4, f5⟩ := hF
  have c1 : aForm t0 s pr z0 0 = true := decide_eq_true ⟨f1, by omega, f3, f4, f5⟩
  have c2 : aDear pr z0 = true := decide_eq_true hdr
  have hY : ordY l T t0 s pr z0 0 = (l, tps T, [], 0, 0, 0, z0) := mRun_b (Or.inl hb)
  have e : ordAll l T D tr t0 s pr z0 0 = ordRes l T D tr t0 s pr z0 0 := by unfold ordAll; rw [if_pos c1, if_pos c2]
  rw [e]
  unfold ordRes
  rw [if_pos h2, hY]
  refine ⟨?_, rfl, fun j hj => ?_⟩
  · show ordL (T 4 + 1) t0 s pr z0 l z0 = _
    unfold ordL
    rw [if_neg (by omega)]
  · show ordT (T 4 + 1) s pr z0 l z0 (ordT0 T (l, tps T, [], 0, 0, 0, z0) s t0) j = _
    have hw4 : wOk (upd1 T 4 (T 4 + 1)) := ⟨by rw [upd1_n (by decide)]; exact hw.1, by rw [upd1_n (by decide)]; exact hw.2.1, by rw [upd1_n (by decide)]; exact hw.2.2.1, fun j h1 h2 => by rw [upd1_n (by omega)]; exact hw.2.2.2 j h1 h2⟩
    have hX : ∀ j, j < 24 → ordT0 T (l, tps T, [], 0, 0, 0, z0) s t0 j = upd1 T 4 (T 4 + 1) j := by
      intro j hj
      have e := apT_s (T := upd1 T 4 (T 4 + 1)) (s := s) (t0 := t0) hw4 (by rw [upd1_n (by decide)]; exact ho.t10.2) hj
      refine Eq.trans ?_ e
      exact apT_cg (fun _ => rfl) (fun q => by show tps T j = tps (upd1 T 4 (T 4 + 1)) j; rw [tps_u q, tps_u q, upd1_n (by omega)]) (fun _ => by show T 3 = upd1 T 4 (T 4 + 1) 3; rw [upd1_n (by decide)]) (fun _ => rfl) (fun _ => rfl) (fun _ => rfl) (fun _ => rfl) (fun _ => ⟨rfl, rfl⟩)
    unfold ordT
    rw [hX 0 (by decide)]
    by_cases c : isTop s pr z0 (upd1 T 4 (T 4 + 1) 0) l z0
    · rw [if_pos c, if_pos c]
      exact upd1_cg (upd1_cg (hX j hj))
    · rw [if_neg c, if_neg c]
      exact hX j hj
theorem ordT_o {num z : Int} {X : Nat → Int} {j : Nat} (hs : s = 0 ∨ s = 1) (hj : ¬ (6 ≤ j ∧ j ≤ 9)) : ordT num s pr z0 l z X j = X j := by
  unfold ordT
  split
  · rw [upd1_n (by omega), upd1_n (by omega)]
  · rfl
variable {q n : Nat} {g L : Int} {sz : Nat → Int}
theorem Mk.oth (h : Mk l T D q n s g L sz) (hs : s = 0 ∨ s = 1) : aBest (1 - s) l = 0 := aBest_other (fun i hi e => by have := (h.1.o i hi).1; omega)
set_option maxHeartbeats 1000000 in
theorem Mk.add (hs : s = 0 ∨ s = 1) (h : Mk l T D q n s g L sz) (hn : n < 8) (hz : 1 ≤ sz n ∧ sz n ≤ 1000) :
    (ordAll l T D tr (n : Int) s 100 (sz n) 0).2.2.2.2 = (q : Int) + 1 + (n : Int) ∧ Mk (ordAll l T D tr (n : Int) s 100 (sz n) 0).1 (ordAll l T D tr (n : Int) s 100 (sz n) 0).2.1 (ordAll l T D tr (n : Int) s 100 (sz n) 0).2.2.1 q (n + 1) s g L sz := by
  have hoth := h.oth hs
  obtain ⟨hr, ⟨ho, hw, hd⟩, hb, ⟨u0, u1, u2, u4, u10, u11, u23⟩, u6, u8⟩ := h
  have hq := hr.2.1
  have hlen := hr.1
  have hg := ho.t0
  rw [u0] at hg
  have hF : isForm (n : Int) s 100 (sz n) 0 := ⟨by omega, hs, by omega, hz, by omega⟩
  obtain ⟨e1, e2, e3⟩ := ord_quiet (D := D) (tr := tr) ho hw u2 hoth (by omega) hF (by omega)
  obtain ⟨o1, o2, o3, -⟩ := ordAll_ok (tr := tr) (t0 := (n : Int)) (s := s) (pr := 100) (z0 := sz n) (mode := 0) ho hw hd (by omega)
  generalize ordAll l T D tr (n : Int) s 100 (sz n) 0 = r at *
  obtain ⟨l', T', D', tr', a⟩ := r
  have e1 : l' = l ++ [oMk (T 4 + 1) (n : Int) s 100 (sz n) (sz n)] := e1
  have e2 : a = T 4 + 1 := e2
  have e3 : ∀ j, j < 24 → T' j = ordT (T 4 + 1) s 100 (sz n) l (sz n) (upd1 T 4 (T 4 + 1)) j := e3
  have num : T 4 + 1 = (q : Int) + 1 + (n : Int) := by omega
  rw [num] at e1 e2 e3
  have k : ∀ j, j < 24 → ¬ (6 ≤ j ∧ j ≤ 9) → j ≠ 4 → T' j = T j := fun j h1 h2 h3 => by rw [e3 j h1, ordT_o hs h2, upd1_n h3]
  have ct : isTop s 100 (sz n) (upd1 T 4 ((q : Int) + 1 + (n : Int)) 0) l (sz n) ↔ 0 < g ∧ n = 0 := by
    rw [upd1_n (by decide), u0]
    show (¬ (sz n = 0 ∨ l.length = 60) ∧ sz n = sz n ∧ 0 < g ∧ (aBest s l = 0 ∨ aBet s 100 (aBest s l) = true)) ↔ _
    rw [hb, bst_b hs]
    exact ⟨fun e => ⟨e.2.2.1, e.2.2.2⟩, fun e => ⟨by omega, rfl, e.1, e.2⟩⟩
  refine ⟨e2, ?_, ⟨o1, o2, o3⟩, ?_, ⟨?_, ?_, ?_, ?_, ?_, ?_, ?_⟩, ?_, ?_⟩
  · show Rw l' q (n + 1) s sz
    rw [e1]; exact hr.add
  · show aBest s l' = bst q (n + 1) s
    rw [e1]
    exact (bst_add hs hb).trans (if_neg (Nat.succ_ne_zero n)).symm
  · exact (k 0 (by decide) (by decide) (by decide)).trans u0
  · exact (k 1 (by decide) (by decide) (by decide)).trans u1
  · exact (k 2 (by decide) (by decide) (by decide)).trans u2
  · show T' 4 = (q : Int) + ((n + 1 : Nat) : Int)
    rw [e3 4 (by decide), ordT_o hs (by decide), upd1_s]
    omega
  · exact (k 10 (by decide) (by decide) (by decide)).trans u10
  · exact (k 11 (by decide) (by decide) (by decide)).trans u11
  · exact (k 23 (by decide) (by decide) (by decide)).trans u23
  · show T' (6 + s.toNat) = _
    rw [e3 _ (by omega)]
    unfold ordT
    by_cases c : 0 < g ∧ n = 0
    · rw [if_pos (ct.mpr c), upd1_n (by omega), upd1_s, if_neg (by omega), if_neg (by omega)]
      omega
    · rw [if_neg (fun e => c (ct.mp e)), upd1_n (by omega), u6]
      by_cases d : g = 0
      · rw [if_pos (Or.inr d), if_pos (Or.inr d)]
      · rw [if_neg (by omega), if_neg (by omega), if_neg (by omega), if_neg (by omega)]
  · show T' (8 + s.toNat) = _
    rw [e3 _ (by omega)]
    unfold ordT
    by_cases c : 0 < g ∧ n = 0
    · rw [if_pos (ct.mpr c), upd1_s, upd1_n (by omega), u0, if_neg (by omega)]
    · rw [if_neg (fun e => c (ct.mp e)), upd1_n (by omega), u8]
      by_cases d : g = 0
      · rw [if_pos (Or.inr d), if_pos (Or.inr d)]
      · rw [if_neg (by omega), if_neg (by omega)]
set_option maxHeartbeats 1000000 in
/-- the worse one ahead -/
theorem Mk.far (hs : s = 0 ∨ s = 1) (h : Mk [] T D 0 0 s g L sz) {p : Int} (hp : p = pFar s) :
    (ordAll [] T D tr 9 s p 5 0).2.2.2.2 = 1 ∧ Mk (ordAll [] T D tr 9 s p 5 0).1 (ordAll [] T D tr 9 s p 5 0).2.1 (ordAll [] T D tr 9 s p 5 0).2.2.1 1 0 s g L sz := by
  have hoth := h.oth hs
  obtain ⟨hr, ⟨ho, hw, hd⟩, hb, ⟨u0, u1, u2, u4, u10, u11, u23⟩, u6, u8⟩ := h
  have hg := ho.t0
  rw [u0] at hg
  have hp2 : p = 99 ∨ p = 101 := by rw [hp]; unfold pFar; split <;> omega
  have hF : isForm 9 s p 5 0 := ⟨by omega, hs, by omega, by omega, by omega⟩
  obtain ⟨e1, e2, e3⟩ := ord_quiet (D := D) (tr := tr) ho hw u2 hoth (by decide) hF (by omega)
  obtain ⟨o1, o2, o3, -⟩ := ordAll_ok (tr := tr) (t0 := 9) (s := s) (pr := p) (z0 := 5) (mode := 0) ho hw hd (by omega)
  generalize ordAll [] T D tr 9 s p 5 0 = r at *
  obtain ⟨l', T', D', tr', a⟩ := r
  have e1 : l' = [] ++ [oMk (T 4 + 1) 9 s p 5 5] := e1
  have e2 : a = T 4 + 1 := e2
  have e3 : ∀ j, j < 24 → T' j = ordT (T 4 + 1) s p 5 [] 5 (upd1 T 4 (T 4 + 1)) j := e3
  have num : T 4 + 1 = 1 := by omega
  rw [num] at e1 e2 e3
  have k : ∀ j, j < 24 → ¬ (6 ≤ j ∧ j ≤ 9) → j ≠ 4 → T' j = T j := fun j h1 h2 h3 => by rw [e3 j h1, ordT_o hs h2, upd1_n h3]
  have ct : isTop s p 5 (upd1 T 4 1 0) [] 5 ↔ 0 < g := by
    rw [upd1_n (by decide), u0]
    exact ⟨fun e => e.2.2.1, fun e => ⟨by simp, rfl, e, Or.inl rfl⟩⟩
  refine ⟨e2, ?_, ⟨o1, o2, o3⟩, ?_, ⟨?_, ?_, ?_, ?_, ?_, ?_, ?_⟩, ?_, ?_⟩
  · show Rw l' 1 0 s sz
    rw [e1, hp]; exact Rw.far
  · show aBest s l' = bst 1 0 s
    rw [e1, hp]
    show (if s = s ∧ ((0 : Int) = 0 ∨ aBet s (pFar s) 0 = true) then pFar s else 0) = pFar s
    rw [if_pos ⟨rfl, Or.inl rfl⟩]
  · exact (k 0 (by decide) (by decide) (by decide)).trans u0
  · exact (k 1 (by decide) (by decide) (by decide)).trans u1
  · exact (k 2 (by decide) (by decide) (by decide)).trans u2
  · show T' 4 = ((1 : Nat) : Int) + ((0 : Nat) : Int)
    rw [e3 4 (by decide), ordT_o hs (by decide), upd1_s]
    rfl
  · exact (k 10 (by decide) (by decide) (by decide)).trans u10
  · exact (k 11 (by decide) (by decide) (by decide)).trans u11
  · exact (k 23 (by decide) (by decide) (by decide)).trans u23
  · show T' (6 + s.toNat) = _
    rw [e3 _ (by omega)]
    unfold ordT
    by_cases c : 0 < g
    · rw [if_pos (ct.mpr c), upd1_n (by omega), upd1_s, if_neg (by omega), if_pos rfl]
    · rw [if_neg (fun e => c (ct.mp e)), upd1_n (by omega), u6, if_pos (Or.inl rfl), if_pos (Or.inr (by omega))]
  · show T' (8 + s.toNat) = _
    rw [e3 _ (by omega)]
    unfold ordT
    by_cases c : 0 < g
    · rw [if_pos (ct.mpr c), upd1_s, upd1_n (by omega), u0, if_neg (by omega)]
    · rw [if_neg (fun e => c (ct.mp e)), upd1_n (by omega), u8, if_pos (Or.inl rfl), if_pos (Or.inr (by omega))]
/-- a new market with its rules set -/
theorem Mk.new (hs : s = 0 ∨ s = 1) (hg : 0 ≤ g ∧ g ≤ 1000) (hL : 1 ≤ L ∧ L ≤ 50) (hT : ∀ j, T j = upd1 (upd1 T0 0 g) 1 L j) : Mk [] T (fun _ => 0) 0 0 s g L sz := by
  have e : T = upd1 (upd1 T0 0 g) 1 L := funext hT
  subst e
  have k : ∀ j, 2 ≤ j → upd1 (upd1 T0 0 g) 1 L j = T0 j := fun j hj => by rw [upd1_n (by omega), upd1_n (by omega)]
  have k0 : upd1 (upd1 T0 0 g) 1 L 0 = g := by rw [upd1_n (by decide), upd1_s]
  have k1 : upd1 (upd1 T0 0 g) 1 L 1 = L := upd1_s
  have kz : ∀ j, 2 ≤ j → j ≠ 6 → j ≠ 7 → upd1 (upd1 T0 0 g) 1 L j = 0 := fun j h1 h2 h3 => by
    rw [k j h1]; unfold T0; rw [if_neg (by omega), if_neg (by omega), if_neg (by omega)]
  have k6 : ∀ t, t < 2 → upd1 (upd1 T0 0 g) 1 L (6 + t) = -1 := fun t ht => by
    rw [k _ (by omega)]; unfold T0; rw [if_neg (by omega), if_neg (by omega), if_pos (by omega)]
  refine ⟨Rw.nil, ⟨⟨⟨by decide, fun i hi => absurd hi (Nat.not_lt_zero _)⟩, fun i hi => absurd hi (Nat.not_lt_zero _), fun i j _ hj => absurd hj (Nat.not_lt_zero _), fun i hi => absurd hi (Nat.not_lt_zero _), by rw [k0]; exact hg, by rw [k1]; exact hL, by rw [kz 2 (by decide) (by decide) (by decide)]; exact Or.inl rfl, by rw [kz 3 (by decide) (by decide) (by decide)]; decide, by rw [kz 4 (by decide) (by decide) (by decide)]; decide, by rw [kz 10 (by decide) (by decide) (by decide)]; decide, fun t ht => Or.inl ⟨k6 t ht, kz _ (by omega) (by omega) (by omega)⟩, fun e => by rw [kz 2 (by decide) (by decide) (by decide)] at e; exact absurd e (by decide)⟩, ⟨?_, ?_, ?_, fun j h1 h2 => ?_⟩, fun t _ => (by decide : in64 0)⟩, rfl, ⟨k0, k1, kz 2 (by decide) (by decide) (by decide), kz 4 (by decide) (by decide) (by decide), kz 10 (by decide) (by decide) (by decide), kz 11 (by decide) (by decide) (by decide), kz 23 (by decide) (by decide) (by decide)⟩, ?_, ?_⟩
  · rw [kz 11 (by decide) (by decide) (by decide)]; decide
  · rw [kz 12 (by decide) (by decide) (by decide)]; decide
  · rw [kz 13 (by decide) (by decide) (by decide)]; decide
  · rw [kz j (by omega) (by omega) (by omega)]; decide
  · rw [k6 _ (by omega), if_pos (Or.inl rfl)]
  · rw [kz _ (by omega) (by omega) (by omega), if_pos (Or.inl rfl)]
end MKT
