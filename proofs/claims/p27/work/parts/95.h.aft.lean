/-! PURE: all that the law asks of the market behind the take -/
abbrev hR (sz : Nat → Int) (g K L : Int) (n k : Nat) : Int := sz k - (hA sz g K k + hB sz g K L n k + hC sz g K L n k)
abbrev stays (sz : Nat → Int) (g K L : Int) (n : Nat) : Prop := 0 < g ∧ 0 < hR sz g K L n 0 ∧ hA sz g K 0 < g
/-- the trades, newest first, of the first i kinds -/
def eK (l : List (Nat → Int)) (U : Nat → Int) (L num s K : Int) (n : Nat) : Nat → List (Nat → Int)
  | 0 => []
  | i + 1 => gE l (aJ s 100 l l.length) num 100 (if i = 0 then kA l U s 100 K else if i = 1 then kB l U L s 100 K else kC l U L s 100 K) (i : Int) (eK l U L num s K n i) n
def Aft (l2 : List (Nat → Int)) (T2 : Nat → Int) (tr2 : Nat → Nat → Int) (E : List (Nat → Int)) (q n : Nat) (s g K L : Int) (sz : Nat → Int) : Prop :=
  mOk l2 T2 ∧ (T2 10 = (E.length : Int) ∧ T2 11 = K ∧ T2 3 = 100 ∧ T2 23 = if s = 0 then -K else K) ∧ (∀ i w : Nat, i < E.length → tr2 i w = lG E i w) ∧
  (∀ k, k < n → (0 < hR sz g K L n k → ∃ i, aPlace ((q : Int) + 1 + (k : Int)) l2 = some i ∧ lG l2 i 4 = hR sz g K L n k) ∧ (¬ 0 < hR sz g K L n k → aPlace ((q : Int) + 1 + (k : Int)) l2 = none)) ∧
  (stays sz g K L n → T2 (6 + s.toNat) = (q : Int) + 1 ∧ ∀ i, aPlace ((q : Int) + 1) l2 = some i → oGr T2 (lG l2 i) = g - hA sz g K 0) ∧ (¬ stays sz g K L n → T2 (6 + s.toNat) = -1)
section AFT2
variable {l : List (Nat → Int)} {T D : Nat → Int} {tr : Nat → Nat → Int} {q n : Nat} {s g L K : Int} {sz : Nat → Int}
theorem eK_3 (hr : Rw l q n s sz) {num : Int} {U : Nat → Int} : eK l U L num s K n 3 = kE l U L num s 100 K [] := by
  unfold kE
  rw [hr.len]
  rfl
theorem Mk.aft (h : Mk l T D q n s g L sz) (hs : s = 0 ∨ s = 1) (hn : 1 ≤ n ∧ n ≤ 8) (hK : 1 ≤ K ∧ K ≤ sumN sz n) (hK2 : K ≤ 1000) :
    (ordAll l T D tr 9 (1 - s) 100 K 0).2.2.2.2 = (q : Int) + 1 + (n : Int) ∧ Aft (ordAll l T D tr 9 (1 - s) 100 K 0).1 (ordAll l T D tr 9 (1 - s) 100 K 0).2.1 (ordAll l T D tr 9 (1 - s) 100 K 0).2.2.2.1 (eK l (tps T) L ((q : Int) + 1 + (n : Int)) s K n 3) q n s g K L sz := by
  have hr := h.1
  have hq := hr.2.1
  obtain ⟨ho, hw, hd⟩ := h.2.1
  obtain ⟨u0, u1, u2, u4, u10, u11, u23⟩ := h.2.2.2.1
  obtain ⟨e1, e2, e3, e4⟩ := h.final (tr := tr) hs hn hK hK2
  obtain ⟨o1, -, -, -⟩ := ordAll_ok (tr := tr) (t0 := 9) (s := 1 - s) (pr := 100) (z0 := K) (mode := 0) ho hw hd (by omega)
  obtain ⟨w1, w2, w3, w4⟩ := E_all (num := (q : Int) + 1 + (n : Int)) (x := T 3) h hs hn hK
  have bA := (h_bd h hs hn hK).1 0 (by omega)
  rw [eK_3 hr]
  generalize kE l (tps T) L ((q : Int) + 1 + (n : Int)) s 100 K [] = E at *
  have gA0 : hA sz g K 0 ≤ g := by
    have b := (one_A (sz := sz) (g := g) (K := K) (L := L) (n := n) ?_ hn.1).1
    · show shA sz (gOne g) K 0 ≤ g
      rw [b]; omega
    · have hL := ho.t1
      have hg := ho.t0
      have ha := aS_bd (w := wZ s 100) (wZ_bd ho.lo)
      refine ⟨by omega, fun i hi => ?_, fun i hi => by unfold gOne; split <;> omega, by omega, by omega⟩
      have := (ho.lo.2 (q + i) (by rw [hr.1]; omega)).2.2.2.2.1
      rw [hr.2.2.2 i hi] at this
      exact this
  have t0 := top_after (K := K) h hs hn
  have l0 := left_at (K := K) h hs hn (k := 0) (by omega)
  rw [Nat.add_zero] at l0
  rw [l0] at t0
  refine ⟨e1, o1, ⟨?_, ?_, ?_, ?_⟩, fun i w hi => ?_, fun k hk => ?_, fun hst => ?_, fun hst => ?_⟩
  · rw [e4, apT_10, upd1_n (by decide), u10]; omega
  · rw [e4, apT_11, upd1_n (by decide), u11, w1, Int.zero_add]; exact w32_id ⟨by omega, by omega⟩
  · rw [e4, apT_3]; exact w3
  · rw [e4, show (23 : Nat) = 14 + 9 from rfl, apT_t, upd1_n (by decide), w4, w1, u23, if_pos (by decide)]
    unfold sg
    rcases hs with e | e
    · subst e
      rw [if_neg (by decide), if_pos rfl, Int.zero_add, Int.zero_add]; exact w32_id ⟨by omega, by omega⟩
    · subst e
      rw [if_pos (by decide), if_neg (by decide), Int.zero_add, Int.zero_add]; exact w32_id ⟨by omega, by omega⟩
  · rw [e3]
    unfold apTr
    rw [if_pos hi]
  · rw [e2]
    have lk := left_at (K := K) h hs hn hk
    refine ⟨fun c => ?_, fun c => ?_⟩
    · obtain ⟨i, hi⟩ := left_some (U := tps T) (L := L) (K := K) hr hk (m := (q : Int) + 1 + (k : Int)) rfl (by rw [lk]; exact c)
      exact ⟨i, hi, by rw [(left_in hr hk rfl hi).2.1]; exact lk⟩
    · cases hp : aPlace ((q : Int) + 1 + (k : Int)) ((kL l (tps T) L s 100 K).filter aKp) with
      | none => rfl
      | some i => exact absurd (by show 0 < sz k - (hA sz g K k + hB sz g K L n k + hC sz g K L n k); rw [← lk]; exact (left_in hr hk rfl hp).2.2) c
  · have t1 := t0.1 hst
    rw [e4, apT_u (by omega)]
    refine ⟨t1.1, fun i hi => ?_⟩
    rw [e2] at hi ⊢
    have li := left_in hr (show 0 < n by omega) (m := (q : Int) + 1) (by omega) hi
    rw [Nat.add_zero] at li
    have ko := kL_o (U := tps T) (L := L) (K := K) hr (i := q) (by rw [hr.1]; omega)
    unfold oGr
    rw [li.2.1, ko.1, ko.2, apT_u (by omega), apT_u (by omega), t1.1, if_pos rfl]
    exact t1.2
  · rw [e4, apT_u (by omega)]
    exact t0.2 hst gA0
end AFT2
