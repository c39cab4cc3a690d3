/-! PURE: a message, in itself -/
section LNOK
variable {n q : Nat} {B : Nat → Int} {v a0 a1 a2 md : Int}
/-- a good line -/
def lnGd (n q : Nat) (x : LN) : Prop := (0 ≤ x.2.1 ∧ x.2.1 ≤ 7) ∧ (x.2.1 = 0 ∨ x.2.1 = 1 → isForm x.2.2.1 x.2.1 x.2.2.2.2.1 x.2.2.2.1 x.2.2.2.2.2.1) ∧ x.2.2.2.2.2.2.1 ≤ n ∧ ((x.2.2.2.2.2.2.2 = 1 ∧ q + 4 ≤ x.2.2.2.2.2.2.1) ∨ (x.2.2.2.2.2.2.2 = 0 ∧ q + 3 ≤ x.2.2.2.2.2.2.1))
theorem lnEnd_ok {q0 : Nat} (hq : q ≤ n) (h3 : q0 + 3 ≤ q) (hv : 0 ≤ v ∧ v ≤ 7) (hF : v = 0 ∨ v = 1 → isForm a0 v a2 a1 md) (h : (lnEnd n B q v a0 a1 a2 md).1 = 0) : lnGd n q0 (lnEnd n B q v a0 a1 a2 md) := by
  have ha := tkA_le (B := B) hq
  have he := tkE_le (B := B) hq
  unfold lnEnd at h ⊢
  by_cases c : tkK n B q = 3
  · rw [if_pos c] at h ⊢
    have lt : tkA n B q < tkE n B q := by
      unfold tkK at c
      by_cases d : tkA n B q < n
      · unfold tkE
        rw [if_pos d]
        split
        · rename_i s; exact sk_lt d s
        · split
          · rename_i s; exact sk_lt d s
          · omega
      · rw [if_neg d] at c; exact absurd c (by decide)
    exact ⟨hv, hF, he.2, Or.inl ⟨rfl, by show q0 + 4 ≤ tkE n B q; omega⟩⟩
  · rw [if_neg c] at h ⊢
    by_cases d : tkK n B q = 0
    · rw [if_pos d] at h ⊢
      exact ⟨hv, hF, he.2, Or.inr ⟨rfl, by show q0 + 3 ≤ tkE n B q; omega⟩⟩
    · rw [if_neg d] at h
      exact absurd h (lnBad_1 (by decide))
theorem lnNum_ok {lo hi : Int} {k : Int → Nat → LN} (h : (lnNum n B q lo hi k).1 = 0) : (lo ≤ tkV n B q ∧ tkV n B q ≤ hi) ∧ lnNum n B q lo hi k = k (tkV n B q) (tkE n B q) := by
  unfold lnNum at h ⊢
  by_cases c : tkK n B q = 2
  · rw [if_pos c] at h ⊢
    by_cases d : lo ≤ tkV n B q ∧ tkV n B q ≤ hi
    · rw [if_pos d]; exact ⟨d, rfl⟩
    · rw [if_neg d] at h; exact absurd h (lnBad_1 (by decide))
  · rw [if_neg c] at h; exact absurd h (lnBad_1 (by decide))
theorem kd_len (hq : q ≤ n) (h : kdH n B q ≠ -1) : q + 3 ≤ tkE n B q := by
  have ha := tkA_le (B := B) hq
  have key : ∀ i, i < 8 → wIs n B q (wdL i) = true → q + 3 ≤ tkE n B q := by
    intro i hi hw
    have h2 := (of_decide_eq_true hw).2.1
    have h3 : ∀ i, i < 8 → 3 ≤ (wdL i).length := by decide
    have := h3 i hi
    omega
  rw [kdH_e] at h
  by_cases b0 : wIs n B q (wdL 0) = true
  · exact key 0 (by decide) b0
  rw [if_neg b0] at h
  by_cases b1 : wIs n B q (wdL 1) = true
  · exact key 1 (by decide) b1
  rw [if_neg b1] at h
  by_cases b2 : wIs n B q (wdL 2) = true
  · exact key 2 (by decide) b2
  rw [if_neg b2] at h
  by_cases b3 : wIs n B q (wdL 3) = true
  · exact key 3 (by decide) b3
  rw [if_neg b3] at h
  by_cases b4 : wIs n B q (wdL 4) = true
  · exact key 4 (by decide) b4
  rw [if_neg b4] at h
  by_cases b5 : wIs n B q (wdL 5) = true
  · exact key 5 (by decide) b5
  rw [if_neg b5] at h
  by_cases b6 : wIs n B q (wdL 6) = true
  · exact key 6 (by decide) b6
  rw [if_neg b6] at h
  by_cases b7 : wIs n B q (wdL 7) = true
  · exact key 7 (by decide) b7
  rw [if_neg b7] at h
  exact absurd rfl h
theorem lnOf_ok (hq : q ≤ n) (h : (lnOf n B q).1 = 0) : lnGd n q (lnOf n B q) := by
  have he := tkE_le (B := B) hq
  have kr := kdH_r (n := n) (B := B) (q := q)
  unfold lnOf at h ⊢
  by_cases c : kdH n B q = -1
  · rw [if_pos c] at h; exact absurd h (lnBad_1 (by decide))
  have k3 := kd_len hq c
  rw [if_neg c] at h ⊢
  have nx : ∀ {q' : Nat}, q' ≤ n → q + 3 ≤ q' → tkE n B q' ≤ n ∧ q + 3 ≤ tkE n B q' := fun {q'} h1 h2 => by
    have a := tkA_le (B := B) h1
    have b := tkE_le (B := B) h1
    omega
  by_cases c01 : kdH n B q = 0 ∨ kdH n B q = 1
  · rw [if_pos c01] at h ⊢
    obtain ⟨r1, e1⟩ := lnNum_ok h
    rw [e1] at h ⊢
    obtain ⟨r2, e2⟩ := lnNum_ok h
    rw [e2] at h ⊢
    obtain ⟨r3, e3⟩ := lnNum_ok h
    rw [e3] at h ⊢
    obtain ⟨n1, n1'⟩ := nx he.2 k3
    obtain ⟨n2, n2'⟩ := nx n1 n1'
    obtain ⟨n3, n3'⟩ := nx n2 n2'
    have form : ∀ md, 0 ≤ md ∧ md ≤ 3 → kdH n B q = 0 ∨ kdH n B q = 1 → isForm (tkV n B (tkE n B q)) (kdH n B q) (tkV n B (tkE n B (tkE n B (tkE n B q)))) (tkV n B (tkE n B (tkE n B q))) md := by
      intro md hm _
      refine ⟨r1, c01, ⟨r3.1, ?_⟩, r2, hm⟩
      have := r3.2
      unfold dearT at this
      split at this <;> omega
    unfold lnMd at h ⊢
    by_cases d : tkK n B (tkE n B (tkE n B (tkE n B (tkE n B q)))) = 1
    · rw [if_pos d] at h ⊢
      have mr := mdH_r (n := n) (B := B) (q := tkE n B (tkE n B (tkE n B (tkE n B q))))
      by_cases f : mdH n B (tkE n B (tkE n B (tkE n B (tkE n B q)))) = -1
      · rw [if_pos f] at h; exact absurd h (lnBad_1 (by decide))
      · rw [if_neg f] at h ⊢
        obtain ⟨n4, n4'⟩ := nx n3 n3'
        exact lnEnd_ok n4 n4' ⟨by omega, by omega⟩ (form _ ⟨by omega, by omega⟩) h
    · rw [if_neg d] at h ⊢
      exact lnEnd_ok n3 n3' ⟨by omega, by omega⟩ (form _ (by decide)) h
  · rw [if_neg c01] at h ⊢
    obtain ⟨n1, n1'⟩ := nx he.2 k3
    by_cases c2 : kdH n B q = 2
    · rw [if_pos c2] at h ⊢
      obtain ⟨r1, e1⟩ := lnNum_ok h
      rw [e1] at h ⊢
      exact lnEnd_ok n1 n1' (by decide) (fun y => by omega) h
    · rw [if_neg c2] at h ⊢
      by_cases c3 : kdH n B q = 3
      · rw [if_pos c3] at h ⊢
        obtain ⟨r1, e1⟩ := lnNum_ok h
        rw [e1] at h ⊢
        obtain ⟨r2, e2⟩ := lnNum_ok h
        rw [e2] at h ⊢
        obtain ⟨n2, n2'⟩ := nx n1 n1'
        exact lnEnd_ok n2 n2' (by decide) (fun y => by omega) h
      · rw [if_neg c3] at h ⊢
        by_cases c4 : kdH n B q = 4
        · rw [if_pos c4] at h ⊢
          obtain ⟨r1, e1⟩ := lnNum_ok h
          rw [e1] at h ⊢
          exact lnEnd_ok n1 n1' (by decide) (fun y => by omega) h
        · rw [if_neg c4] at h ⊢
          by_cases c5 : kdH n B q = 5
          · rw [if_pos c5] at h ⊢
            obtain ⟨r1, e1⟩ := lnNum_ok h
            rw [e1] at h ⊢
            exact lnEnd_ok n1 n1' (by decide) (fun y => by omega) h
          · rw [if_neg c5] at h ⊢
            exact lnEnd_ok he.2 k3 ⟨by omega, by omega⟩ (fun y => absurd y c01) h
end LNOK
/-- where the lines begin, one behind the other -/
def qAt (n : Nat) (B : Nat → Int) : Nat → Nat
  | 0 => 0
  | i + 1 => (lnOf n B (qAt n B i)).2.2.2.2.2.2.1
def lnA' (n : Nat) (B : Nat → Int) (i : Nat) : LN := lnOf n B (qAt n B i)
def lnGo (n : Nat) (B : Nat → Int) (j : Nat) : Prop := ∀ i, i < j → (lnA' n B i).1 = 0 ∧ (lnA' n B i).2.2.2.2.2.2.2 = 1
/-- the last line, or the bad one -/
def mStop (n : Nat) (B : Nat → Int) (j : Nat) : Prop := lnGo n B j ∧ ((lnA' n B j).1 ≠ 0 ∨ ((lnA' n B j).1 = 0 ∧ (lnA' n B j).2.2.2.2.2.2.2 = 0))
noncomputable def msD (n : Nat) (B : Nat → Int) (S : MK) : Nat → MK × Int
  | 0 => (S, 0)
  | i + 1 => ((doA (lnA' n B i).2.1 (lnA' n B i).2.2.1 (lnA' n B i).2.2.2.1 (lnA' n B i).2.2.2.2.1 (lnA' n B i).2.2.2.2.2.1 (msD n B S i).1).1, (msD n B S i).2 + (doA (lnA' n B i).2.1 (lnA' n B i).2.2.1 (lnA' n B i).2.2.2.1 (lnA' n B i).2.2.2.2.1 (lnA' n B i).2.2.2.2.2.1 (msD n B S i).1).2)
section QAT
variable {n i j : Nat} {B : Nat → Int} {S : MK}
theorem qAt_bd (h : lnGo n B j) : qAt n B j ≤ n ∧ 4 * j ≤ qAt n B j := by
  induction j with
  | zero => exact ⟨Nat.zero_le _, Nat.le_refl _⟩
  | succ j ih =>
    obtain ⟨h1, h2⟩ := ih (fun i hi => h i (by omega))
    obtain ⟨g1, g2⟩ := h j (by omega)
    obtain ⟨-, -, b3, b4⟩ := lnOf_ok h1 g1
    have g2' : (lnOf n B (qAt n B j)).2.2.2.2.2.2.2 = 1 := g2
    rcases b4 with ⟨-, b4⟩ | ⟨b4, -⟩
    · exact ⟨b3, by show 4 * (j + 1) ≤ (lnOf n B (qAt n B j)).2.2.2.2.2.2.1; omega⟩
    · omega
theorem lnGo.s (h : lnGo n B j) (h1 : (lnA' n B j).1 = 0) (h2 : (lnA' n B j).2.2.2.2.2.2.2 = 1) : lnGo n B (j + 1) := by
  intro i hi
  by_cases c : i = j
  · subst c; exact ⟨h1, h2⟩
  · exact h i (by omega)
theorem mStop_uq (h1 : mStop n B i) (h2 : mStop n B j) : i = j := by
  have key : ∀ {i j}, mStop n B i → mStop n B j → ¬ i < j := by
    intro i j h1 h2 lt
    obtain ⟨g1, g2⟩ := h2.1 i lt
    rcases h1.2 with q | ⟨q1, q2⟩
    · exact q g1
    · omega
  have a := key h1 h2
  have b := key h2 h1
  omega
theorem doA_2 {v a0 a1 a2 md : Int} : 0 ≤ (doA v a0 a1 a2 md S).2 ∧ (doA v a0 a1 a2 md S).2 ≤ 1 := by
  unfold doA
  split
  · show 0 ≤ (if _ then (1 : Int) else 0) ∧ (if _ then (1 : Int) else 0) ≤ 1
    split <;> decide
  · split
    · split
      · show (0 : Int) ≤ 1 ∧ (1 : Int) ≤ 1; decide
      · show (0 : Int) ≤ 0 ∧ (0 : Int) ≤ 1; decide
    · split
      · split
        · split
          · show (0 : Int) ≤ 1 ∧ (1 : Int) ≤ 1; decide
          · show (0 : Int) ≤ 0 ∧ (0 : Int) ≤ 1; decide
        · show (0 : Int) ≤ 0 ∧ (0 : Int) ≤ 1; decide
      · split
        · split
          · show (0 : Int) ≤ 1 ∧ (1 : Int) ≤ 1; decide
          · show (0 : Int) ≤ 0 ∧ (0 : Int) ≤ 1; decide
        · split
          · split
            · show (0 : Int) ≤ 1 ∧ (1 : Int) ≤ 1; decide
            · show (0 : Int) ≤ 0 ∧ (0 : Int) ≤ 1; decide
          · split
            · split
              · show (0 : Int) ≤ 0 ∧ (0 : Int) ≤ 1; decide
              · show (0 : Int) ≤ 1 ∧ (1 : Int) ≤ 1; decide
            · show 0 ≤ (if _ then (0 : Int) else 1) ∧ (if _ then (0 : Int) else 1) ≤ 1
              split <;> decide
theorem msD_2 : ∀ j, 0 ≤ (msD n B S j).2 ∧ (msD n B S j).2 ≤ (j : Int) := by
  intro j
  induction j with
  | zero => exact ⟨Int.le_refl _, Int.le_refl _⟩
  | succ j ih =>
    have := doA_2 (v := (lnA' n B j).2.1) (a0 := (lnA' n B j).2.2.1) (a1 := (lnA' n B j).2.2.2.1) (a2 := (lnA' n B j).2.2.2.2.1) (md := (lnA' n B j).2.2.2.2.2.1) (S := (msD n B S j).1)
    show 0 ≤ (msD n B S j).2 + _ ∧ (msD n B S j).2 + _ ≤ ((j + 1 : Nat) : Int)
    omega
end QAT
