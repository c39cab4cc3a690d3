/-! PURE: 'splits': an order as parts, in itself -/
theorem sumN_app {f : Nat → Int} {a : Nat} : ∀ b, sumN f (a + b) = sumN f a + sumN (fun j => f (a + j)) b := by
  intro b
  induction b with
  | zero => show sumN f a = sumN f a + 0; omega
  | succ b ih => show sumN f (a + b) + f (a + b) = sumN f a + (sumN (fun j => f (a + j)) b + f (a + b)); omega
/-- the row behind place k, when r is n rows -/
def spI (r n k : Nat) : Nat := if k < r then k else if k < r + n then r else k + 1 - n
/-- the j-th of n parts of z -/
def spP (z : Int) (n j : Nat) : Int := z.tdiv (n : Int) + (if (j : Int) < z - z.tdiv (n : Int) * (n : Int) then 1 else 0)
def spS (S : Nat → Int) (r n k : Nat) : Int := if r ≤ k ∧ k < r + n then spP (S r) n (k - r) else S (spI r n k)
def spG (g : Nat → Int) (r n k : Nat) : Int := if r ≤ k ∧ k < r + n then 0 else g (spI r n k)
def spH (S g : Nat → Int) (K L : Int) (c r n k : Nat) : Int := shA (spS S r n) (spG g r n) K k + shB (spS S r n) (spG g r n) K L (c + n - 1) k + shC (spS S r n) (spG g r n) K L (c + n - 1) k
/-- what the parts have together -/
def spD (S g : Nat → Int) (K L : Int) (c r n : Nat) : Int := sumN (fun j => spH S g K L c r n (r + j)) n
section SPL
variable {S g : Nat → Int} {K L z : Int} {c r n k : Nat}
theorem tdn (h : 0 ≤ z) (hn : 1 ≤ n) : 0 ≤ z.tdiv (n : Int) ∧ z.tdiv (n : Int) ≤ z ∧ 0 ≤ z - z.tdiv (n : Int) * (n : Int) ∧ z - z.tdiv (n : Int) * (n : Int) < (n : Int) := by
  have e : z.tdiv (n : Int) = z / (n : Int) := Int.tdiv_eq_ediv_of_nonneg h
  have hp : (0 : Int) < (n : Int) := by omega
  have h1 : 0 ≤ z / (n : Int) := Int.ediv_nonneg h (by omega)
  have h2 : z / (n : Int) * (n : Int) ≤ z := Int.ediv_mul_le z (by omega)
  have h3 : z < (z / (n : Int) + 1) * (n : Int) := Int.lt_ediv_add_one_mul_self z hp
  rw [Int.add_mul, Int.one_mul] at h3
  have h4 : z / (n : Int) * 1 ≤ z / (n : Int) * (n : Int) := Int.mul_le_mul_of_nonneg_left (by omega) h1
  rw [Int.mul_one] at h4
  rw [e]
  exact ⟨h1, by omega, by omega, by omega⟩
theorem spP_bd (h : 1 ≤ z ∧ z ≤ 1000) (hn : 1 ≤ n ∧ (n : Int) ≤ z) {j : Nat} : 0 ≤ spP z n j ∧ spP z n j ≤ 1000 := by
  have t := tdn (z := z) (n := n) (by omega) hn.1
  unfold spP
  by_cases c : (j : Int) < z - z.tdiv (n : Int) * (n : Int)
  · rw [if_pos c]
    by_cases d : n = 1
    · subst d
      have e : z.tdiv ((1 : Nat) : Int) * ((1 : Nat) : Int) = z.tdiv ((1 : Nat) : Int) := Int.mul_one _
      have e2 : z.tdiv ((1 : Nat) : Int) = z := Int.tdiv_one z
      omega
    · have h4 : z.tdiv (n : Int) * 2 ≤ z.tdiv (n : Int) * (n : Int) := Int.mul_le_mul_of_nonneg_left (by omega) t.1
      omega
  · rw [if_neg c]; omega
theorem spP_sum (h : 0 ≤ z) (hn : 1 ≤ n) : sumN (spP z n) n = z := by
  have t := tdn (z := z) (n := n) h hn
  have key : ∀ j, j ≤ n → sumN (spP z n) j = (j : Int) * z.tdiv (n : Int) + min (j : Int) (z - z.tdiv (n : Int) * (n : Int)) := by
    intro j
    induction j with
    | zero => intro _; show (0 : Int) = ((0 : Nat) : Int) * z.tdiv (n : Int) + min ((0 : Nat) : Int) _; have : ((0 : Nat) : Int) * z.tdiv (n : Int) = 0 := Int.zero_mul _; omega
    | succ j ih =>
      intro hj
      have i1 := ih (by omega)
      have e : ((j + 1 : Nat) : Int) * z.tdiv (n : Int) = (j : Int) * z.tdiv (n : Int) + z.tdiv (n : Int) := by rw [show ((j + 1 : Nat) : Int) = (j : Int) + 1 by omega, Int.add_mul, Int.one_mul]
      show sumN (spP z n) j + spP z n j = _
      rw [i1, e]
      unfold spP
      generalize (j : Int) * z.tdiv (n : Int) = a at *
      generalize z.tdiv (n : Int) * (n : Int) = b at *
      split <;> omega
  rw [key n (Nat.le_refl _), Int.mul_comm]
  omega
theorem spS_1 : spS S r 1 k = S k := by
  unfold spS spI spP
  by_cases c : r ≤ k ∧ k < r + 1
  · have e : k = r := by omega
    subst e
    rw [if_pos c]
    have e1 : (S k).tdiv ((1 : Nat) : Int) = S k := Int.tdiv_one _
    rw [e1, show ((1 : Nat) : Int) = 1 from rfl, Int.mul_one, Int.sub_self, if_neg (by omega), Int.add_zero]
  · rw [if_neg c]
    by_cases d : k < r
    · rw [if_pos d]
    · rw [if_neg d, if_neg (by omega)]
      congr 1
theorem spG_1 : spG g r 1 k = if k = r then 0 else g k := by
  unfold spG spI
  by_cases c : k = r
  · subst c; rw [if_pos ⟨by omega, by omega⟩, if_pos rfl]
  · rw [if_neg (by omega), if_neg c]
    by_cases d : k < r
    · rw [if_pos d]
    · rw [if_neg d, if_neg (by omega)]
      congr 1
theorem spI_lt (hr : r < c) (hn : 1 ≤ n) (hk : k < c + n - 1) : spI r n k < c := by
  unfold spI
  split
  · omega
  · split <;> omega
theorem spS_bd (hS : ∀ i, i < c → 0 ≤ S i ∧ S i ≤ 1000) (hr : r < c) (hn : 1 ≤ n ∧ (n : Int) ≤ S r) (hk : k < c + n - 1) : 0 ≤ spS S r n k ∧ spS S r n k ≤ 1000 := by
  unfold spS
  split
  · exact spP_bd ⟨by omega, (hS r hr).2⟩ hn
  · exact hS _ (spI_lt hr hn.1 hk)
theorem spG_bd (hg : ∀ i, i < c → 0 ≤ g i ∧ g i ≤ 1000) (hr : r < c) (hn : 1 ≤ n) (hk : k < c + n - 1) : 0 ≤ spG g r n k ∧ spG g r n k ≤ 1000 := by
  unfold spG
  split
  · omega
  · exact hg _ (spI_lt hr hn hk)
theorem spS_sum (hS : ∀ i, i < c → 0 ≤ S i ∧ S i ≤ 1000) (hr : r < c) (hn : 1 ≤ n) : sumN (spS S r n) (c + n - 1) = sumN S c := by
  have e : c + n - 1 = r + (n + (c - r - 1)) := by omega
  have e2 : c = r + (1 + (c - r - 1)) := by omega
  rw [e, sumN_app, sumN_app]
  rw [show sumN S c = sumN S (r + (1 + (c - r - 1))) by rw [← e2], sumN_app, sumN_app]
  have a1 : sumN (spS S r n) r = sumN S r := sumN_congr (fun i hi => by unfold spS spI; rw [if_neg (by omega), if_pos hi])
  have a2 : sumN (fun j => spS S r n (r + j)) n = S r := by
    rw [← spP_sum (z := S r) (n := n) (hS r hr).1 hn]
    exact sumN_congr (fun i hi => by unfold spS; rw [if_pos ⟨by omega, by omega⟩, show r + i - r = i by omega])
  have a3 : sumN (fun j => (fun j => spS S r n (r + j)) (n + j)) (c - r - 1) = sumN (fun j => (fun j => S (r + j)) (1 + j)) (c - r - 1) := sumN_congr (fun i hi => by
    show spS S r n (r + (n + i)) = S (r + (1 + i))
    unfold spS spI
    rw [if_neg (by omega), if_neg (by omega), if_neg (by omega)]
    congr 1
    omega)
  have a4 : sumN (fun j => S (r + j)) 1 = S r := by show 0 + S (r + 0) = S r; rw [Nat.add_zero]; omega
  rw [a1, a2, a3, a4]
theorem spOk (ho : shOk S g K L c) (hc : c ≤ 60) (hr : r < c) (hn : 1 ≤ n ∧ n ≤ 9 ∧ (n : Int) ≤ S r) : shOk (spS S r n) (spG g r n) K L (c + n - 1) :=
  ⟨by omega, fun i hi => spS_bd ho.2.1 hr ⟨hn.1, hn.2.2⟩ hi, fun i hi => spG_bd ho.2.2.1 hr hn.1 hi, ho.2.2.2⟩
theorem spH_bd (ho : shOk S g K L c) (hc : c ≤ 60) (hK : K ≤ sumN S c) (hr : r < c) (hn : 1 ≤ n ∧ n ≤ 9 ∧ (n : Int) ≤ S r) (hk : k < c + n - 1) : (0 ≤ shA (spS S r n) (spG g r n) K k ∧ 0 ≤ shB (spS S r n) (spG g r n) K L (c + n - 1) k ∧ 0 ≤ shC (spS S r n) (spG g r n) K L (c + n - 1) k) ∧ spH S g K L c r n k ≤ 1000 := by
  have o := spOk ho hc hr hn
  have hK' : K ≤ sumN (spS S r n) (c + n - 1) := by rw [spS_sum ho.2.1 hr hn.1]; exact hK
  have a := shA_bd o hk
  have b := shB_le o hK' hk
  have d := shC_le o hK' hk
  have s := (o.2.1 k hk).2
  unfold spH
  exact ⟨⟨by omega, by omega, by omega⟩, by omega⟩
theorem spF {h : Nat → Int} (hn : r + n ≤ c) : sumN (fun k => if r ≤ k ∧ k < r + n then h k else 0) c = sumN (fun j => h (r + j)) n := by
  have z0 : ∀ {f : Nat → Int} {c : Nat}, (∀ i, i < c → f i = 0) → sumN f c = 0 := by
    intro f c
    induction c with
    | zero => intro _; rfl
    | succ c ih => intro q; show sumN f c + f c = 0; rw [ih (fun i hi => q i (by omega)), q c (by omega)]; rfl
  have e : c = r + (n + (c - r - n)) := by omega
  rw [e, sumN_app, sumN_app]
  have a1 : sumN (fun k => if r ≤ k ∧ k < r + n then h k else 0) r = 0 := z0 (fun i hi => if_neg (by omega))
  have a2 : sumN (fun j => if r ≤ r + j ∧ r + j < r + n then h (r + j) else 0) n = sumN (fun j => h (r + j)) n := sumN_congr (fun i hi => if_pos ⟨by omega, by omega⟩)
  have a3 : sumN (fun j => (fun j => if r ≤ r + j ∧ r + j < r + n then h (r + j) else 0) (n + j)) (c - r - n) = 0 := z0 (fun i hi => by
    show (if r ≤ r + (n + i) ∧ r + (n + i) < r + n then h (r + (n + i)) else 0) = 0
    exact if_neg (by omega))
  rw [a1, a2, a3]
  omega
end SPL
/-- what 'splits' says -/
def aSpl (l : List (Nat → Int)) (T : Nat → Int) (i : Nat) (n K : Int) : Int :=
  if n < 2 ∨ 9 < n ∨ lG l i 4 < n ∨ K < 1 ∨ aS (wZ (lG l i 2) (lG l i 3)) l < K then -2000000
  else spD (jS l (aJ (lG l i 2) (lG l i 3) l l.length)) (jGr T l (aJ (lG l i 2) (lG l i 3) l l.length)) K (T 1) (aJ (lG l i 2) (lG l i 3) l l.length).length (aJ (lG l i 2) (lG l i 3) l i).length n.toNat - spD (jS l (aJ (lG l i 2) (lG l i 3) l l.length)) (jGr T l (aJ (lG l i 2) (lG l i 3) l l.length)) K (T 1) (aJ (lG l i 2) (lG l i 3) l l.length).length (aJ (lG l i 2) (lG l i 3) l i).length 1
def aSplits (l : List (Nat → Int)) (T : Nat → Int) (k n K : Int) : Int := match aPlace k l with | some i => aSpl l T i n K | none => -2000000
