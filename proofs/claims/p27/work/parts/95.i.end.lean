/-! PURE: the law's third stretch, its end: the orders that are left, the counts, the top -/
/-- the law's arrays: a of sizes, h of the rows r -/
def aM (KK : Nat → Nat) (n : Nat) (q : qM) (a h : Nat) (r : Nat → Nat) (sz A B C : Nat → Int) (kb kc : Nat) : Prop :=
  (∀ i, i < 3 → gQ q h i = some (r i) ∧ KK (r i) = 1000 + n) ∧ ((r 0 ≠ r 1 ∧ r 0 ≠ r 2 ∧ r 1 ≠ r 2) ∧ ∀ i, i < 3 → r i ≠ a) ∧ (∀ i, i < n → gA q a i = sz i) ∧ (∀ i, i < n → gA q (r 0) i = A i) ∧ (∀ i, i < kb → gA q (r 1) i = B i) ∧ ∀ i, i < kc → gA q (r 2) i = C i
section LC1
variable {N : Nat} {G : qG} {ρ : Nat → Nat × Nat} {x : Nat} {Ω : oB} {KK : Nat → Nat} {m q1 : qM} {c0 a h : Nat} {r : Nat → Nat} {g L s K : Int} {n q : Nat} {l2 : List (Nat → Int)} {T2 D2 : Nat → Int} {tr2 : Nat → Nat → Int} {E : List (Nat → Int)} {sz : Nat → Int}
theorem aM.row {A B C : Nat → Int} {kb kc : Nat} (hM : aM KK n q1 a h r sz A B C kb kc) {i : Int} {j : Nat} (hj : i = (j : Int)) (h3 : j < 3) {k : Nat → Option Int} : rdQ KK (1000 + n) q1 h i 3 k = k (r j) := by
  subst hj
  exact rdQ_p ⟨by omega, by omega⟩ (by rw [Int.toNat_natCast]; exact (hM.1 j h3).1) (hM.1 j h3).2
theorem rdA_k {α : Type} {μ : qM} {b : Nat} {i : Int} {k : Nat} {kk : Int → Option α} (hi : i = (k : Int)) (hk : k < n) {v : Int} (hv : gA μ b k = v) : rdA μ b i (n : Int) kk = kk v := by
  subst hi
  rw [rdA_p ⟨by omega, by omega⟩, Int.toNat_natCast, hv]
/-- the rows as they stand when all is dealt -/
abbrev aMx (KK : Nat → Nat) (n : Nat) (q1 : qM) (a h : Nat) (r : Nat → Nat) (sz : Nat → Int) (g K L : Int) : Prop := aM KK n q1 a h r sz (hA sz g K) (hB sz g K L n) (hC sz g K L n) n n
theorem z_976 (hQ : oQ N G ρ x Ω) (hs : s = 0 ∨ s = 1) (hn : 1 ≤ n ∧ n ≤ 8) (hg : 0 ≤ g ∧ g < 40) (hq : q ≤ 1) (h1 : St G ρ x m l2 T2 D2 tr2) (hF : Aft l2 T2 tr2 E q n s g K L sz) (hA0 : 0 ≤ hA sz g K 0 ∧ hA sz g K 0 ≤ 40) (hM : aMx KK n q1 a h r sz g K L) (hp : stays sz g K L n → ∃ i, aPlace ((q : Int) + 1) l2 = some i) (c1 : Nat) :
    f_Lc_976 N G x Ω KK n g s ((q : Int) + 1) h (if stays sz g K L n then 1 else 0) m q1 c1 = some 1 := by
  obtain ⟨ho, ⟨t10, t11, t3, t23⟩, htr, hpl, f1, f2⟩ := hF
  have et := s_top (N := N) h1 ho hs
  unfold f_Lc_976
  rw [kb2_p et]
  by_cases c : stays sz g K L n
  · obtain ⟨i, hi⟩ := hp c
    have fi := (hQ.2.1 m l2 T2 D2 tr2 _ i h1 ho hi).1
    rw [(f1 c).2 i hi] at fi
    rw [if_pos c, if_neg (by decide), (f1 c).1]
    unfold f_Lc_995
    rw [if_pos rfl, if_neg (by decide), kb_p fi, hM.row (i := 0) (j := 0) rfl (by decide), rdA_k (i := 0) (k := 0) rfl (by omega) (hM.2.2.2.1 0 (by omega)), ckI_p ⟨by omega, by omega⟩, if_pos rfl]
    rfl
  · rw [if_neg c, if_pos rfl, f2 c]
    unfold f_Lc_995
    rw [if_pos rfl, if_pos rfl]
    rfl
theorem z_942 (hQ : oQ N G ρ x Ω) (hs : s = 0 ∨ s = 1) (hn : 1 ≤ n ∧ n ≤ 8) (hg : 0 ≤ g ∧ g < 40) (hq : q ≤ 1) (h1 : St G ρ x m l2 T2 D2 tr2) (hF : Aft l2 T2 tr2 E q n s g K L sz) (hA0 : 0 ≤ hA sz g K 0 ∧ hA sz g K 0 ≤ 40) (hM : aMx KK n q1 a h r sz g K L) {c1 : Nat} (hc : c1 ≤ 100) (v : Int) :
    f_Lc_942 N G x Ω KK n g s ((q : Int) + 1) (if 0 < g then 1 else 0) h v v m q1 c1 = some 1 := by
  have hF0 := hF
  obtain ⟨ho, -, -, hpl, -, -⟩ := hF
  have p0 := hpl 0 (by omega)
  rw [show (q : Int) + 1 + ((0 : Nat) : Int) = (q : Int) + 1 by omega] at p0
  have z := fun c1 => z_976 (c1 := c1) hQ hs hn hg hq h1 hF0 hA0 hM (fun e => by obtain ⟨i, hi, -⟩ := p0.1 e.2.1; exact ⟨i, hi⟩)
  unfold f_Lc_942
  rw [if_pos rfl]
  by_cases c : 0 < g
  · rw [if_pos c, if_neg (by decide)]
    by_cases d : 0 < hR sz g K L n 0
    · obtain ⟨i, hi, hv⟩ := p0.1 d
      have fi := (hQ.2.1 m l2 T2 D2 tr2 _ i h1 ho hi).2
      rw [szK_0 fi, hv, if_pos d, hM.row (i := 0) (j := 0) rfl (by decide), rdA_k (i := 0) (k := 0) rfl (by omega) (hM.2.2.2.1 0 (by omega))]
      have z1 := z c1
      by_cases e : hA sz g K 0 < g
      · rw [if_pos ⟨c, d, e⟩] at z1
        rw [if_pos e]; exact z1
      · rw [if_neg (fun f => e f.2.2)] at z1
        rw [if_neg e]; exact z1
    · have fi := hQ.2.2 m l2 T2 D2 tr2 _ h1 ho (p0.2 d)
      have z1 := z (c1 + 1)
      rw [if_neg (fun f => d f.2.1)] at z1
      rw [szK_1 fi (by omega), if_neg (by decide)]
      exact z1
  · have z1 := z c1
    rw [if_neg (fun f => c f.1)] at z1
    rw [if_neg c, if_pos rfl]
    exact z1
end LC1
