/-! PURE: the law's second stretch -/
def szL (Ω : oB) (k : Nat) : Int := 1 + Ω.1 (5 + (k : Int)) (if Ω.1 20 2 = 0 then 12 else 200)
section LB
variable {N : Nat} {G : qG} {ρ : Nat → Nat × Nat} {x : Nat} {Ω : oB} {KK : Nat → Nat} {m q0 : qM} {c0 a : Nat} {g L s : Int} {n q : Nat} {l : List (Nat → Int)} {T D : Nat → Int} {tr : Nat → Nat → Int}
theorem szL_bd (hQ : oQ N G ρ x Ω) (k : Nat) : 1 ≤ szL Ω k ∧ szL Ω k ≤ 200 := by
  have h := hQ.1 (5 + (k : Int)) (if Ω.1 20 2 = 0 then 12 else 200) (by split <;> decide)
  unfold szL
  split at h
  · rename_i c; rw [if_pos c]; omega
  · rename_i c; rw [if_neg c]; omega
theorem all_bd (hQ : oQ N G ρ x Ω) (hn : 1 ≤ n ∧ n ≤ 8) : 1 ≤ sumN (szL Ω) n ∧ sumN (szL Ω) n ≤ 1600 := by
  have h1 := sumN_bd (f := szL Ω) (M := 200) (c := n) (fun i _ => by have := szL_bd hQ i; omega)
  have h2 := sumN_one (f := szL Ω) (c := n) (j := 0) (fun i _ => by have := szL_bd hQ i; omega) (by omega)
  have h3 := szL_bd hQ 0
  omega
/-- an order comes in -/
theorem z_Lb_193 (hQ : oQ N G ρ x Ω) (hy : cLY G ρ x) (hN : 1000 < N) (hs : s = 0 ∨ s = 1) (hn : 1 ≤ n ∧ n ≤ 8) {k : Nat} (hk : k < n) (h : St G ρ x m l T D tr) (hM : Mk l T D q k s g L (szL Ω)) :
    ∃ (m' : qM) (l' : List (Nat → Int)) (T' D' : Nat → Int) (tr' : Nat → Nat → Int), (∀ k158, f_Lb_193 N G x Ω KK n k158 g L s n ((q : Int) + 1) a (sumN (szL Ω) k) k a k 1 (5 + (k : Int)) (if Ω.1 20 2 = 0 then 12 else 200) m q0 c0 = k158 g L s n ((q : Int) + 1) a (sumN (szL Ω) (k + 1)) ((k + 1 : Nat) : Int) m' (sA q0 a k (szL Ω k)) c0) ∧
      St G ρ x m' l' T' D' tr' ∧ Mk l' T' D' q (k + 1) s g L (szL Ω) := by
  have hz := szL_bd hQ k
  have hall := sumN_bd (f := szL Ω) (M := 200) (c := k) (fun i _ => by have := szL_bd hQ i; omega)
  have hq := hM.1.2.1
  obtain ⟨e1, e2⟩ := Mk.add (tr := tr) hs hM (by omega) (by omega)
  obtain ⟨-, ⟨ho, hw, hd⟩, -, ⟨-, -, u2, u4, -⟩, -⟩ := hM
  obtain ⟨ν, o1, o2⟩ := s_order (N := N) hy h ho hw hd u2 (by omega) hN (t0 := (k : Int)) (s := s) (pr := 100) (z0 := szL Ω k) (mode := 0) ⟨by omega, hs, by omega, by omega, by omega⟩ (by omega)
  refine ⟨ν, _, _, _, _, fun k158 => ?_, o2, e2⟩
  have ez : (1 : Int) + Ω.1 (5 + (k : Int)) (if Ω.1 20 2 = 0 then 12 else 200) = szL Ω k := rfl
  have et : (k : Int).toNat = k := Int.toNat_natCast k
  unfold f_Lb_193
  rw [rdW_p ⟨by omega, by omega⟩ (by split <;> decide), ez, ckI_p ⟨by omega, by omega⟩, wrA_p ⟨by omega, by omega⟩, rdA_p ⟨by omega, by omega⟩, et, gA_s, ckI_p ⟨by omega, by omega⟩, rdA_p ⟨by omega, by omega⟩, et, gA_s, kb2_p o1, e1, ckI_p ⟨by omega, by omega⟩, if_pos rfl, ckI_p ⟨by omega, by omega⟩]
  rfl
theorem z_Lb_end (hQ : oQ N G ρ x Ω) (hs : s = 0 ∨ s = 1) (hn : 1 ≤ n ∧ n ≤ 8) (h : St G ρ x m l T D tr) (hM : Mk l T D q n s g L (szL Ω)) (hg : 0 ≤ g ∧ g < 40) :
    ∃ K : Int, (1 ≤ K ∧ K ≤ sumN (szL Ω) n) ∧ (if 0 < g then f_Lb_249 N G x Ω KK n g L s n ((q : Int) + 1) a (sumN (szL Ω) n) 1 m q0 c0 else f_Lb_249 N G x Ω KK n g L s n ((q : Int) + 1) a (sumN (szL Ω) n) 0 m q0 c0) = some (g, L, s, (n : Int), (q : Int) + 1, a, sumN (szL Ω) n, (if 0 < g then 1 else 0), K, m, q0, c0) := by
  have ha := all_bd hQ hn
  have hq := hM.1.2.1
  have ho := hM.2.1.1
  have hw := hQ.1 21 (sumN (szL Ω) n) (by omega)
  have et := s_top (N := N) h ho hs
  rw [hM.u6 hn.1] at et
  have p0 := hM.1.place (k := 0) (by omega) (m := (q : Int) + 1) (by omega)
  have f0 := (hQ.2.1 m l T D tr _ _ h ho p0).1
  rw [hM.of5 hs (by omega)] at f0
  have key : ∀ z : Int, f_Lb_302 N G x Ω KK n g L s n ((q : Int) + 1) a (sumN (szL Ω) n) z m q0 c0 = some (g, L, s, (n : Int), (q : Int) + 1, a, sumN (szL Ω) n, z, 1 + Ω.1 21 (sumN (szL Ω) n), m, q0, c0) := by
    intro z
    unfold f_Lb_302
    rw [rdW_p ⟨by decide, by decide⟩ ⟨by omega, by omega⟩, ckI_p ⟨by omega, by omega⟩]
  have key2 : ∀ z v : Int, f_Lb_268 N G x Ω KK n g L s n ((q : Int) + 1) a (sumN (szL Ω) n) z v v m q0 c0 = some (g, L, s, (n : Int), (q : Int) + 1, a, sumN (szL Ω) n, z, 1 + Ω.1 21 (sumN (szL Ω) n), m, q0, c0) := by
    intro z v
    unfold f_Lb_268
    rw [if_pos rfl, kb_p f0, if_pos (show gOne g 0 = g from rfl)]
    by_cases c : 1 < n
    · have p1 := hM.1.place (k := 1) c (m := (q : Int) + 1 + 1) (by omega)
      have f1 := (hQ.2.1 m l T D tr _ _ h ho p1).1
      rw [hM.of5 hs c] at f1
      rw [if_pos (by omega), ckI_p ⟨by omega, by omega⟩, kb_p f1, if_pos (show gOne g 1 = 0 from rfl), key]
    · rw [if_neg (by omega), key]
  refine ⟨1 + Ω.1 21 (sumN (szL Ω) n), by omega, ?_⟩
  by_cases c : 0 < g
  · rw [if_pos c, if_pos c]
    unfold f_Lb_249
    rw [kb2_p et, if_neg (by decide), if_neg (by omega), key2]
  · rw [if_neg c, if_neg c]
    unfold f_Lb_249
    rw [kb2_p et, if_pos rfl, if_pos (by omega), key2]
theorem z_Lb (hQ : oQ N G ρ x Ω) (hy : cLY G ρ x) (hN : 1000 < N) (hs : s = 0 ∨ s = 1) (hn : 1 ≤ n ∧ n ≤ 8) (hg : 0 ≤ g ∧ g < 40) (h : St G ρ x m l T D tr) (hM : Mk l T D q 0 s g L (szL Ω)) :
    ∃ (K : Int) (m' q' : qM) (l' : List (Nat → Int)) (T' D' : Nat → Int) (tr' : Nat → Nat → Int), f_Lb N G x Ω KK n g L s n ((q : Int) + 1) a m q0 c0 = some (g, L, s, (n : Int), (q : Int) + 1, a, sumN (szL Ω) n, (if 0 < g then 1 else 0), K, m', q', c0) ∧
      (1 ≤ K ∧ K ≤ sumN (szL Ω) n) ∧ St G ρ x m' l' T' D' tr' ∧ Mk l' T' D' q n s g L (szL Ω) ∧ ∀ i, i < n → gA q' a i = szL Ω i := by
  unfold f_Lb f_Lb_L158
  refine qLoop_inv (R := fun r => ∃ (K : Int) (m' q' : qM) (l' : List (Nat → Int)) (T' D' : Nat → Int) (tr' : Nat → Nat → Int), r = some (g, L, s, (n : Int), (q : Int) + 1, a, sumN (szL Ω) n, (if 0 < g then 1 else 0), K, m', q', c0) ∧ (1 ≤ K ∧ K ≤ sumN (szL Ω) n) ∧ St G ρ x m' l' T' D' tr' ∧ Mk l' T' D' q n s g L (szL Ω) ∧ ∀ i, i < n → gA q' a i = szL Ω i)
    (fun k z => ∃ (m : qM) (q1 : qM) (l : List (Nat → Int)) (T D : Nat → Int) (tr : Nat → Nat → Int), z = (g, L, s, (n : Int), (q : Int) + 1, a, sumN (szL Ω) k, (k : Int), m, q1, c0) ∧ St G ρ x m l T D tr ∧ Mk l T D q k s g L (szL Ω) ∧ ∀ i, i < k → gA q1 a i = szL Ω i) n ?_ ?_ n 0 N _ (Nat.zero_add n) (by omega) ⟨m, q0, l, T, D, tr, rfl, h, hM, fun i hi => absurd hi (Nat.not_lt_zero _)⟩
  · rintro k z hk ⟨m, q1, l, T, D, tr, rfl, h, hM, hA⟩
    obtain ⟨m', l', T', D', tr', e1, e2, e3⟩ := z_Lb_193 (KK := KK) (q0 := q1) (c0 := c0) (a := a) hQ hy hN hs hn hk h hM
    refine Or.inr ⟨(g, L, s, (n : Int), (q : Int) + 1, a, sumN (szL Ω) (k + 1), ((k + 1 : Nat) : Int), m', sA q1 a k (szL Ω k), c0), ⟨m', _, l', T', D', tr', rfl, e2, e3, fun i hi => ?_⟩, fun cont => ?_⟩
    · by_cases c : i = k
      · subst c; exact gA_s
      · rw [gA_i c]; exact hA i (by omega)
    · have e := e1 (fun x2 x3 x4 x5 x7 x8 x9 x10 p0 q0 c0 => cont (x2, x3, x4, x5, x7, x8, x9, x10, p0, q0, c0))
      refine Eq.trans ?_ e
      show f_Lb_158 N G x Ω KK n _ g L s n ((q : Int) + 1) a (sumN (szL Ω) k) k m q1 c0 = _
      unfold f_Lb_158
      rw [if_pos (by omega), ckI_p ⟨by omega, by omega⟩, rdW_p ⟨by decide, by decide⟩ ⟨by decide, by decide⟩]
      by_cases c : Ω.1 20 2 = 0
      · rw [if_pos c, if_pos c]
      · rw [if_neg c, if_neg c]
  · rintro z ⟨m, q1, l, T, D, tr, rfl, h, hM, hA⟩
    obtain ⟨K, e1, e2⟩ := z_Lb_end (N := N) (KK := KK) (q0 := q1) (c0 := c0) (a := a) hQ hs hn h hM hg
    refine ⟨_, ⟨K, m, q1, l, T, D, tr, rfl, e1, h, hM, hA⟩, fun cont => ?_⟩
    show f_Lb_158 N G x Ω KK n _ g L s n ((q : Int) + 1) a (sumN (szL Ω) n) n m q1 c0 = _
    unfold f_Lb_158
    rw [if_neg (by omega)]
    exact e2
end LB
