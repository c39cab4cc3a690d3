/-! PURE: the law's first stretch -/
section LA
variable {N : Nat} {G : qG} {ρ : Nat → Nat × Nat} {x : Nat} {Ω : oB} {KK : Nat → Nat} {nn : Nat} {m q0 : qM} {c0 : Nat}
theorem z_La_far (hy : cLY G ρ x) (hN : 1000 < N) {T D : Nat → Int} {tr : Nat → Nat → Int} {g L s n : Int} (hs : s = 0 ∨ s = 1) (h : St G ρ x m [] T D tr) (hM : ∀ sz, Mk [] T D 0 0 s g L sz) {p : Int} (hp : p = pFar s) :
    ∃ (m' : qM) (l : List (Nat → Int)) (T' D' : Nat → Int) (tr' : Nat → Nat → Int), f_La_123 N G x Ω KK nn g L s n 1 9 s p m q0 c0 = some (g, L, s, n, 2, m', q0, c0) ∧ St G ρ x m' l T' D' tr' ∧ ∀ sz, Mk l T' D' 1 0 s g L sz := by
  obtain ⟨-, ⟨ho, hw, hd⟩, -, ⟨-, -, u2, u4, -⟩, -⟩ := hM (fun _ => 0)
  have hp2 : p = 99 ∨ p = 101 := by rw [hp]; unfold pFar; split <;> omega
  obtain ⟨ν, e1, e2⟩ := s_order (N := N) hy h ho hw hd u2 (by omega) hN (t0 := 9) (s := s) (pr := p) (z0 := 5) (mode := 0) ⟨by omega, hs, by omega, by omega, by omega⟩ (by omega)
  have f1 := fun sz => Mk.far (tr := tr) hs (hM sz) hp
  refine ⟨ν, _, _, _, _, ?_, e2, fun sz => (f1 sz).2⟩
  unfold f_La_123
  rw [kb2_p e1, (f1 (fun _ => 0)).1, if_pos rfl]
  rfl
theorem z_La (hQ : oQ N G ρ x Ω) (hy : cLY G ρ x) (hN : 1000 < N) (h : St G ρ x m [] T0 (fun _ => 0) (fun _ _ => 0)) :
    ∃ (g L s : Int) (n q : Nat) (m' : qM) (l : List (Nat → Int)) (T D : Nat → Int) (tr : Nat → Nat → Int), f_La N G x Ω KK nn m q0 c0 = some (g, L, s, (n : Int), (q : Int) + 1, m', q0, c0) ∧ (0 ≤ g ∧ g < 40) ∧ (1 ≤ L ∧ L ≤ 9) ∧ (s = 0 ∨ s = 1) ∧ (1 ≤ n ∧ n ≤ 8) ∧ St G ρ x m' l T D tr ∧ ∀ sz, Mk l T D q 0 s g L sz := by
  have w1 := hQ.1 0 40 (by decide)
  have w2 := hQ.1 1 9 (by decide)
  have w3 := hQ.1 2 2 (by decide)
  have w4 := hQ.1 3 8 (by decide)
  unfold f_La
  rw [rdW_p ⟨by decide, by decide⟩ ⟨by decide, by decide⟩, rdW_p ⟨by decide, by decide⟩ ⟨by decide, by decide⟩]
  generalize Ω.1 0 40 = g at *
  generalize Ω.1 1 9 = v2 at *
  rw [ckI_p ⟨by omega, by omega⟩]
  obtain ⟨m1, e1, h1⟩ := s_grant (N := N) hy h (v := g) ⟨by omega, by omega⟩
  rw [kb2_p e1, if_pos (show T0 0 = 20 from rfl)]
  obtain ⟨m2, e2, h2⟩ := s_least (N := N) hy h1 (v := 1 + v2) ⟨by omega, by omega⟩
  rw [kb2_p e2, if_pos (show upd1 T0 0 g 1 = 2 by rw [upd1_n (by decide)]; rfl), kb2_p s_least51, if_pos rfl]
  have hM : ∀ s, (s = 0 ∨ s = 1) → ∀ sz, Mk [] (upd1 (upd1 T0 0 g) 1 (1 + v2)) (fun _ => 0) 0 0 s g (1 + v2) sz := fun s hs sz => Mk.new hs ⟨by omega, by omega⟩ ⟨by omega, by omega⟩ (fun _ => rfl)
  have e3 := s_top (N := N) h2 (hM 0 (Or.inl rfl) (fun _ => 0)).2.1.1 (s := 0) (Or.inl rfl)
  rw [kb2_p e3, if_pos (show upd1 (upd1 T0 0 g) 1 (1 + v2) (6 + (0 : Int).toNat) = -1 by rw [upd1_n (by decide), upd1_n (by decide)]; rfl)]
  rw [rdW_p ⟨by decide, by decide⟩ ⟨by decide, by decide⟩, rdW_p ⟨by decide, by decide⟩ ⟨by decide, by decide⟩]
  generalize Ω.1 2 2 = s at *
  generalize Ω.1 3 8 = v17 at *
  rw [ckI_p ⟨by omega, by omega⟩, rdW_p ⟨by decide, by decide⟩ ⟨by decide, by decide⟩]
  have hs : s = 0 ∨ s = 1 := by omega
  obtain ⟨n, hn⟩ : ∃ n : Nat, 1 + v17 = (n : Int) := ⟨(1 + v17).toNat, by omega⟩
  rw [hn]
  by_cases c : Ω.1 4 2 = 0
  · rw [if_pos c]
    have key : ∃ (m' : qM) (l : List (Nat → Int)) (T' D' : Nat → Int) (tr' : Nat → Nat → Int), f_La_99 N G x Ω KK nn g (1 + v2) s n 1 m2 q0 c0 = some (g, 1 + v2, s, (n : Int), 2, m', q0, c0) ∧ St G ρ x m' l T' D' tr' ∧ ∀ sz, Mk l T' D' 1 0 s g (1 + v2) sz := by
      unfold f_La_99
      rw [if_neg (by decide)]
      rcases hs with d | d
      · rw [if_pos d]
        exact z_La_far hy hN (Or.inl d) h2 (hM s (Or.inl d)) (by rw [d]; rfl)
      · rw [if_neg (by omega)]
        exact z_La_far hy hN (Or.inr d) h2 (hM s (Or.inr d)) (by rw [d]; rfl)
    obtain ⟨m', l, T', D', tr', k1, k2, k3⟩ := key
    exact ⟨g, 1 + v2, s, n, 1, m', l, T', D', tr', k1, ⟨by omega, by omega⟩, ⟨by omega, by omega⟩, hs, ⟨by omega, by omega⟩, k2, k3⟩
  · rw [if_neg c]
    exact ⟨g, 1 + v2, s, n, 0, m2, [], _, _, _, rfl, ⟨by omega, by omega⟩, ⟨by omega, by omega⟩, hs, ⟨by omega, by omega⟩, h2, hM s hs⟩
end LA
