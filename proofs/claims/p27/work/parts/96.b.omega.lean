/-! PURE: what the law's stretches take besides: there is such a thing -/
theorem o_pick {α β : Type} {P : α → β → Prop} (hu : ∀ a v w, P a v → P a w → v = w) : ∃ f : α → Option β, ∀ a v, f a = some v ↔ P a v := by
  have h : ∀ a, ∃ r : Option β, ∀ v, r = some v ↔ P a v := by
    intro a
    by_cases q : ∃ v, P a v
    · obtain ⟨v, hv⟩ := q
      exact ⟨some v, fun w => ⟨fun e => by cases e; exact hv, fun hw => by rw [hu a v w hv hw]⟩⟩
    · exact ⟨none, fun w => ⟨fun e => (by cases e), fun hw => absurd ⟨w, hw⟩ q⟩⟩
  exact ⟨fun a => Classical.choose (h a), fun a => Classical.choose_spec (h a)⟩
def oP (N : Nat) (G : qG) (x : Nat) (z : qM × Int) (v : Int) : Prop := ∃ o, f_X0_find N G (gR G 200 (gR G 700 x)) z.2 z.1 = some (some o, z.1) ∧ f_X0_grantOf N G (gR G 200 (gR G 700 x)) o z.1 = some (v, z.1)
def oS (N : Nat) (G : qG) (x : Nat) (z : qM × Int) (v : Int × Nat) : Prop := (∃ o, f_X0_find N G (gR G 200 (gR G 700 x)) z.2 z.1 = some (some o, z.1) ∧ v = (gI z.1 404 o, 0)) ∨ f_X0_find N G (gR G 200 (gR G 700 x)) z.2 z.1 = some (none, z.1) ∧ v = (0, 1)
theorem o_some {a b : Nat} {m : qM} {r : Option (Option Nat × qM)} (h1 : r = some (some a, m)) (h2 : r = some (some b, m)) : a = b := by
  rw [h1] at h2
  injection h2 with h2
  injection h2 with h2
  injection h2
theorem o_none {a : Nat} {m : qM} {r : Option (Option Nat × qM)} (h1 : r = some (some a, m)) (h2 : r = some (none, m)) : False := by
  rw [h1] at h2
  injection h2 with h2
  injection h2 with h2
  cases h2
theorem o_ex {N : Nat} {G : qG} {ρ : Nat → Nat × Nat} {x L : Nat} {xs : Nat → Int32} {sa : Nat × Nat × Nat} (hT : qT G) (kx : gK G x = 8) (hN : 1000 < N) : ∃ Ω : oB, (∀ Y : lB, y7 Y = G → yOk Y xs L x sa Ω) ∧ oQ N G ρ x Ω := by
  obtain ⟨f, hf⟩ := o_pick (P := oP N G x) (fun a v w h1 h2 => by
    obtain ⟨o, a1, a2⟩ := h1
    obtain ⟨o', b1, b2⟩ := h2
    have e := o_some a1 b1
    subst e
    rw [a2] at b2
    injection b2 with b2
    injection b2)
  obtain ⟨g, hg⟩ := o_pick (P := oS N G x) (fun a v w h1 h2 => by
    rcases h1 with ⟨o, a1, a2⟩ | ⟨a1, a2⟩ <;> rcases h2 with ⟨o', b1, b2⟩ | ⟨b1, b2⟩
    · have e := o_some a1 b1
      subst e
      rw [a2, b2]
    · exact (o_none a1 b1).elim
    · exact (o_none b1 a1).elim
    · rw [a2, b2])
  refine ⟨(sSome xs L, fun m k => f (m, k), fun m k => g (m, k)), fun Y hY => ?_, fun k n hn => sSome_bd hn, fun m l T D tr k i h hk hp => ?_, fun m l T D tr k h hk hp => ?_⟩
  · subst hY
    refine ⟨rfl, fun m k v rk h l => ?_, fun m k v rk h l => ?_, fun m k v d rk h => ?_⟩
    · obtain ⟨o, a1, a2⟩ := (hf (m, k) v).mp h
      exact k_X7_of_ok l hT kx rk (by decide) a1 (Or.inr (Or.inr (Or.inr (Or.inr (Or.inr ⟨rfl, a2⟩)))))
    · rcases (hg (m, k) (v, 0)).mp h with ⟨o, a1, a2⟩ | ⟨a1, a2⟩
      · injection a2 with a2
        exact k_X7_of_ok l hT kx rk (by decide) a1 (Or.inr (Or.inr (Or.inr (Or.inl ⟨rfl, a2⟩))))
      · injection a2 with _ a2
        cases a2
    · rcases (hg (m, k) (v, d + 1)).mp h with ⟨o, a1, a2⟩ | ⟨a1, a2⟩
      · injection a2 with _ a2
        cases a2
      · injection a2 with a2
        exact ⟨a2, fun l hl => x_X7_of l hl hT kx rk (by decide) a1 (Or.inl rfl)⟩
  · obtain ⟨A, V, nx, hf0⟩ := id h.1.1
    have e0 := z_find0 (N := N) (n := k) hf0.1 hk.lo.1 (by omega)
    obtain ⟨-, hi, -, -⟩ := aPl_some hp
    rw [Nat.zero_add] at hi
    have hg0 : ∀ k : Nat, k < 6 → gI m (400 + k) (A i) = lG l i k := fun k hk6 => hf0.1.2.2.2 i k hi hk6
    have ok := hk.lo.2 i hi
    rw [hp] at e0
    have e1 := z_grantOf0 (N := N) hf0.2.2.1 (hg0 0 (by decide)) (hg0 2 (by decide)) ok.2.2.1 ok.1.1
    exact ⟨(hf (m, k) _).mpr ⟨_, e0, e1⟩, (hg (m, k) _).mpr (Or.inl ⟨_, e0, by rw [show gI m 404 (A i) = lG l i 4 from hg0 4 (by decide)]⟩)⟩
  · obtain ⟨A, V, nx, hf0⟩ := id h.1.1
    have e0 := z_find0 (N := N) (n := k) hf0.1 hk.lo.1 (by omega)
    rw [hp] at e0
    exact (hg (m, k) _).mpr (Or.inr ⟨e0, rfl⟩)
