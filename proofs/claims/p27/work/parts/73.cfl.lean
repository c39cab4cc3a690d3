/-! PURE: a floor of the class holds the market l, T, D, tr -/
def cFlx (G : qG) (ρ : Nat → Nat × Nat) (f : Nat) (A V : Nat → Nat) (nx : Nat) (μ : qM) (l : List (Nat → Int)) (T D : Nat → Int) (tr : Nat → Nat → Int) : Prop :=
  cB G (gR G 200 f) A μ l ∧ (∀ i, i < 60 → ρ (A i) = (f, 1000)) ∧ cTp G (gR G 200 f) μ T ∧
  (gI μ 205 f = T 0 ∧ gI μ 206 f = T 1 ∧ gI μ 207 f = T 2 ∧ gI μ 208 f = T 4 ∧ gI μ 209 f = T 12 ∧ gI μ 211 f = T 13) ∧
  (gI μ 303 (gR G 201 f) = T 3 ∧ gI μ 301 (gR G 201 f) = T 10 ∧ gI μ 304 (gR G 201 f) = T 11 ∧ gI μ 302 (gR G 201 f) = (nx : Int) ∧ nx < 60) ∧
  (∀ t, t < 10 → gA μ (gR G 305 (gR G 201 f)) t = T (14 + t) ∧ gA μ (gR G 306 (gR G 201 f)) t = D t) ∧
  (∀ i, i < 60 → gQ μ (gR G 300 (gR G 201 f)) i = some (V i) ∧ gK G (V i) = 1005 ∧ ρ (V i) = (f, 2000 + i)) ∧
  ∀ i w : Nat, (i : Int) < T 10 → i < 60 → w < 5 → gA μ (V ((nx + 59 - i) % 60)) w = tr i w
def cFl (G : qG) (ρ : Nat → Nat × Nat) (f : Nat) (μ : qM) (l : List (Nat → Int)) (T D : Nat → Int) (tr : Nat → Nat → Int) : Prop := ∃ A V nx, cFlx G ρ f A V nx μ l T D tr
section CFL
variable {G : qG} {ρ : Nat → Nat × Nat} {f : Nat} {A A' V : Nat → Nat} {nx : Nat} {μ ν : qM} {l l' : List (Nat → Int)} {T T' D : Nat → Int} {tr : Nat → Nat → Int}
/-- after a change of the book alone -/
theorem cFlx.book (hy : cLay G ρ f) (h : cFlx G ρ f A V nx μ l T D tr) (hd : dB G (gR G 200 f) μ ν) (hb : cB G (gR G 200 f) A' ν l') (hA : ∀ i, i < 60 → ∃ j, j < 60 ∧ A' i = A j) (ht : cTp G (gR G 200 f) ν T') (hT : ∀ j, j ≠ 6 → j ≠ 7 → j ≠ 8 → j ≠ 9 → T' j = T j) : cFlx G ρ f A' V nx ν l' T' D tr := by
  obtain ⟨h1, h2, h3, h4, h5, h6, h7, h8⟩ := h
  have hI : ∀ g a, g ≠ 1 → gI ν g a = gI μ g a := fun g a hg => hd.1 g a (fun e => hg e.1)
  have r2 : ρ (gR G 2 (gR G 200 f)) = (f, 12) := hy 12 (by decide)
  have r3 : ρ (gR G 3 (gR G 200 f)) = (f, 13) := hy 13 (by decide)
  have r0 : ρ (gR G 0 (gR G 200 f)) = (f, 10) := hy 10 (by decide)
  have r300 : ρ (gR G 300 (gR G 201 f)) = (f, 300) := hy 300 (by decide)
  have r305 : ρ (gR G 305 (gR G 201 f)) = (f, 305) := hy 305 (by decide)
  have r306 : ρ (gR G 306 (gR G 201 f)) = (f, 306) := hy 306 (by decide)
  have hAr : ∀ a p i, ρ a = (f, p) → p ≠ 12 → p ≠ 13 → gA ν a i = gA μ a i := fun a p i ha p2 p3 => hd.2.1 a i (role_ne ha r2 (fun e => p2 (congrArg Prod.snd e))) (role_ne ha r3 (fun e => p3 (congrArg Prod.snd e)))
  refine ⟨hb, fun i hi => ?_, ht, ?_, ?_, fun t htt => ?_, fun i hi => ?_, fun i w hi hi60 hw => ?_⟩
  · obtain ⟨j, hj, e⟩ := hA i hi
    rw [e]; exact h2 j hj
  · rw [hI _ _ (by decide), hI _ _ (by decide), hI _ _ (by decide), hI _ _ (by decide), hI _ _ (by decide), hI _ _ (by decide), hT _ (by decide) (by decide) (by decide) (by decide), hT _ (by decide) (by decide) (by decide) (by decide), hT _ (by decide) (by decide) (by decide) (by decide), hT _ (by decide) (by decide) (by decide) (by decide), hT _ (by decide) (by decide) (by decide) (by decide), hT _ (by decide) (by decide) (by decide) (by decide)]
    exact h4
  · rw [hI _ _ (by decide), hI _ _ (by decide), hI _ _ (by decide), hI _ _ (by decide), hT _ (by decide) (by decide) (by decide) (by decide), hT _ (by decide) (by decide) (by decide) (by decide), hT _ (by decide) (by decide) (by decide) (by decide)]
    exact h5
  · rw [hAr _ 305 t r305 (by decide) (by decide), hAr _ 306 t r306 (by decide) (by decide), hT _ (by omega) (by omega) (by omega) (by omega)]
    exact h6 t htt
  · rw [hd.2.2 _ _ (role_ne r300 r0 (fun e => absurd (show (300 : Nat) = 10 from congrArg Prod.snd e) (by decide)))]
    exact h7 i hi
  · rw [hT _ (by decide) (by decide) (by decide) (by decide)] at hi
    rw [hAr _ _ w (h7 _ (Nat.mod_lt _ (by decide))).2.2 (by omega) (by omega)]
    exact h8 i w hi hi60 hw
/-- one number of an order is set -/
theorem cFlx.ord (h : cFlx G ρ f A V nx μ l T D tr) (hl : l.length ≤ 60) {i w : Nat} (hi : i < l.length) (hw : w < 6) {v : Int} : cFlx G ρ f A V nx (sI μ (400 + w) (A i) v) (l.set i (upd1 (lG l i) w v)) T D tr := by
  obtain ⟨h1, h2, h3, h4, h5, h6, h7, h8⟩ := h
  have hI : ∀ g a, (g < 400 ∨ 406 ≤ g) → gI (sI μ (400 + w) (A i) v) g a = gI μ g a := fun g a hg => gI_f (by omega)
  refine ⟨⟨?_, h1.2.1, h1.2.2.1, fun j k hj hk => ?_⟩, h2, h3, ?_, ?_, h6, h7, h8⟩
  · rw [hI _ _ (by decide), List.length_set]; exact h1.1
  · rw [List.length_set] at hj
    rw [lG_set hi]
    by_cases c : j = i
    · subst c
      rw [if_pos rfl]
      by_cases d : k = w
      · subst d; rw [gI_s, upd1_s]
      · rw [gI_f (by omega), upd1_n d]; exact h1.2.2.2 j k hj hk
    · rw [if_neg c, gI_a (fun e => c (h1.2.2.1 j i (by omega) (by omega) e))]
      exact h1.2.2.2 j k hj hk
  · rw [hI _ _ (by decide), hI _ _ (by decide), hI _ _ (by decide), hI _ _ (by decide), hI _ _ (by decide), hI _ _ (by decide)]; exact h4
  · rw [hI _ _ (by decide), hI _ _ (by decide), hI _ _ (by decide), hI _ _ (by decide)]; exact h5
/-- a change elsewhere -/
theorem cFlx.fr (hy : cLay G ρ f) (h : cFlx G ρ f A V nx μ l T D tr) (hl : l.length ≤ 60) (hI : ∀ g a, (ρ a).1 = f → gI ν g a = gI μ g a) (hA : ∀ a i, (ρ a).1 = f → gA ν a i = gA μ a i) (hQ : ∀ a i, (ρ a).1 = f → gQ ν a i = gQ μ a i) : cFlx G ρ f A V nx ν l T D tr := by
  obtain ⟨h1, h2, h3, h4, h5, h6, h7, h8⟩ := h
  have p : ∀ k, k ∈ cLab → (ρ (cAd G f k)).1 = f := fun k hk => by rw [hy k hk]
  have pf : (ρ f).1 = f := p 1 (by decide)
  have pb : (ρ (gR G 200 f)).1 = f := p 200 (by decide)
  have pd : (ρ (gR G 201 f)).1 = f := p 201 (by decide)
  have p10 : (ρ (gR G 0 (gR G 200 f))).1 = f := p 10 (by decide)
  have p12 : (ρ (gR G 2 (gR G 200 f))).1 = f := p 12 (by decide)
  have p13 : (ρ (gR G 3 (gR G 200 f))).1 = f := p 13 (by decide)
  have p300 : (ρ (gR G 300 (gR G 201 f))).1 = f := p 300 (by decide)
  have p305 : (ρ (gR G 305 (gR G 201 f))).1 = f := p 305 (by decide)
  have p306 : (ρ (gR G 306 (gR G 201 f))).1 = f := p 306 (by decide)
  have pA : ∀ i, i < 60 → (ρ (A i)).1 = f := fun i hi => by rw [h2 i hi]
  refine ⟨⟨by rw [hI _ _ pb]; exact h1.1, fun i hi => by rw [hQ _ _ p10]; exact h1.2.1 i hi, h1.2.2.1, fun i k hi hk => ?_⟩, h2, fun s hs => by rw [hA _ _ p12, hA _ _ p13]; exact h3 s hs, ?_, ?_, fun t ht => by rw [hA _ _ p305, hA _ _ p306]; exact h6 t ht, fun i hi => by rw [hQ _ _ p300]; exact h7 i hi, fun i w a b c => ?_⟩
  · rw [hI _ _ (pA i (by omega))]; exact h1.2.2.2 i k hi hk
  · rw [hI _ _ pf, hI _ _ pf, hI _ _ pf, hI _ _ pf, hI _ _ pf, hI _ _ pf]; exact h4
  · rw [hI _ _ pd, hI _ _ pd, hI _ _ pd, hI _ _ pd]; exact h5
  · rw [hA _ _ (by rw [(h7 _ (Nat.mod_lt _ (by decide))).2.2])]
    exact h8 i w a b c
end CFL
