/-! PURE: the class holds the market: its answers, and small changes -/
/-- where the class's parts lie -/
def cLY (G : qG) (ρ : Nat → Nat × Nat) (x : Nat) : Prop :=
  cLay G ρ (gR G 700 x) ∧ cLay G ρ (gR G 701 x) ∧ gR G 700 x ≠ gR G 701 x ∧ x ≠ gR G 700 x ∧ x ≠ gR G 701 x ∧ ρ (gR G 702 x) = (x, 702) ∧ ρ (gR G 600 (gR G 702 x)) = (x, 600) ∧ ρ (gR G 609 (gR G 702 x)) = (x, 609)
/-- a floor that holds whatever orders -/
def cSt (G : qG) (ρ : Nat → Nat × Nat) (f : Nat) (μ : qM) : Prop := ∃ (A V : Nat → Nat), (∀ i, i < 60 → gQ μ (gR G 0 (gR G 200 f)) i = some (A i) ∧ gK G (A i) = 5 ∧ ρ (A i) = (f, 1000)) ∧ (∀ i j, i < 60 → j < 60 → A i = A j → i = j) ∧
  ∀ i, i < 60 → gQ μ (gR G 300 (gR G 201 f)) i = some (V i) ∧ gK G (V i) = 1005 ∧ ρ (V i) = (f, 2000 + i)
def cTa (G : qG) (p : Nat) (μ : qM) (n : Nat) (B : Nat → Int) : Prop := gI μ 601 p = (n : Int) ∧ n ≤ 500 ∧ ∀ j, j < n → gA μ (gR G 600 p) j = B j ∧ 0 ≤ B j ∧ B j < 256
def cR (G : qG) (ρ : Nat → Nat × Nat) (x : Nat) (μ : qM) (l : List (Nat → Int)) (T D : Nat → Int) (tr : Nat → Nat → Int) (n : Nat) (B : Nat → Int) : Prop :=
  cFl G ρ (gR G 700 x) μ l T D tr ∧ cSt G ρ (gR G 701 x) μ ∧ cTa G (gR G 702 x) μ n B
/-- the addresses of a floor -/
def dRole (ρ : Nat → Nat × Nat) (f : Nat) (μ ν : qM) : Prop := (∀ g a, (ρ a).1 ≠ f → gI ν g a = gI μ g a) ∧ (∀ a i, (ρ a).1 ≠ f → gA ν a i = gA μ a i) ∧ ∀ a i, (ρ a).1 ≠ f → gQ ν a i = gQ μ a i
theorem dRole.rf {ρ : Nat → Nat × Nat} {f : Nat} {μ : qM} : dRole ρ f μ μ := ⟨fun _ _ _ => rfl, fun _ _ _ => rfl, fun _ _ _ => rfl⟩
theorem dRole.tr {ρ : Nat → Nat × Nat} {f : Nat} {μ ν ξ : qM} (h1 : dRole ρ f μ ν) (h2 : dRole ρ f ν ξ) : dRole ρ f μ ξ := ⟨fun g a h => (h2.1 g a h).trans (h1.1 g a h), fun a i h => (h2.2.1 a i h).trans (h1.2.1 a i h), fun a i h => (h2.2.2 a i h).trans (h1.2.2 a i h)⟩
theorem dRole.sI {ρ : Nat → Nat × Nat} {f g a : Nat} {μ : qM} {v : Int} (h : (ρ a).1 = f) : dRole ρ f μ (sI μ g a v) := ⟨fun _ _ e => gI_a (fun q => e (by rw [q, h])), fun _ _ _ => rfl, fun _ _ _ => rfl⟩
theorem dRole.sA {ρ : Nat → Nat × Nat} {f a i : Nat} {μ : qM} {v : Int} (h : (ρ a).1 = f) : dRole ρ f μ (sA μ a i v) := ⟨fun _ _ _ => rfl, fun _ _ e => gA_a (fun q => e (by rw [q, h])), fun _ _ _ => rfl⟩
theorem dRole.sQ {ρ : Nat → Nat × Nat} {f a i : Nat} {μ : qM} {v : Option Nat} (h : (ρ a).1 = f) : dRole ρ f μ (sQ μ a i v) := ⟨fun _ _ _ => rfl, fun _ _ _ => rfl, fun _ _ e => gQ_a (fun q => e (by rw [q, h]))⟩
theorem dRole.ofB {G : qG} {ρ : Nat → Nat × Nat} {f : Nat} {μ ν : qM} (hy : cLay G ρ f) (h : dB G (gR G 200 f) μ ν) : dRole ρ f μ ν := by
  have pb : (ρ (gR G 200 f)).1 = f := by rw [show ρ (gR G 200 f) = (f, 200) from hy 200 (by decide)]
  have p2 : (ρ (gR G 2 (gR G 200 f))).1 = f := by rw [show ρ (gR G 2 (gR G 200 f)) = (f, 12) from hy 12 (by decide)]
  have p3 : (ρ (gR G 3 (gR G 200 f))).1 = f := by rw [show ρ (gR G 3 (gR G 200 f)) = (f, 13) from hy 13 (by decide)]
  have p0 : (ρ (gR G 0 (gR G 200 f))).1 = f := by rw [show ρ (gR G 0 (gR G 200 f)) = (f, 10) from hy 10 (by decide)]
  exact ⟨fun g a e => h.1 g a (fun q => e (by rw [q.2, pb])), fun a i e => h.2.1 a i (fun q => e (by rw [q, p2])) (fun q => e (by rw [q, p3])), fun a i e => h.2.2 a i (fun q => e (by rw [q, p0]))⟩
section CR
variable {N : Nat} {G : qG} {ρ : Nat → Nat × Nat} {x : Nat} {μ ν : qM} {l l' : List (Nat → Int)} {T T' D D' : Nat → Int} {tr tr' : Nat → Nat → Int} {n : Nat} {B : Nat → Int}
theorem cSt.fr {f t : Nat} (hy : cLay G ρ t) (hft : t ≠ f) (h : cSt G ρ t μ) (hd : dRole ρ f μ ν) : cSt G ρ t ν := by
  obtain ⟨A, V, h1, h2, h3⟩ := h
  have p0 : (ρ (gR G 0 (gR G 200 t))).1 ≠ f := by rw [show ρ (gR G 0 (gR G 200 t)) = (t, 10) from hy 10 (by decide)]; exact hft
  have p3 : (ρ (gR G 300 (gR G 201 t))).1 ≠ f := by rw [show ρ (gR G 300 (gR G 201 t)) = (t, 300) from hy 300 (by decide)]; exact hft
  exact ⟨A, V, fun i hi => by rw [hd.2.2 _ _ p0]; exact h1 i hi, h2, fun i hi => by rw [hd.2.2 _ _ p3]; exact h3 i hi⟩
theorem cTa.fr {f : Nat} (hy : cLY G ρ x) (hx : x ≠ f) (h : cTa G (gR G 702 x) μ n B) (hd : dRole ρ f μ ν) : cTa G (gR G 702 x) ν n B := by
  have p1 : (ρ (gR G 702 x)).1 ≠ f := by rw [hy.2.2.2.2.2.1]; exact hx
  have p2 : (ρ (gR G 600 (gR G 702 x))).1 ≠ f := by rw [hy.2.2.2.2.2.2.1]; exact hx
  exact ⟨by rw [hd.1 _ _ p1]; exact h.1, h.2.1, fun j hj => by rw [hd.2.1 _ _ p2]; exact h.2.2 j hj⟩
/-- after what changes the market's own floor alone -/
theorem cR.flo (hy : cLY G ρ x) (h : cR G ρ x μ l T D tr n B) (hd : dRole ρ (gR G 700 x) μ ν) (hf : cFl G ρ (gR G 700 x) ν l' T' D' tr') : cR G ρ x ν l' T' D' tr' n B :=
  ⟨hf, h.2.1.fr hy.2.1 (Ne.symm hy.2.2.1) hd, h.2.2.fr hy hy.2.2.2.1 hd⟩
theorem z_grant7 (hy : cLY G ρ x) (h : cR G ρ x μ l T D tr n B) (v : Int) : ∃ ν, f_X7_grant N G x v μ = some (if aIn v 0 1000 = true then T 0 else -1, ν) ∧ cR G ρ x ν l (if aIn v 0 1000 = true then upd1 T 0 v else T) D tr n B := by
  unfold f_X7_grant
  by_cases c : 0 ≤ v ∧ v ≤ 1000
  · have c' : aIn v 0 1000 = true := decide_eq_true c
    obtain ⟨A, V, nx, h1, h2, h3, h4, h5, h6, h7, h8⟩ := h.1
    rw [if_neg (by omega), if_neg (by omega), kp_p, if_pos c', if_pos c', h4.1]
    have pf : (ρ (gR G 700 x)).1 = gR G 700 x := by rw [show ρ (gR G 700 x) = (gR G 700 x, 1) from hy.1 1 (by decide)]
    refine ⟨_, rfl, h.flo hy (dRole.sI pf) ⟨A, V, nx, ⟨by rw [gI_f (by decide)]; exact h1.1, h1.2.1, h1.2.2.1, fun i k hi hk => by rw [gI_f (by omega)]; exact h1.2.2.2 i k hi hk⟩, h2, fun s hs => by rw [upd1_n (by omega), upd1_n (by omega)]; exact h3 s hs, ?_, ?_, fun t ht => by rw [upd1_n (by omega)]; exact h6 t ht, h7, fun i w hi => h8 i w (by rwa [upd1_n (by decide)] at hi)⟩⟩
    · rw [gI_s, upd1_s, gI_f (by decide), gI_f (by decide), gI_f (by decide), gI_f (by decide), gI_f (by decide)]
      exact ⟨rfl, h4.2⟩
    · rw [gI_f (by decide), gI_f (by decide), gI_f (by decide), gI_f (by decide)]
      exact h5
  · have c' : ¬ aIn v 0 1000 = true := fun q => c (of_decide_eq_true q)
    rw [if_neg c', if_neg c']
    refine ⟨μ, ?_, h⟩
    by_cases d : v < 0
    · rw [if_pos d]
    · rw [if_neg d, if_pos (by omega)]
theorem z_least7 (hy : cLY G ρ x) (h : cR G ρ x μ l T D tr n B) (v : Int) : ∃ ν, f_X7_least N G x v μ = some (if aIn v 1 50 = true then T 1 else -1, ν) ∧ cR G ρ x ν l (if aIn v 1 50 = true then upd1 T 1 v else T) D tr n B := by
  unfold f_X7_least
  by_cases c : 1 ≤ v ∧ v ≤ 50
  · have c' : aIn v 1 50 = true := decide_eq_true c
    obtain ⟨A, V, nx, h1, h2, h3, h4, h5, h6, h7, h8⟩ := h.1
    rw [if_neg (by omega), if_neg (by omega), kp_p, if_pos c', if_pos c', h4.2.1]
    have pf : (ρ (gR G 700 x)).1 = gR G 700 x := by rw [show ρ (gR G 700 x) = (gR G 700 x, 1) from hy.1 1 (by decide)]
    refine ⟨_, rfl, h.flo hy (dRole.sI pf) ⟨A, V, nx, ⟨by rw [gI_f (by decide)]; exact h1.1, h1.2.1, h1.2.2.1, fun i k hi hk => by rw [gI_f (by omega)]; exact h1.2.2.2 i k hi hk⟩, h2, fun s hs => by rw [upd1_n (by omega), upd1_n (by omega)]; exact h3 s hs, ?_, ?_, fun t ht => by rw [upd1_n (by omega)]; exact h6 t ht, h7, fun i w hi => h8 i w (by rwa [upd1_n (by decide)] at hi)⟩⟩
    · rw [gI_s, upd1_s, gI_f (by decide), gI_f (by decide), gI_f (by decide), gI_f (by decide), gI_f (by decide)]
      exact ⟨h4.1, rfl, h4.2.2⟩
    · rw [gI_f (by decide), gI_f (by decide), gI_f (by decide), gI_f (by decide)]
      exact h5
  · have c' : ¬ aIn v 1 50 = true := fun q => c (of_decide_eq_true q)
    rw [if_neg c', if_neg c']
    refine ⟨μ, ?_, h⟩
    by_cases d : v < 1
    · rw [if_pos d]
    · rw [if_neg d, if_pos (by omega)]
theorem z_count7 (h : cR G ρ x μ l T D tr n B) (hT : T 2 = 0 ∨ T 2 = 1) (w : Int) : f_X7_count N G x w μ = some (aCount l T n w, μ) := by
  obtain ⟨A, V, nx, h1, h2, h3, h4, h5, h6, h7, h8⟩ := h.1
  unfold f_X7_count aCount
  have e : (if T 2 = 0 then some ((0 : Int), μ) else some (1, μ)) = some (T 2, μ) := by rcases hT with q | q <;> rw [q] <;> rfl
  rw [h1.1, h4.2.2.1, h5.1, h4.1, h4.2.1, h4.2.2.2.1, h.2.2.1, h5.2.1, h5.2.2.1, h4.2.2.2.2.1, h4.2.2.2.2.2, e]
  simp only [ite_some]
theorem z_top7 (h : cR G ρ x μ l T D tr n B) (hT : ∀ s, s < 2 → T (6 + s) = -1 ∨ 1 ≤ T (6 + s)) (s : Int) : f_X7_top N G x s μ = some (if aIn s 0 1 = true then T (6 + s.toNat) else -1, μ) := by
  obtain ⟨A, V, nx, h1, h2, h3, h4, h5, h6, h7, h8⟩ := h.1
  unfold f_X7_top
  rw [kb2_p z_isSide7, b01_ite]
  by_cases c : aIn s 0 1 = true
  · have hs : 0 ≤ s ∧ s ≤ 1 := of_decide_eq_true c
    have ht := hT s.toNat (by omega)
    rw [if_pos c, if_pos c, rdA_p ⟨by omega, by omega⟩, rdA_p ⟨by omega, by omega⟩, (h3 s.toNat (by omega)).1]
    unfold nz
    by_cases d : T (6 + s.toNat) = -1
    · rw [if_pos d, if_pos rfl, d]
    · rw [if_neg d, if_neg (by omega)]
  · rw [if_neg c, if_neg c]
theorem aQ_neg {s p k : Int} (hk : k < 0) : ∀ (t : List (Nat → Int)) (c : Int), 0 ≤ c → aQ s p k t c = -1 := by
  intro t
  induction t with
  | nil => intro c _; rfl
  | cons o t ih =>
    intro c hc
    rw [aQ_c]
    split
    · rw [if_neg (by omega)]; exact ih _ (by omega)
    · exact ih _ hc
theorem aQ_side {s p k : Int} : ∀ (t : List (Nat → Int)) (c : Int), (∀ i, i < t.length → lG t i 2 ≠ s) → aQ s p k t c = -1 := by
  intro t
  induction t with
  | nil => intro c _; rfl
  | cons o t ih =>
    intro c h
    have h0 : o 2 ≠ s := h 0 (by simp)
    rw [aQ_c, if_neg (by unfold aAt; simp; exact fun q => absurd q h0)]
    exact ih _ (fun i hi => h (i + 1) (by simpa using hi))
theorem z_queue7 (h : cR G ρ x μ l T D tr n B) (hl : lOk l) (hN : 100 < N) (s p k : Int) : f_X7_queue N G x s p k μ = some (aQ s p k l 0, μ) := by
  obtain ⟨A, V, nx, h1, h2, h3, h4, h5, h6, h7, h8⟩ := h.1
  unfold f_X7_queue
  rw [kb2_p z_isSide7, b01_ite]
  by_cases c : aIn s 0 1 = true
  · rw [if_pos c]
    by_cases d : k < 0
    · rw [if_pos d, aQ_neg d l 0 (Int.le_refl _)]
    · rw [if_neg d, kb2_p (z_numberAt0 h1 hl.1 hN)]
  · rw [if_neg c, aQ_side]
    intro i hi e
    have ho := (hl.2 i hi).2.2.1
    exact c (decide_eq_true (by omega))
end CR
