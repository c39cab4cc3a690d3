/-! PURE: the guards pass -/
theorem ckI_p {α : Type} {z : Int} {k : Int → Option α} (h : in32 z) : ckI z k = k z := if_pos h
theorem ckJ_p {α : Type} {z : Int} {k : Int → Option α} (h : in64 z) : ckJ z k = k z := if_pos h
theorem ckD_p {α : Type} {b : Int} {k : Option α} (h : ¬ b = 0) : ckD b k = k := if_neg h
theorem rdA_p {α : Type} {μ : qM} {a : Nat} {i n : Int} {k : Int → Option α} (h : 0 ≤ i ∧ i < n) : rdA μ a i n k = k (gA μ a i.toNat) := if_pos h
theorem rdQ_p {α : Type} {K : Nat → Nat} {c : Nat} {μ : qM} {a o : Nat} {i n : Int} {k : Nat → Option α} (h : 0 ≤ i ∧ i < n) (hq : gQ μ a i.toNat = some o) (hk : K o = c) : rdQ K c μ a i n k = k o := by
  unfold rdQ
  rw [if_pos h, hq]
  exact if_pos hk
theorem wrA_p {α : Type} {μ : qM} {a : Nat} {i n v : Int} {k : qM → Option α} (h : 0 ≤ i ∧ i < n) : wrA μ a i n v k = k (sA μ a i.toNat v) := if_pos h
theorem wrB_p {α : Type} {μ : qM} {a : Nat} {i n v : Int} {k : qM → Option α} (h : 0 ≤ i ∧ i < n) (hv : -128 ≤ v ∧ v ≤ 127) : wrB μ a i n v k = k (sA μ a i.toNat v) := if_pos ⟨h, hv⟩
theorem wrQ_p {α : Type} {μ : qM} {a : Nat} {i n : Int} {o : Nat} {k : qM → Option α} (h : 0 ≤ i ∧ i < n) : wrQ μ a i n o k = k (sQ μ a i.toNat (some o)) := if_pos h
theorem kp_p {α β : Type} {v : α} {k : α → Option β} : kp v k = k v := rfl
theorem kb_p {α β : Type} {v : Option α} {x : α} {k : α → Option β} (h : v = some x) : kb v k = k x := by rw [h]; rfl
theorem kb2_p {α β γ : Type} {v : Option (α × β)} {x : α} {y : β} {k : α → β → Option γ} (h : v = some (x, y)) : kb2 v k = k x y := by rw [h]; rfl
theorem qLoop_s {σ ρ : Type} {step : (σ → Option ρ) → σ → Option ρ} {n : Nat} {s : σ} : qLoop step (n + 1) s = step (qLoop step n) s := rfl
/-- a loop that from s steps to s' by its own continuation -/
theorem qLoop_t {σ ρ : Type} {step : (σ → Option ρ) → σ → Option ρ} {n : Nat} {s s' : σ} (h : ∀ k, step k s = k s') (hn : 0 < n) : qLoop step n s = qLoop step (n - 1) s' := by
  obtain ⟨m, rfl⟩ : ∃ m, n = m + 1 := ⟨n - 1, by omega⟩
  rw [qLoop_s, h]
  rfl
/-- and one that ends there -/
theorem qLoop_x {σ ρ : Type} {step : (σ → Option ρ) → σ → Option ρ} {n : Nat} {s : σ} {r : Option ρ} (h : ∀ k, step k s = r) (hn : 0 < n) : qLoop step n s = r := by
  obtain ⟨m, rfl⟩ : ∃ m, n = m + 1 := ⟨n - 1, by omega⟩
  rw [qLoop_s, h]
/-- j turns: states s 0, s 1 .. s j, each stepping to the next -/
theorem qLoop_j {σ ρ : Type} {step : (σ → Option ρ) → σ → Option ρ} (s : Nat → σ) : ∀ (j n : Nat), j ≤ n → (∀ i, i < j → ∀ k, step k (s i) = k (s (i + 1))) → qLoop step n (s 0) = qLoop step (n - j) (s j) := by
  intro j
  induction j with
  | zero => intro n _ _; rfl
  | succ j ih =>
    intro n hn h
    rw [ih n (by omega) (fun i hi => h i (by omega)), qLoop_t (h j (by omega)) (by omega)]
    congr 1
/-- a loop over places: states s 0 .. s j, each stepping to the next, the last ends -/
theorem qLoop_end {σ ρ : Type} {step : (σ → Option ρ) → σ → Option ρ} (s : Nat → σ) (j n : Nat) {r : Option ρ} (hn : j < n) (h : ∀ i, i < j → ∀ k, step k (s i) = k (s (i + 1))) (hx : ∀ k, step k (s j) = r) : qLoop step n (s 0) = r := by
  rw [qLoop_j s j n (by omega) h]
  exact qLoop_x hx (by omega)
/-- as qLoop_end, but the j-th state need only be reached: it ends there, in whatever way -/
theorem qLoop_inv {σ ρ : Type} {step : (σ → Option ρ) → σ → Option ρ} (I : Nat → σ → Prop) (R : Option ρ → Prop) (e : Nat)
    (hs : ∀ i s, i < e → I i s → (∃ r, R r ∧ ∀ k, step k s = r) ∨ ∃ s', I (i + 1) s' ∧ ∀ k, step k s = k s') (hx : ∀ s, I e s → ∃ r, R r ∧ ∀ k, step k s = r) : ∀ (d i n : Nat) (s : σ), i + d = e → d < n → I i s → R (qLoop step n s) := by
  intro d
  induction d with
  | zero =>
    intro i n s hi hn hI
    obtain ⟨r, hr, hk⟩ := hx s (by rw [← hi]; exact hI)
    rw [qLoop_x hk (by omega)]
    exact hr
  | succ d ih =>
    intro i n s hi hn hI
    rcases hs i s (by omega) hI with ⟨r, hr, hk⟩ | ⟨s', h1, h2⟩
    · rw [qLoop_x hk (by omega)]
      exact hr
    · rw [qLoop_t h2 (by omega)]
      exact ih (i + 1) (n - 1) s' (by omega) (by omega) h1
