/-! PURE: the orders at a price, laid out -/
def aJ (s p : Int) (l : List (Nat → Int)) : Nat → List Nat
  | 0 => []
  | i + 1 => if aAt s p (lG l i) = true then aJ s p l i ++ [i] else aJ s p l i
def jG (J : List Nat) (k : Nat) : Nat := J.getD k 0
theorem jG_app {J : List Nat} {i k : Nat} : jG (J ++ [i]) k = if k = J.length then i else jG J k := by
  unfold jG
  rw [List.getD_eq_getElem?_getD, List.getD_eq_getElem?_getD]
  by_cases c : k = J.length
  · subst c
    rw [if_pos rfl, List.getElem?_append_right (Nat.le_refl _), Nat.sub_self]
    rfl
  · rw [if_neg c]
    rcases Nat.lt_or_ge k J.length with q | q
    · rw [List.getElem?_append_left q]
    · rw [List.getElem?_append_right q, List.getElem?_eq_none (by simp; omega), List.getElem?_eq_none q]
theorem aJ_y {s p : Int} {l : List (Nat → Int)} {i : Nat} (h : aAt s p (lG l i) = true) : aJ s p l (i + 1) = aJ s p l i ++ [i] := if_pos h
theorem aJ_n {s p : Int} {l : List (Nat → Int)} {i : Nat} (h : ¬ aAt s p (lG l i) = true) : aJ s p l (i + 1) = aJ s p l i := if_neg h
theorem aJ_len {s p : Int} {l : List (Nat → Int)} : ∀ i, (aJ s p l i).length ≤ i := by
  intro i
  induction i with
  | zero => exact Nat.le_refl _
  | succ i ih =>
    by_cases c : aAt s p (lG l i) = true
    · rw [aJ_y c, List.length_append]; simp; omega
    · rw [aJ_n c]; omega
theorem aJ_in {s p : Int} {l : List (Nat → Int)} : ∀ i k, k < (aJ s p l i).length → jG (aJ s p l i) k < i ∧ aAt s p (lG l (jG (aJ s p l i) k)) = true := by
  intro i
  induction i with
  | zero => intro k h; cases h
  | succ i ih =>
    intro k h
    by_cases c : aAt s p (lG l i) = true
    · rw [aJ_y c] at h ⊢
      rw [List.length_append] at h
      rw [jG_app]
      by_cases d : k = (aJ s p l i).length
      · rw [if_pos d]; exact ⟨by omega, c⟩
      · rw [if_neg d]
        have h' : k < (aJ s p l i).length + 1 := h
        have := ih k (by omega)
        exact ⟨by omega, this.2⟩
    · rw [aJ_n c] at h ⊢
      have := ih k h
      exact ⟨by omega, this.2⟩
/-- a longer row begins alike -/
theorem aJ_pre {s p : Int} {l : List (Nat → Int)} {i : Nat} : ∀ e, (aJ s p l i).length ≤ (aJ s p l (i + e)).length ∧ ∀ k, k < (aJ s p l i).length → jG (aJ s p l (i + e)) k = jG (aJ s p l i) k := by
  intro e
  induction e with
  | zero => exact ⟨Nat.le_refl _, fun _ _ => rfl⟩
  | succ e ih =>
    by_cases c : aAt s p (lG l (i + e)) = true
    · have e1 : aJ s p l (i + (e + 1)) = aJ s p l (i + e) ++ [i + e] := aJ_y c
      rw [e1, List.length_append]
      refine ⟨by omega, fun k hk => ?_⟩
      rw [jG_app, if_neg (by omega)]
      exact ih.2 k hk
    · have e1 : aJ s p l (i + (e + 1)) = aJ s p l (i + e) := aJ_n c
      rw [e1]; exact ih
/-- where an order of the row lies in it -/
theorem aJ_rk {s p : Int} {l : List (Nat → Int)} {i n : Nat} (hi : i < n) (h : aAt s p (lG l i) = true) : (aJ s p l i).length < (aJ s p l n).length ∧ jG (aJ s p l n) (aJ s p l i).length = i := by
  obtain ⟨e, rfl⟩ : ∃ e, n = (i + 1) + e := ⟨n - (i + 1), by omega⟩
  obtain ⟨h1, h2⟩ := aJ_pre (s := s) (p := p) (l := l) (i := i + 1) e
  have e1 := aJ_y h
  have e2 : (aJ s p l (i + 1)).length = (aJ s p l i).length + 1 := by rw [e1, List.length_append]; rfl
  refine ⟨by omega, ?_⟩
  rw [h2 _ (by omega), e1, jG_app, if_pos rfl]
theorem aJ_mono {s p : Int} {l : List (Nat → Int)} : ∀ n j k, j < k → k < (aJ s p l n).length → jG (aJ s p l n) j < jG (aJ s p l n) k := by
  intro n
  induction n with
  | zero => intro j k _ h; cases h
  | succ n ih =>
    intro j k hjk hk
    by_cases c : aAt s p (lG l n) = true
    · rw [aJ_y c] at hk ⊢
      rw [List.length_append] at hk
      have hk' : k < (aJ s p l n).length + 1 := hk
      rw [jG_app, jG_app, if_neg (show ¬ j = (aJ s p l n).length by omega)]
      by_cases d : k = (aJ s p l n).length
      · rw [if_pos d]
        exact (aJ_in n j (by omega)).1
      · rw [if_neg d]
        exact ih j k hjk (by omega)
    · rw [aJ_n c] at hk ⊢
      exact ih j k hjk hk
theorem aJ_inj {s p : Int} {l : List (Nat → Int)} {n j k : Nat} (hj : j < (aJ s p l n).length) (hk : k < (aJ s p l n).length) (e : jG (aJ s p l n) j = jG (aJ s p l n) k) : j = k := by
  rcases Nat.lt_trichotomy j k with q | q | q
  · have := aJ_mono n j k q hk; omega
  · exact q
  · have := aJ_mono n k j q hj; omega
theorem aAt_e {s p : Int} {o : Nat → Int} (h : aAt s p o = true) : o 2 = s ∧ o 3 = p := of_decide_eq_true h
/-- sizes and grants of the row -/
def jS (l : List (Nat → Int)) (J : List Nat) (k : Nat) : Int := lG l (jG J k) 4
def oGr (T : Nat → Int) (o : Nat → Int) : Int := if T (6 + (o 2).toNat) = o 0 then T (8 + (o 2).toNat) else 0
def jGr (T : Nat → Int) (l : List (Nat → Int)) (J : List Nat) (k : Nat) : Int := oGr T (lG l (jG J k))
theorem jS_sum {s p : Int} {l : List (Nat → Int)} : ∀ n, n ≤ l.length → sumN (jS l (aJ s p l n)) (aJ s p l n).length = aS (wZ s p) (l.take n) := by
  intro n
  induction n with
  | zero => intro _; rfl
  | succ n ih =>
    intro hn
    rw [aS_take1 l (by omega), ← ih (by omega)]
    unfold wZ
    by_cases c : aAt s p (lG l n) = true
    · rw [if_pos c, aJ_y c, List.length_append]
      have q : ∀ k, k ≤ (aJ s p l n).length → sumN (jS l (aJ s p l n ++ [n])) k = sumN (jS l (aJ s p l n)) k := by
        intro k
        induction k with
        | zero => intro _; rfl
        | succ k ih2 =>
          intro hk
          show sumN _ k + _ = sumN _ k + _
          rw [ih2 (by omega)]
          unfold jS
          rw [jG_app, if_neg (by omega)]
      show sumN _ (aJ s p l n).length + _ = _
      rw [q _ (Nat.le_refl _)]
      unfold jS
      rw [jG_app, if_pos rfl]
    · rw [if_neg c, aJ_n c, Int.add_zero]
/-- a change in certain roles alone -/
def dP (ρ : Nat → Nat × Nat) (P : Nat × Nat → Prop) (μ ν : qM) : Prop := (∀ g a, ¬ P (ρ a) → gI ν g a = gI μ g a) ∧ (∀ a i, ¬ P (ρ a) → gA ν a i = gA μ a i) ∧ ∀ a i, ¬ P (ρ a) → gQ ν a i = gQ μ a i
theorem dP.rf {ρ : Nat → Nat × Nat} {P : Nat × Nat → Prop} {μ : qM} : dP ρ P μ μ := ⟨fun _ _ _ => rfl, fun _ _ _ => rfl, fun _ _ _ => rfl⟩
theorem dP.tr {ρ : Nat → Nat × Nat} {P : Nat × Nat → Prop} {μ ν ξ : qM} (h1 : dP ρ P μ ν) (h2 : dP ρ P ν ξ) : dP ρ P μ ξ := ⟨fun g a h => (h2.1 g a h).trans (h1.1 g a h), fun a i h => (h2.2.1 a i h).trans (h1.2.1 a i h), fun a i h => (h2.2.2 a i h).trans (h1.2.2 a i h)⟩
theorem dP.mono {ρ : Nat → Nat × Nat} {P Q : Nat × Nat → Prop} {μ ν : qM} (h : dP ρ P μ ν) (hPQ : ∀ q, P q → Q q) : dP ρ Q μ ν := ⟨fun g a x => h.1 g a (fun y => x (hPQ _ y)), fun a i x => h.2.1 a i (fun y => x (hPQ _ y)), fun a i x => h.2.2 a i (fun y => x (hPQ _ y))⟩
theorem dP.sI {ρ : Nat → Nat × Nat} {P : Nat × Nat → Prop} {μ : qM} {g a : Nat} {v : Int} (h : P (ρ a)) : dP ρ P μ (sI μ g a v) := ⟨fun _ _ x => gI_a (fun e => x (by rw [e]; exact h)), fun _ _ _ => rfl, fun _ _ _ => rfl⟩
theorem dP.sA {ρ : Nat → Nat × Nat} {P : Nat × Nat → Prop} {μ : qM} {a i : Nat} {v : Int} (h : P (ρ a)) : dP ρ P μ (sA μ a i v) := ⟨fun _ _ _ => rfl, fun _ _ x => gA_a (fun e => x (by rw [e]; exact h)), fun _ _ _ => rfl⟩
theorem dP.sQ {ρ : Nat → Nat × Nat} {P : Nat × Nat → Prop} {μ : qM} {a i : Nat} {v : Option Nat} (h : P (ρ a)) : dP ρ P μ (sQ μ a i v) := ⟨fun _ _ _ => rfl, fun _ _ _ => rfl, fun _ _ x => gQ_a (fun e => x (by rw [e]; exact h))⟩
theorem dP.wr {ρ : Nat → Nat × Nat} {P : Nat × Nat → Prop} {μ : qM} {a : Nat} {f : Nat → Int} {j : Nat} (h : P (ρ a)) : dP ρ P μ (wrM μ a f j) := by
  obtain ⟨w1, w2, w3, -, -⟩ := wrM_at (μ := μ) (a := a) (f := f) j
  exact ⟨fun g b _ => w1 g b, fun b i x => w3 b i (fun e => x (by rw [e]; exact h)), fun b i _ => w2 b i⟩
theorem dP.role {ρ : Nat → Nat × Nat} {P : Nat × Nat → Prop} {f : Nat} {μ ν : qM} (h : dP ρ P μ ν) (hP : ∀ q, P q → q.1 = f) : dRole ρ f μ ν := ⟨fun g a x => h.1 g a (fun y => x (hP _ y)), fun a i x => h.2.1 a i (fun y => x (hP _ y)), fun a i x => h.2.2 a i (fun y => x (hP _ y))⟩
/-- the labels that hold the market of a floor -/
def pMk (k : Nat) : Prop := k = 1 ∨ k = 200 ∨ k = 201 ∨ k = 10 ∨ k = 12 ∨ k = 13 ∨ k = 300 ∨ k = 305 ∨ k = 306 ∨ k = 1000 ∨ 2000 ≤ k
section CFL2
variable {G : qG} {ρ : Nat → Nat × Nat} {f : Nat} {A V : Nat → Nat} {nx : Nat} {μ ν : qM} {l : List (Nat → Int)} {T D : Nat → Int} {tr : Nat → Nat → Int}
theorem cFlx.frm {P : Nat × Nat → Prop} (hy : cLay G ρ f) (h : cFlx G ρ f A V nx μ l T D tr) (hl : l.length ≤ 60) (hd : dP ρ P μ ν) (hP : ∀ k, pMk k → ¬ P (f, k)) : cFlx G ρ f A V nx ν l T D tr := by
  obtain ⟨h1, h2, h3, h4, h5, h6, h7, h8⟩ := h
  have p : ∀ k, k ∈ cLab → pMk k → ¬ P (ρ (cAd G f k)) := fun k hk hm => by rw [hy k hk]; exact hP k hm
  have pf : ¬ P (ρ f) := p 1 (by decide) (by unfold pMk; decide)
  have pb : ¬ P (ρ (gR G 200 f)) := p 200 (by decide) (by unfold pMk; decide)
  have pd : ¬ P (ρ (gR G 201 f)) := p 201 (by decide) (by unfold pMk; decide)
  have p10 : ¬ P (ρ (gR G 0 (gR G 200 f))) := p 10 (by decide) (by unfold pMk; decide)
  have p12 : ¬ P (ρ (gR G 2 (gR G 200 f))) := p 12 (by decide) (by unfold pMk; decide)
  have p13 : ¬ P (ρ (gR G 3 (gR G 200 f))) := p 13 (by decide) (by unfold pMk; decide)
  have p300 : ¬ P (ρ (gR G 300 (gR G 201 f))) := p 300 (by decide) (by unfold pMk; decide)
  have p305 : ¬ P (ρ (gR G 305 (gR G 201 f))) := p 305 (by decide) (by unfold pMk; decide)
  have p306 : ¬ P (ρ (gR G 306 (gR G 201 f))) := p 306 (by decide) (by unfold pMk; decide)
  have pA : ∀ i, i < 60 → ¬ P (ρ (A i)) := fun i hi => by rw [h2 i hi]; exact hP 1000 (by unfold pMk; decide)
  obtain ⟨hI, hA, hQ⟩ := hd
  refine ⟨⟨by rw [hI _ _ pb]; exact h1.1, fun i hi => by rw [hQ _ _ p10]; exact h1.2.1 i hi, h1.2.2.1, fun i k hi hk => ?_⟩, h2, fun s hs => by rw [hA _ _ p12, hA _ _ p13]; exact h3 s hs, ?_, ?_, fun t ht => by rw [hA _ _ p305, hA _ _ p306]; exact h6 t ht, fun i hi => by rw [hQ _ _ p300]; exact h7 i hi, fun i w a b c => ?_⟩
  · rw [hI _ _ (pA i (by omega))]; exact h1.2.2.2 i k hi hk
  · rw [hI _ _ pf, hI _ _ pf, hI _ _ pf, hI _ _ pf, hI _ _ pf, hI _ _ pf]; exact h4
  · rw [hI _ _ pd, hI _ _ pd, hI _ _ pd, hI _ _ pd]; exact h5
  · rw [hA _ _ (by rw [(h7 _ (Nat.mod_lt _ (by decide))).2.2]; exact hP _ (by unfold pMk; omega))]
    exact h8 i w a b c
end CFL2
/-- a sharing's own labels -/
def pSh (f : Nat) (q : Nat × Nat) : Prop := q.1 = f ∧ (q.2 = 202 ∨ (500 ≤ q.2 ∧ q.2 ≤ 505))
theorem pSh_mk {f : Nat} : ∀ k, pMk k → ¬ pSh f (f, k) := by
  intro k hk h
  have h2 : k = 202 ∨ (500 ≤ k ∧ k ≤ 505) := h.2
  unfold pMk at hk
  omega
theorem pSh_1 {f : Nat} : ∀ q, pSh f q → q.1 = f := fun _ h => h.1
/-- what a sharing holds of the rows laid out before the n-th order -/
def shHas (G : qG) (h : Nat) (μ : qM) (A : Nat → Nat) (l : List (Nat → Int)) (T : Nat → Int) (J : List Nat) : Prop :=
  gI μ 506 h = (J.length : Int) ∧ gI μ 507 h = sumN (jS l J) J.length ∧ ∀ k, k < J.length → gQ μ (gR G 500 h) k = some (A (jG J k)) ∧ gA μ (gR G 501 h) k = jS l J k ∧ gA μ (gR G 502 h) k = jGr T l J k
section LOAD
variable {N : Nat} {G : qG} {ρ : Nat → Nat × Nat} {f : Nat} {A V : Nat → Nat} {nx : Nat} {μ ν : qM} {l : List (Nat → Int)} {T D : Nat → Int} {tr : Nat → Nat → Int}
theorem cLay.sh (hy : cLay G ρ f) : pSh f (ρ (gR G 202 f)) ∧ pSh f (ρ (gR G 500 (gR G 202 f))) ∧ pSh f (ρ (gR G 501 (gR G 202 f))) ∧ pSh f (ρ (gR G 502 (gR G 202 f))) ∧ pSh f (ρ (gR G 503 (gR G 202 f))) ∧ pSh f (ρ (gR G 504 (gR G 202 f))) ∧ pSh f (ρ (gR G 505 (gR G 202 f))) := by
  have r0 : ρ (gR G 202 f) = (f, 202) := hy 202 (by decide)
  have r1 : ρ (gR G 500 (gR G 202 f)) = (f, 500) := hy 500 (by decide)
  have r2 : ρ (gR G 501 (gR G 202 f)) = (f, 501) := hy 501 (by decide)
  have r3 : ρ (gR G 502 (gR G 202 f)) = (f, 502) := hy 502 (by decide)
  have r4 : ρ (gR G 503 (gR G 202 f)) = (f, 503) := hy 503 (by decide)
  have r5 : ρ (gR G 504 (gR G 202 f)) = (f, 504) := hy 504 (by decide)
  have r6 : ρ (gR G 505 (gR G 202 f)) = (f, 505) := hy 505 (by decide)
  rw [r0, r1, r2, r3, r4, r5, r6]
  unfold pSh
  simp
/-- one row is put behind those that lie there -/
theorem z_put5 (hy : cLay G ρ f) {S g : Nat → Int} {O : Nat → Nat} {c : Nat} {all : Int} {o : Nat} {v w : Int} (hc : c < 68) (h6 : gI μ 506 (gR G 202 f) = (c : Int)) (h7 : gI μ 507 (gR G 202 f) = all) (ha : 0 ≤ all ∧ all ≤ 1000000) (hv : 0 ≤ v ∧ v ≤ 1000)
    (hr : ∀ k, k < c → gQ μ (gR G 500 (gR G 202 f)) k = some (O k) ∧ gA μ (gR G 501 (gR G 202 f)) k = S k ∧ gA μ (gR G 502 (gR G 202 f)) k = g k) :
    ∃ ν, f_X5_put N G (gR G 202 f) o v w μ = some ν ∧ dP ρ (pSh f) μ ν ∧ gI ν 506 (gR G 202 f) = ((c + 1 : Nat) : Int) ∧ gI ν 507 (gR G 202 f) = all + v ∧
      ∀ k, k < c + 1 → gQ ν (gR G 500 (gR G 202 f)) k = some (if k = c then o else O k) ∧ gA ν (gR G 501 (gR G 202 f)) k = (if k = c then v else S k) ∧ gA ν (gR G 502 (gR G 202 f)) k = if k = c then w else g k := by
  obtain ⟨q0, q1, q2, q3, -, -, -⟩ := hy.sh
  have n12 : gR G 501 (gR G 202 f) ≠ gR G 502 (gR G 202 f) := hy.ne (j := 501) (k := 502) (by decide) (by decide) (by decide)
  unfold f_X5_put
  rw [h6, if_pos (by omega), wrQ_p ⟨by omega, by omega⟩, gI_sQ, h6, wrA_p ⟨by omega, by omega⟩, gI_sA, gI_sQ, h6, wrA_p ⟨by omega, by omega⟩, gI_sA, gI_sA, gI_sQ, h6, ckI_p ⟨by omega, by omega⟩, kp_p, gI_f (by decide), gI_sA, gI_sA, gI_sQ, h7, ckI_p ⟨by omega, by omega⟩, kp_p, Int.toNat_natCast]
  refine ⟨_, rfl, ((((dP.sQ q1).tr (dP.sA q2)).tr (dP.sA q3)).tr (dP.sI q0)).tr (dP.sI q0), ?_, gI_s, fun k hk => ?_⟩
  · rw [gI_f (by decide), gI_s, cast1]
  · show gQ (sQ μ (gR G 500 (gR G 202 f)) c (some o)) (gR G 500 (gR G 202 f)) k = _ ∧ gA (sA (sA μ (gR G 501 (gR G 202 f)) c v) (gR G 502 (gR G 202 f)) c w) (gR G 501 (gR G 202 f)) k = _ ∧ gA (sA (sA μ (gR G 501 (gR G 202 f)) c v) (gR G 502 (gR G 202 f)) c w) (gR G 502 (gR G 202 f)) k = _
    by_cases e : k = c
    · subst e
      rw [if_pos rfl, if_pos rfl, if_pos rfl, gQ_s, gA_s, gA_a n12, gA_s]
      exact ⟨rfl, rfl, rfl⟩
    · rw [if_neg e, if_neg e, if_neg e, gQ_i e, gA_i e, gA_i e, gA_i e, gA_i e]
      exact hr k (by omega)
theorem z_load5 (hy : cLay G ρ f) (hf : cFlx G ρ f A V nx μ l T D tr) (hl : lOk l) (hN : 100 < N) (s p : Int) :
    ∃ ν, f_X5_load N G (gR G 202 f) (gR G 200 f) s p μ = some ν ∧ dP ρ (pSh f) μ ν ∧ shHas G (gR G 202 f) ν A l T (aJ s p l l.length) := by
  have hn := hl.1
  obtain ⟨q0, q1, q2, q3, -, -, -⟩ := hy.sh
  unfold f_X5_load f_X5_load_L13
  rw [kp_p, kp_p]
  refine qLoop_inv
    (fun i st => ∃ mem, st = (gR G 202 f, gR G 200 f, s, p, (i : Int), mem) ∧ dP ρ (pSh f) μ mem ∧ shHas G (gR G 202 f) mem A l T (aJ s p l i))
    (fun r => ∃ ν, r = some ν ∧ dP ρ (pSh f) μ ν ∧ shHas G (gR G 202 f) ν A l T (aJ s p l l.length))
    l.length ?_ ?_ l.length 0 N _ (by omega) (by omega) ?_
  · rintro i st hi ⟨mem, rfl, hd, h6, h7, hr⟩
    refine Or.inr ?_
    have hf' := hf.frm hy hn hd pSh_mk
    have hb := hf'.1
    by_cases c : aAt s p (lG l i) = true
    · have ho := hl.2 i hi
      have jl := aJ_len (s := s) (p := p) (l := l) i
      have js := jS_sum (s := s) (p := p) (l := l) i (by omega)
      have b1 := aS_tk_bd (wZ_bd (s := s) (p := p) hl) (i := i) (by omega)
      obtain ⟨mem', e1, e2, e3, e4, e5⟩ := z_put5 (N := N) (μ := mem) hy (S := jS l (aJ s p l i)) (g := jGr T l (aJ s p l i)) (O := fun k => A (jG (aJ s p l i) k)) (o := A i) (v := lG l i 4) (w := oGr T (lG l i)) (by omega) h6 h7 ⟨by omega, by omega⟩ ho.2.2.2.2.1 hr
      refine ⟨_, ⟨mem', rfl, hd.tr e2, ?_⟩, fun k => ?_⟩
      · rw [aJ_y c]
        refine ⟨by rw [e3, List.length_append]; rfl, ?_, fun k hk => ?_⟩
        · rw [e4, ← aJ_y c, jS_sum (i + 1) (by omega), aS_take1 l hi, js]
          unfold wZ
          rw [if_pos c]
        · rw [List.length_append] at hk
          obtain ⟨a1, a2, a3⟩ := e5 k hk
          unfold jS jGr
          rw [a1, a2, a3, jG_app]
          by_cases d : k = (aJ s p l i).length
          · rw [if_pos d, if_pos d, if_pos d, if_pos d]; exact ⟨rfl, rfl, rfl⟩
          · rw [if_neg d, if_neg d, if_neg d, if_neg d]; exact ⟨rfl, rfl, rfl⟩
      · show f_X5_load_13 N G _ (gR G 202 f) (gR G 200 f) s p (i : Int) mem = _
        have f4 : gI mem 404 (A i) = lG l i 4 := z_f0 hb hi 4 (by decide)
        unfold f_X5_load_13 f_X5_load_59
        rw [hb.1, if_pos (by omega), kb2_p (z_isAt0 hb hn hi), b01_ite, if_pos c, z_row0 hb (by omega), kb2_p (z_grantOf0 (w := lG l i) hf'.2.2.1 (z_f0 hb hi 0 (by decide)) (z_f0 hb hi 2 (by decide)) ho.2.2.1 ho.1.1), f4]
        unfold oGr at e1
        rw [kb_p e1, ckI_p ⟨by omega, by omega⟩, cast1]
    · refine ⟨_, ⟨mem, rfl, hd, by rw [aJ_n c]; exact ⟨h6, h7, hr⟩⟩, fun k => ?_⟩
      show f_X5_load_13 N G _ (gR G 202 f) (gR G 200 f) s p (i : Int) mem = _
      unfold f_X5_load_13 f_X5_load_59
      rw [hb.1, if_pos (by omega), kb2_p (z_isAt0 hb hn hi), b01_ite, if_neg c, ckI_p ⟨by omega, by omega⟩, cast1]
  · rintro st ⟨mem, rfl, hd, hh⟩
    refine ⟨_, ⟨mem, rfl, hd, hh⟩, fun k => ?_⟩
    have hb := (hf.frm hy hn hd pSh_mk).1
    show f_X5_load_13 N G _ (gR G 202 f) (gR G 200 f) s p (l.length : Int) mem = _
    unfold f_X5_load_13
    rw [hb.1, if_neg (by omega)]
  · refine ⟨_, rfl, (dP.sI q0).tr (dP.sI q0), ?_, ?_, fun k hk => by cases hk⟩
    · rw [gI_f (by decide), gI_s]; rfl
    · rw [gI_s]; rfl
end LOAD
