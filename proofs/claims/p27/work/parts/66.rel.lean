/-! PURE: what the two sides hold. l: the orders by time; T: the numbers of the market as the reference counts them (0 grant, 1 least, 2 phase, 3 last, 4 number, 6 7 tops, 8 9 what is left of their grants, 10 trades kept, 11 lots, 12 taken off, 13 made less, 14.. positions); D: money; tr: trades, the newest first; n, B: the tape -/
theorem gI_s {μ : qM} {f a : Nat} {v : Int} : gI (sI μ f a v) f a = v := by rw [gI_sI, if_pos ⟨rfl, rfl⟩]
theorem gI_f {μ : qM} {f a g b : Nat} {v : Int} (h : g ≠ f) : gI (sI μ f a v) g b = gI μ g b := by rw [gI_sI, if_neg (fun e => h e.1)]
theorem gI_a {μ : qM} {f a g b : Nat} {v : Int} (h : b ≠ a) : gI (sI μ f a v) g b = gI μ g b := by rw [gI_sI, if_neg (fun e => h e.2)]
theorem gA_s {μ : qM} {a i : Nat} {v : Int} : gA (sA μ a i v) a i = v := by rw [gA_sA, if_pos ⟨rfl, rfl⟩]
theorem gA_i {μ : qM} {a i b j : Nat} {v : Int} (h : j ≠ i) : gA (sA μ a i v) b j = gA μ b j := by rw [gA_sA, if_neg (fun e => h e.2)]
theorem gA_a {μ : qM} {a i b j : Nat} {v : Int} (h : b ≠ a) : gA (sA μ a i v) b j = gA μ b j := by rw [gA_sA, if_neg (fun e => h e.1)]
theorem gQ_s {μ : qM} {a i : Nat} {v : Option Nat} : gQ (sQ μ a i v) a i = v := by rw [gQ_sQ, if_pos ⟨rfl, rfl⟩]
theorem gQ_i {μ : qM} {a i b j : Nat} {v : Option Nat} (h : j ≠ i) : gQ (sQ μ a i v) b j = gQ μ b j := by rw [gQ_sQ, if_neg (fun e => h e.2)]
theorem gQ_a {μ : qM} {a i b j : Nat} {v : Option Nat} (h : b ≠ a) : gQ (sQ μ a i v) b j = gQ μ b j := by rw [gQ_sQ, if_neg (fun e => h e.1)]
def upd1 (T : Nat → Int) (k : Nat) (v : Int) : Nat → Int := fun j => if j = k then v else T j
theorem upd1_s {T : Nat → Int} {k : Nat} {v : Int} : upd1 T k v k = v := if_pos rfl
theorem upd1_n {T : Nat → Int} {k j : Nat} {v : Int} (h : j ≠ k) : upd1 T k v j = T j := if_neg h
/-- the reference's arrays lie apart -/
def mArr : List Nat := [800, 801, 802, 803, 806, 807, 808, 809, 810, 821, 830]
def mL (G : qG) (m : Nat) : Prop := ∀ f ∈ mArr, ∀ g ∈ mArr, gR G f m = gR G g m → f = g
theorem mL.ne {G : qG} {m f g : Nat} (h : mL G m) (hf : f ∈ mArr) (hg : g ∈ mArr) (hn : f ≠ g) : gR G f m ≠ gR G g m := fun e => hn (h f hf g hg e)
def mR (G : qG) (m : Nat) (μ : qM) (l : List (Nat → Int)) (T D : Nat → Int) (tr : Nat → Nat → Int) (n : Nat) (B : Nat → Int) : Prop :=
  mB G m μ l ∧ (∀ j, j < 24 → j ≠ 5 → gA μ (gR G 800 m) j = T j) ∧ (∀ t, t < 10 → gA μ (gR G 802 m) t = D t) ∧ (∀ i w : Nat, (i : Int) < T 10 → w < 5 → gA μ (gR G 800 m) (384 + 5 * i + w) = tr i w) ∧
  gI μ 822 m = (n : Int) ∧ n ≤ 500 ∧ ∀ j, j < n → gA μ (gR G 821 m) j = iByte (B j)
/-- a field that isn't the tape's length may be anything -/
theorem mR.fld {G : qG} {m : Nat} {μ : qM} {l : List (Nat → Int)} {T D : Nat → Int} {tr : Nat → Nat → Int} {n : Nat} {B : Nat → Int} (h : mR G m μ l T D tr n B) {f a : Nat} {v : Int} (hf : f ≠ 822) : mR G m (sI μ f a v) l T D tr n B :=
  ⟨⟨h.1.1, h.1.2⟩, h.2.1, h.2.2.1, h.2.2.2.1, by rw [gI_f (Ne.symm hf)]; exact h.2.2.2.2.1, h.2.2.2.2.2.1, h.2.2.2.2.2.2⟩
theorem mR.T {G : qG} {m : Nat} {μ : qM} {l : List (Nat → Int)} {T D : Nat → Int} {tr : Nat → Nat → Int} {n : Nat} {B : Nat → Int} (hL : mL G m) (h : mR G m μ l T D tr n B) {j : Nat} {v : Int} (hj : j < 24) (h5 : j ≠ 5) (h10 : j ≠ 10) : mR G m (sA μ (gR G 800 m) j v) l (upd1 T j v) D tr n B := by
  refine ⟨⟨by rw [gA_i (Ne.symm h5)]; exact h.1.1, fun i k hi hk => by rw [gA_i (by omega)]; exact h.1.2 i k hi hk⟩, fun i hi h6 => ?_, fun t ht => by rw [gA_a (hL.ne (by decide) (by decide) (by decide))]; exact h.2.2.1 t ht, fun i w hi hw => by rw [upd1_n (Ne.symm h10)] at hi; rw [gA_i (by omega)]; exact h.2.2.2.1 i w hi hw, h.2.2.2.2.1, h.2.2.2.2.2.1, fun i hi => by rw [gA_a (hL.ne (by decide) (by decide) (by decide))]; exact h.2.2.2.2.2.2 i hi⟩
  by_cases e : i = j
  · subst e; rw [gA_s, upd1_s]
  · rw [gA_i e, upd1_n e]; exact h.2.1 i hi h6
/-- an array that is none of x, money, tape may be anything -/
theorem mR.arr {G : qG} {m : Nat} {μ : qM} {l : List (Nat → Int)} {T D : Nat → Int} {tr : Nat → Nat → Int} {n : Nat} {B : Nat → Int} (h : mR G m μ l T D tr n B) {a i : Nat} {v : Int} (h1 : gR G 800 m ≠ a) (h2 : gR G 802 m ≠ a) (h3 : gR G 821 m ≠ a) : mR G m (sA μ a i v) l T D tr n B :=
  ⟨⟨by rw [gA_a h1]; exact h.1.1, fun i k hi hk => by rw [gA_a h1]; exact h.1.2 i k hi hk⟩, fun j a1 a2 => by rw [gA_a h1]; exact h.2.1 j a1 a2, fun t ht => by rw [gA_a h2]; exact h.2.2.1 t ht, fun i w hi hw => by rw [gA_a h1]; exact h.2.2.2.1 i w hi hw, h.2.2.2.2.1, h.2.2.2.2.2.1, fun i hi => by rw [gA_a h3]; exact h.2.2.2.2.2.2 i hi⟩
/-- the reference's answers that leave the market as it is, or set one rule -/
theorem z_sets8 {N : Nat} {G : qG} {m : Nat} {j : Nat} {x1 v a b : Int} {μ : qM} (hj : j < 24) (hx : x1 = (j : Int)) : f_X8_sets N G m x1 v a b μ = if aIn v a b = true then some (gA μ (gR G 800 m) j, sA μ (gR G 800 m) j v) else some (-1, μ) := by
  subst hx
  unfold f_X8_sets
  rw [kb2_p z_within8, b01_ite]
  by_cases c : aIn v a b = true
  · rw [if_pos c, if_pos c, rdA_p ⟨by omega, by omega⟩, wrA_p ⟨by omega, by omega⟩, Int.toNat_natCast]
  · rw [if_neg c, if_neg c]
section MR
variable {N : Nat} {G : qG} {m : Nat} {μ : qM} {l : List (Nat → Int)} {T D : Nat → Int} {tr : Nat → Nat → Int} {n : Nat} {B : Nat → Int}
theorem z_grant8 (hL : mL G m) (h : mR G m μ l T D tr n B) (v : Int) : ∃ ν, f_X8_grant N G m v μ = some (if aIn v 0 1000 = true then T 0 else -1, ν) ∧ mR G m ν l (if aIn v 0 1000 = true then upd1 T 0 v else T) D tr n B := by
  unfold f_X8_grant
  rw [kp_p]
  have e := z_sets8 (N := N) (G := G) (m := m) (j := 0) (x1 := 0) (v := v) (a := 0) (b := 1000) (μ := sI μ 804 m 0) (by decide) rfl
  have h1 := h.fld (f := 804) (a := m) (v := 0) (by decide)
  by_cases c : aIn v 0 1000 = true
  · rw [if_pos c] at e
    rw [kb2_p e, if_pos c, if_pos c]
    exact ⟨_, by rw [h1.2.1 0 (by decide) (by decide)], h1.T hL (by decide) (by decide) (by decide)⟩
  · rw [if_neg c] at e
    rw [kb2_p e, if_neg c, if_neg c]
    exact ⟨_, rfl, h1⟩
theorem z_least8 (hL : mL G m) (h : mR G m μ l T D tr n B) (v : Int) : ∃ ν, f_X8_least N G m v μ = some (if aIn v 1 50 = true then T 1 else -1, ν) ∧ mR G m ν l (if aIn v 1 50 = true then upd1 T 1 v else T) D tr n B := by
  unfold f_X8_least
  rw [kp_p]
  have e := z_sets8 (N := N) (G := G) (m := m) (j := 1) (x1 := 1) (v := v) (a := 1) (b := 50) (μ := sI μ 804 m 0) (by decide) rfl
  have h1 := h.fld (f := 804) (a := m) (v := 0) (by decide)
  by_cases c : aIn v 1 50 = true
  · rw [if_pos c] at e
    rw [kb2_p e, if_pos c, if_pos c]
    exact ⟨_, by rw [h1.2.1 1 (by decide) (by decide)], h1.T hL (by decide) (by decide) (by decide)⟩
  · rw [if_neg c] at e
    rw [kb2_p e, if_neg c, if_neg c]
    exact ⟨_, rfl, h1⟩
theorem z_queue8 (h : mR G m μ l T D tr n B) (hn : l.length ≤ 60) (hN : 100 < N) (s p k : Int) : ∃ ν, f_X8_queue N G m s p k μ = some (aQ s p k l 0, ν) ∧ mR G m ν l T D tr n B := by
  unfold f_X8_queue
  rw [kp_p]
  have h1 := h.fld (f := 804) (a := m) (v := 0) (by decide)
  exact ⟨_, z_queueL8 h1.1 hn hN, h1⟩
theorem z_top8 (h : mR G m μ l T D tr n B) (s : Int) : ∃ ν, f_X8_top N G m s μ = some (if aIn s 0 1 = true then T (6 + s.toNat) else -1, ν) ∧ mR G m ν l T D tr n B := by
  unfold f_X8_top
  rw [kp_p, kb2_p z_within8, b01_ite]
  have h1 := h.fld (f := 804) (a := m) (v := 0) (by decide)
  by_cases c : aIn s 0 1 = true
  · have hs : 0 ≤ s ∧ s ≤ 1 := of_decide_eq_true c
    rw [if_pos c, if_pos c, ckI_p ⟨by omega, by omega⟩, rdA_p ⟨by omega, by omega⟩]
    refine ⟨_, ?_, h1⟩
    rw [show (6 + s).toNat = 6 + s.toNat by omega, h1.2.1 (6 + s.toNat) (by omega) (by omega)]
  · rw [if_neg c, if_neg c]
    exact ⟨_, rfl, h1⟩
theorem mR.x (h : mR G m μ l T D tr n B) {j : Nat} (hj : j < 24) (h5 : j ≠ 5) {i : Int} (hi : i = (j : Int)) : gA μ (gR G 800 m) i.toNat = T j := by
  subst hi
  rw [Int.toNat_natCast]
  exact h.2.1 j hj h5
theorem z_trade8 (h : mR G m μ l T D tr n B) (hT : 0 ≤ T 10 ∧ T 10 ≤ 60) (i w : Int) : ∃ ν, f_X8_trade N G m i w μ = some (if 0 ≤ i ∧ i < T 10 ∧ 0 ≤ w ∧ w ≤ 4 then tr i.toNat w.toNat else -1, ν) ∧ mR G m ν l T D tr n B := by
  unfold f_X8_trade
  have h1 := h.fld (f := 804) (a := m) (v := 0) (by decide)
  rw [kp_p, h1.2.1 10 (by decide) (by decide), ckI_p ⟨by omega, by omega⟩, kb2_p z_within8, b01_ite]
  unfold aIn
  by_cases c : 0 ≤ i ∧ i ≤ T 10 - 1
  · rw [if_pos (decide_eq_true c), kb2_p z_within8, b01_ite]
    unfold aIn
    by_cases c2 : 0 ≤ w ∧ w ≤ 4
    · rw [if_pos (decide_eq_true c2), ckI_p ⟨by omega, by omega⟩, ckI_p ⟨by omega, by omega⟩, ckI_p ⟨by omega, by omega⟩, rdA_p ⟨by omega, by omega⟩, if_pos ⟨c.1, by omega, c2.1, c2.2⟩]
      refine ⟨_, ?_, h1⟩
      rw [show (384 + 5 * i + w).toNat = 384 + 5 * i.toNat + w.toNat by omega, h1.2.2.2.1 i.toNat w.toNat (by omega) (by omega)]
    · rw [if_neg (by simpa using c2), if_neg (fun q => c2 ⟨q.2.2.1, q.2.2.2⟩)]
      exact ⟨_, rfl, h1⟩
  · rw [if_neg (by simpa using c), if_neg (fun q => c ⟨q.1, by omega⟩)]
    exact ⟨_, rfl, h1⟩
theorem z_position8 (h : mR G m μ l T D tr n B) (t : Int) : ∃ ν, f_X8_position N G m t μ = some (if aIn t 0 9 = true then T (14 + t.toNat) else 0, ν) ∧ mR G m ν l T D tr n B ∧ gI ν 804 m = if aIn t 0 9 = true then 0 else 1 := by
  unfold f_X8_position f_X8_position_18
  rw [kb2_p z_within8, b01_ite]
  by_cases c : aIn t 0 9 = true
  · have hs : 0 ≤ t ∧ t ≤ 9 := of_decide_eq_true c
    have h1 := h.fld (f := 804) (a := m) (v := 0) (by decide)
    rw [if_pos c, if_pos c, if_pos c, kp_p, gI_s, if_pos rfl, ckI_p ⟨by omega, by omega⟩, rdA_p ⟨by omega, by omega⟩]
    refine ⟨_, ?_, h1, gI_s⟩
    rw [h1.x (j := 14 + t.toNat) (by omega) (by omega) (by omega)]
  · have h1 := h.fld (f := 804) (a := m) (v := 1) (by decide)
    rw [if_neg c, if_neg c, if_neg c, kp_p, gI_s, if_neg (by decide)]
    exact ⟨_, rfl, h1, gI_s⟩
theorem z_money8 (h : mR G m μ l T D tr n B) (t : Int) : ∃ ν, f_X8_money N G m t μ = some (if aIn t 0 9 = true then D t.toNat else 0, ν) ∧ mR G m ν l T D tr n B ∧ gI ν 804 m = if aIn t 0 9 = true then 0 else 1 := by
  unfold f_X8_money f_X8_money_18
  rw [kb2_p z_within8, b01_ite]
  by_cases c : aIn t 0 9 = true
  · have hs : 0 ≤ t ∧ t ≤ 9 := of_decide_eq_true c
    have h1 := h.fld (f := 804) (a := m) (v := 0) (by decide)
    rw [if_pos c, if_pos c, if_pos c, kp_p, gI_s, if_pos rfl, rdA_p ⟨by omega, by omega⟩]
    refine ⟨_, ?_, h1, gI_s⟩
    rw [h1.2.2.1 t.toNat (by omega)]
  · have h1 := h.fld (f := 804) (a := m) (v := 1) (by decide)
    rw [if_neg c, if_neg c, if_neg c, kp_p, gI_s, if_neg (by decide)]
    exact ⟨_, rfl, h1, gI_s⟩
/-- what 'count' tells: 0 the orders, 6 the tape, else a number of the market -/
def aCount (l : List (Nat → Int)) (T : Nat → Int) (n : Nat) (w : Int) : Int :=
  if w = 0 then (l.length : Int) else if w = 1 then T 2 else if w = 2 then T 3 else if w = 3 then T 0 else if w = 4 then T 1 else if w = 5 then T 4 else if w = 6 then (n : Int) else if w = 7 then T 10 else if w = 8 then T 11 else if w = 9 then T 12 else if w = 10 then T 13 else -1
theorem ite_some {c : Prop} [Decidable c] {a b : Int} {μ : qM} : (if c then some (a, μ) else some (b, μ)) = some (if c then a else b, μ) := by split <;> rfl
theorem oI_some {i : Nat} : oI (some i) = (i : Int) := rfl
theorem oI_none : oI none = -1 := rfl
theorem z_count8 (h : mR G m μ l T D tr n B) (w : Int) : ∃ ν, f_X8_count N G m w μ = some (aCount l T n w, ν) ∧ mR G m ν l T D tr n B := by
  unfold f_X8_count aCount
  have h1 := h.fld (f := 804) (a := m) (v := 0) (by decide)
  rw [kp_p]
  refine ⟨sI μ 804 m 0, ?_, h1⟩
  rw [h1.1.1, h1.2.1 2 (by decide) (by decide), h1.2.1 3 (by decide) (by decide), h1.2.1 0 (by decide) (by decide), h1.2.1 1 (by decide) (by decide), h1.2.1 4 (by decide) (by decide), h1.2.2.2.2.1, h1.2.1 10 (by decide) (by decide), h1.2.1 11 (by decide) (by decide), h1.2.1 12 (by decide) (by decide), h1.2.1 13 (by decide) (by decide)]
  simp only [ite_some]
/-- an order's telling: w from 0 to 4 of its own, 5 what is left of its grant -/
def aOf (T : Nat → Int) (o : Nat → Int) (w : Int) : Int := if w < 5 then o (w + 1).toNat else if T (6 + (o 2).toNat) = o 0 then T (8 + (o 2).toNat) else 0
theorem z_of8 (h : mR G m μ l T D tr n B) (hl : lOk l) (hN : 100 < N) (k w : Int) : ∃ ν r, f_X8_of N G m k w μ = some (r, ν) ∧ mR G m ν l T D tr n B ∧
    (∀ i, aPlace k l = some i → aIn w 0 5 = true → r = aOf T (lG l i) w ∧ gI ν 804 m = 0) ∧ ((aPlace k l = none ∨ aIn w 0 5 = false) → gI ν 804 m = 1) := by
  unfold f_X8_of
  have hn := hl.1
  have h1 := h.fld (f := 804) (a := m) (v := 1) (by decide)
  rw [kp_p, kb2_p (z_placeOf8 h1.1 hn hN)]
  cases hp : aPlace k l with
  | none =>
    rw [oI_none, if_pos (by decide)]
    exact ⟨_, _, rfl, h1, (fun i hi => by cases hi), fun _ => gI_s⟩
  | some i =>
    obtain ⟨-, hi, hf, -⟩ := aPl_some hp
    rw [Nat.zero_add] at hi
    rw [Nat.sub_zero] at hf
    have hk : lG l i 0 = k := of_decide_eq_true hf
    rw [oI_some, if_neg (by omega), kb2_p z_within8, b01_ite]
    by_cases c : aIn w 0 5 = true
    · have hw : 0 ≤ w ∧ w ≤ 5 := of_decide_eq_true c
      rw [if_pos c, kp_p]
      have h2 := h1.fld (f := 804) (a := m) (v := 0) (by decide)
      by_cases c2 : w < 5
      · rw [if_pos c2, ckI_p ⟨by omega, by omega⟩, kb2_p (z_ord8 h2.1 hn hi (w + 1).toNat (by omega) (by omega))]
        exact ⟨_, _, rfl, h2, fun j hj _ => ⟨by cases hj; unfold aOf; rw [if_pos c2], gI_s⟩, fun q => q.elim (fun q => by cases q) (fun q => by rw [c] at q; cases q)⟩
      · have ho := (hl.2 i hi).2.2.1
        rw [if_neg c2, kb2_p (z8_2 h2.1 hn hi), ckI_p ⟨by omega, by omega⟩, rdA_p ⟨by omega, by omega⟩, h2.x (j := 6 + (lG l i 2).toNat) (by omega) (by omega) (by omega)]
        by_cases c3 : T (6 + (lG l i 2).toNat) = k
        · rw [if_pos c3, ckI_p ⟨by omega, by omega⟩, rdA_p ⟨by omega, by omega⟩, h2.x (j := 8 + (lG l i 2).toNat) (by omega) (by omega) (by omega)]
          exact ⟨_, _, rfl, h2, fun j hj _ => ⟨by cases hj; unfold aOf; rw [if_neg c2, hk, if_pos c3], gI_s⟩, fun q => q.elim (fun q => by cases q) (fun q => by rw [c] at q; cases q)⟩
        · rw [if_neg c3]
          exact ⟨_, _, rfl, h2, fun j hj _ => ⟨by cases hj; unfold aOf; rw [if_neg c2, hk, if_neg c3], gI_s⟩, fun q => q.elim (fun q => by cases q) (fun q => by rw [c] at q; cases q)⟩
    · rw [if_neg c]
      exact ⟨_, _, rfl, h1, fun j _ q => absurd q c, fun _ => gI_s⟩
end MR
