/-! PURE: the market's bounds; 'share' on both sides -/
def mOk (l : List (Nat → Int)) (T : Nat → Int) : Prop :=
  lOk l ∧ (∀ j, j < l.length → 0 < lG l j 4) ∧ nInc l ∧ (∀ j, j < l.length → lG l j 0 ≤ T 4) ∧ (0 ≤ T 0 ∧ T 0 ≤ 1000) ∧ (1 ≤ T 1 ∧ T 1 ≤ 50) ∧ (T 2 = 0 ∨ T 2 = 1) ∧ (0 ≤ T 3 ∧ T 3 ≤ 9999999) ∧ 0 ≤ T 4 ∧ (0 ≤ T 10 ∧ T 10 ≤ 60) ∧
  (∀ s, s < 2 → (T (6 + s) = -1 ∧ T (8 + s) = 0) ∨ (1 ≤ T (6 + s) ∧ 1 ≤ T (8 + s) ∧ T (8 + s) ≤ 1000)) ∧ (T 2 = 1 → T 6 = -1 ∧ T 7 = -1)
section MOK
variable {l : List (Nat → Int)} {T : Nat → Int}
theorem mOk.lo (h : mOk l T) : lOk l := h.1
theorem mOk.pos (h : mOk l T) : ∀ j, j < l.length → 0 < lG l j 4 := h.2.1
theorem mOk.inc (h : mOk l T) : nInc l := h.2.2.1
theorem mOk.le4 (h : mOk l T) : ∀ j, j < l.length → lG l j 0 ≤ T 4 := h.2.2.2.1
theorem mOk.t0 (h : mOk l T) : 0 ≤ T 0 ∧ T 0 ≤ 1000 := h.2.2.2.2.1
theorem mOk.t1 (h : mOk l T) : 1 ≤ T 1 ∧ T 1 ≤ 50 := h.2.2.2.2.2.1
theorem mOk.t2 (h : mOk l T) : T 2 = 0 ∨ T 2 = 1 := h.2.2.2.2.2.2.1
theorem mOk.t3 (h : mOk l T) : 0 ≤ T 3 ∧ T 3 ≤ 9999999 := h.2.2.2.2.2.2.2.1
theorem mOk.t4 (h : mOk l T) : 0 ≤ T 4 := h.2.2.2.2.2.2.2.2.1
theorem mOk.t10 (h : mOk l T) : 0 ≤ T 10 ∧ T 10 ≤ 60 := h.2.2.2.2.2.2.2.2.2.1
theorem mOk.top (h : mOk l T) : ∀ s, s < 2 → (T (6 + s) = -1 ∧ T (8 + s) = 0) ∨ (1 ≤ T (6 + s) ∧ 1 ≤ T (8 + s) ∧ T (8 + s) ≤ 1000) := h.2.2.2.2.2.2.2.2.2.2.1
theorem mOk.cal (h : mOk l T) : T 2 = 1 → T 6 = -1 ∧ T 7 = -1 := h.2.2.2.2.2.2.2.2.2.2.2
end MOK
def jA (l : List (Nat → Int)) (T : Nat → Int) (J : List Nat) (K : Int) (k : Nat) : Int := shA (jS l J) (jGr T l J) K k
def jB (l : List (Nat → Int)) (T : Nat → Int) (J : List Nat) (K : Int) (k : Nat) : Int := shB (jS l J) (jGr T l J) K (T 1) J.length k
def jC (l : List (Nat → Int)) (T : Nat → Int) (J : List Nat) (K : Int) (k : Nat) : Int := shC (jS l J) (jGr T l J) K (T 1) J.length k
def jP (a b c w : Int) : Int := if w = 0 then a + b + c else if w = 1 then a else if w = 2 then b else c
theorem jOk {l : List (Nat → Int)} {T : Nat → Int} {s p K : Int} (h : mOk l T) (hK : 0 ≤ K ∧ K ≤ 60000) (n : Nat) (hn : n ≤ l.length) : shOk (jS l (aJ s p l n)) (jGr T l (aJ s p l n)) K (T 1) (aJ s p l n).length := by
  have hl := h.lo
  have hc := aJ_len (s := s) (p := p) (l := l) n
  have h60 := hl.1
  refine ⟨by omega, fun i hi => (hl.2 _ (by have := (aJ_in n i hi).1; omega)).2.2.2.2.1, fun i hi => ?_, hK, h.t1⟩
  have ho := (hl.2 _ (show jG (aJ s p l n) i < l.length by have := (aJ_in n i hi).1; omega)).2.2.1
  have ht := h.top (lG l (jG (aJ s p l n) i) 2).toNat (by omega)
  unfold jGr oGr
  split
  · rcases ht with ht | ht <;> omega
  · omega
/-- bounds for sums of parts -/
theorem jC_bd {S g : Nat → Int} {K L : Int} {c : Nat} (ho : shOk S g K L c) {k : Nat} (hk : k < c) : -70000000 ≤ shC S g K L c k ∧ shC S g K L c k ≤ 1000 := by
  have b1 := shA_bd ho hk
  have b2 := shB_bd ho hk
  have b3 := ho.2.1 k hk
  have b4 := shR_bd ho k (by omega)
  have hc := ho.1
  have hK := ho.2.2.2.1
  unfold shC
  constructor <;> omega
section SHR
variable {N : Nat} {G : qG} {ρ : Nat → Nat × Nat} {f : Nat} {A V : Nat → Nat} {nx : Nat} {μ ν : qM} {l : List (Nat → Int)} {T D : Nat → Int} {tr : Nat → Nat → Int}
theorem cLay.shNe (hy : cLay G ρ f) : shNe G (gR G 202 f) :=
  ⟨⟨hy.ne (j := 501) (k := 503) (by decide) (by decide) (by decide), hy.ne (j := 501) (k := 504) (by decide) (by decide) (by decide), hy.ne (j := 501) (k := 505) (by decide) (by decide) (by decide)⟩, ⟨hy.ne (j := 502) (k := 503) (by decide) (by decide) (by decide), hy.ne (j := 502) (k := 504) (by decide) (by decide) (by decide), hy.ne (j := 502) (k := 505) (by decide) (by decide) (by decide)⟩, hy.ne (j := 503) (k := 504) (by decide) (by decide) (by decide), hy.ne (j := 503) (k := 505) (by decide) (by decide) (by decide), hy.ne (j := 504) (k := 505) (by decide) (by decide) (by decide)⟩
/-- what is dealt lies in three rows; what was loaded stays -/
theorem z_deal (hy : cLay G ρ f) {S g : Nat → Int} {K L : Int} {c : Nat} (h6 : gI μ 506 (gR G 202 f) = (c : Int)) (hr : ∀ k, k < c → gA μ (gR G 501 (gR G 202 f)) k = S k ∧ gA μ (gR G 502 (gR G 202 f)) k = g k) (ho : shOk S g K L c) (hN : 100 < N) :
    ∃ ν, f_X5_deal N G (gR G 202 f) K L μ = some ν ∧ dP ρ (pSh f) μ ν ∧ (∀ gg a, gI ν gg a = gI μ gg a) ∧ (∀ a i, gQ ν a i = gQ μ a i) ∧ (∀ i, gA ν (gR G 501 (gR G 202 f)) i = gA μ (gR G 501 (gR G 202 f)) i) ∧ (∀ i, gA ν (gR G 502 (gR G 202 f)) i = gA μ (gR G 502 (gR G 202 f)) i) ∧
      ∀ k, k < c → gA ν (gR G 503 (gR G 202 f)) k = shA S g K k ∧ gA ν (gR G 504 (gR G 202 f)) k = shB S g K L c k ∧ gA ν (gR G 505 (gR G 202 f)) k = shC S g K L c k := by
  obtain ⟨q0, q1, q2, q3, q4, q5, q6⟩ := hy.sh
  obtain ⟨⟨n1, n2, n3⟩, ⟨m1, m2, m3⟩, n34, n35, n45⟩ := hy.shNe
  have e := z_deal5 (N := N) hy.shNe ⟨h6, hr⟩ ho hN
  have w3 := wrM_at (μ := μ) (a := gR G 503 (gR G 202 f)) (f := shA S g K) c
  have w4 := wrM_at (μ := wrM μ (gR G 503 (gR G 202 f)) (shA S g K) c) (a := gR G 504 (gR G 202 f)) (f := shB S g K L c) c
  have w5 := wrM_at (μ := wrM (wrM μ (gR G 503 (gR G 202 f)) (shA S g K) c) (gR G 504 (gR G 202 f)) (shB S g K L c) c) (a := gR G 505 (gR G 202 f)) (f := shC S g K L c) c
  refine ⟨_, e, ((dP.wr q4).tr (dP.wr q5)).tr (dP.wr q6), fun gg a => ?_, fun a i => ?_, fun i => ?_, fun i => ?_, fun k hk => ⟨?_, ?_, ?_⟩⟩
  · rw [w5.1, w4.1, w3.1]
  · rw [w5.2.1, w4.2.1, w3.2.1]
  · rw [w5.2.2.1 _ _ n3, w4.2.2.1 _ _ n2, w3.2.2.1 _ _ n1]
  · rw [w5.2.2.1 _ _ m3, w4.2.2.1 _ _ m2, w3.2.2.1 _ _ m1]
  · rw [w5.2.2.1 _ _ n35, w4.2.2.1 _ _ n34, w3.2.2.2.1 k hk]
  · rw [w5.2.2.1 _ _ n45, w4.2.2.2.1 k hk]
  · rw [w5.2.2.2.1 k hk]
theorem z_partAt5 {h : Nat} {a b d w : Int} {k : Nat} (hk : k < 68) (ha : gA μ (gR G 503 h) k = a) (hb : gA μ (gR G 504 h) k = b) (hd : gA μ (gR G 505 h) k = d) (q : (-100000000 ≤ a ∧ a ≤ 100000000) ∧ (-100000000 ≤ b ∧ b ≤ 100000000) ∧ (-100000000 ≤ d ∧ d ≤ 100000000)) (hw : 0 ≤ w ∧ w ≤ 3) : f_X5_partAt N G h (k : Int) w μ = some (jP a b d w, μ) := by
  unfold f_X5_partAt jP
  rw [rdA_p ⟨by omega, by omega⟩, rdA_p ⟨by omega, by omega⟩, rdA_p ⟨by omega, by omega⟩, Int.toNat_natCast, ha, hb, hd]
  simp only [rdA_p (show 0 ≤ (k : Int) ∧ (k : Int) < 68 by omega)]
  rw [Int.toNat_natCast, ha, hb, hd, ckI_p ⟨by omega, by omega⟩, ckI_p ⟨by omega, by omega⟩]
  by_cases c1 : w = 1
  · rw [if_pos c1, if_neg (by omega), if_pos c1]
  · by_cases c2 : w = 2
    · rw [if_neg c1, if_pos c2, if_neg (by omega), if_neg c1, if_pos c2]
    · by_cases c3 : w = 3
      · rw [if_neg c1, if_neg c2, if_pos c3, if_neg (by omega), if_neg c1, if_neg c2]
      · rw [if_neg c1, if_neg c2, if_neg c3, if_pos (by omega)]
theorem jP_bd {a b d w : Int} (q : (-100000000 ≤ a ∧ a ≤ 100000000) ∧ (-100000000 ≤ b ∧ b ≤ 100000000) ∧ (-100000000 ≤ d ∧ d ≤ 100000000)) : -300000000 ≤ jP a b d w ∧ jP a b d w ≤ 300000000 := by
  unfold jP
  split
  · omega
  · split
    · omega
    · split <;> omega
/-- the parts of one order's rows, together: those from u up to v -/
theorem z_partOf5 {h : Nat} {a b d : Nat → Int} {O : Nat → Nat} {c o : Nat} {w : Int} {F : Nat → Int} (hc : c ≤ 68) (h6 : gI μ 506 h = (c : Int)) (hQ : ∀ k, k < c → gQ μ (gR G 500 h) k = some (O k) ∧ gK G (O k) = 5)
    (hr : ∀ k, k < c → gA μ (gR G 503 h) k = a k ∧ gA μ (gR G 504 h) k = b k ∧ gA μ (gR G 505 h) k = d k) (hq : ∀ k, k < c → (-100000000 ≤ a k ∧ a k ≤ 100000000) ∧ (-100000000 ≤ b k ∧ b k ≤ 100000000) ∧ (-100000000 ≤ d k ∧ d k ≤ 100000000)) (hw : 0 ≤ w ∧ w ≤ 3)
    (hF0 : F 0 = 0) (hF : ∀ k, k < c → F (k + 1) = F k + if O k = o then jP (a k) (b k) (d k) w else 0) (hFb : ∀ k, k ≤ c → in32 (F k)) (hN : 100 < N) : f_X5_partOf N G h o w μ = some (F c, μ) := by
  unfold f_X5_partOf f_X5_partOf_L5
  have goal := qLoop_end (step := fun k p => f_X5_partOf_5 N G (fun x0 x1 x2 x3 x4 m0 => k (x0, x1, x2, x3, x4, m0)) p.1 p.2.1 p.2.2.1 p.2.2.2.1 p.2.2.2.2.1 p.2.2.2.2.2) (fun j => (h, o, w, F j, (j : Int), μ)) c N (r := some (F c, μ)) (by omega) (fun j hj k => ?_) (fun k => ?_)
  · rw [hF0] at goal
    exact goal
  · show f_X5_partOf_5 N G _ h o w (F j) (j : Int) μ = k (h, o, w, F (j + 1), ((j + 1 : Nat) : Int), μ)
    obtain ⟨r1, r2, r3⟩ := hr j hj
    have bd := hFb (j + 1) (by omega)
    have e := hF j hj
    unfold f_X5_partOf_5 f_X5_partOf_37
    rw [h6, if_pos (by omega), rdQ_p (o := O j) ⟨by omega, by omega⟩ (by rw [Int.toNat_natCast]; exact (hQ j hj).1) (hQ j hj).2]
    by_cases q : O j = o
    · rw [if_pos q] at e
      rw [if_pos q, kb2_p (z_partAt5 (by omega) r1 r2 r3 (hq j hj) hw), ← e, ckI_p bd, ckI_p ⟨by omega, by omega⟩, cast1]
    · rw [if_neg q] at e
      rw [if_neg q, ← e, ckI_p bd, ckI_p ⟨by omega, by omega⟩, cast1]
  · show f_X5_partOf_5 N G _ h o w (F c) (c : Int) μ = _
    unfold f_X5_partOf_5
    rw [h6, if_neg (by omega)]
/-- what an order would have -/
def aShr (l : List (Nat → Int)) (T : Nat → Int) (i : Nat) (K w : Int) : Int :=
  if aIn w 0 3 = true ∧ aIn K 1 (aS (wZ (lG l i 2) (lG l i 3)) l) = true then jP (jA l T (aJ (lG l i 2) (lG l i 3) l l.length) K (aJ (lG l i 2) (lG l i 3) l i).length) (jB l T (aJ (lG l i 2) (lG l i 3) l l.length) K (aJ (lG l i 2) (lG l i 3) l i).length) (jC l T (aJ (lG l i 2) (lG l i 3) l l.length) K (aJ (lG l i 2) (lG l i 3) l i).length) w else -1
def aShare (l : List (Nat → Int)) (T : Nat → Int) (k K w : Int) : Int := match aPlace k l with | some i => aShr l T i K w | none => -1
theorem aAt_self {o : Nat → Int} : aAt (o 2) (o 3) o = true := decide_eq_true ⟨rfl, rfl⟩
theorem sumZ {s p : Int} : sumN (jS l (aJ s p l l.length)) (aJ s p l l.length).length = aS (wZ s p) l := by
  rw [jS_sum l.length (Nat.le_refl _), List.take_length]
/-- the class's own part of a row behind a deal: it lies in one row alone -/
theorem z_partOfJ (hb : cB G (gR G 200 f) A μ l) (hl : lOk l) {h : Nat} {s p K w : Int} {S g : Nat → Int} {L : Int} (ho : shOk S g K L (aJ s p l l.length).length) {i : Nat} (hi : i < l.length) (hat : aAt s p (lG l i) = true) (hw : 0 ≤ w ∧ w ≤ 3) (h6 : gI μ 506 h = ((aJ s p l l.length).length : Int))
    (hQ : ∀ k, k < (aJ s p l l.length).length → gQ μ (gR G 500 h) k = some (A (jG (aJ s p l l.length) k))) (hr : ∀ k, k < (aJ s p l l.length).length → gA μ (gR G 503 h) k = shA S g K k ∧ gA μ (gR G 504 h) k = shB S g K L (aJ s p l l.length).length k ∧ gA μ (gR G 505 h) k = shC S g K L (aJ s p l l.length).length k) (hN : 100 < N) :
    f_X5_partOf N G h (A i) w μ = some (jP (shA S g K (aJ s p l i).length) (shB S g K L (aJ s p l l.length).length (aJ s p l i).length) (shC S g K L (aJ s p l l.length).length (aJ s p l i).length) w, μ) := by
  have h60 := hl.1
  have hc := aJ_len (s := s) (p := p) (l := l) l.length
  obtain ⟨hk1, hk2⟩ := aJ_rk (s := s) (p := p) (l := l) hi hat
  have hjl : ∀ k, k < (aJ s p l l.length).length → jG (aJ s p l l.length) k < l.length := fun k hk => (aJ_in _ k hk).1
  have hinj : ∀ j, j < (aJ s p l l.length).length → (A (jG (aJ s p l l.length) j) = A i ↔ j = (aJ s p l i).length) := by
    intro j hj
    constructor
    · intro e
      have := hb.2.2.1 _ _ (by have := hjl j hj; omega) (by omega) e
      exact aJ_inj hj hk1 (by rw [hk2]; exact this)
    · intro e; rw [e, hk2]
  generalize (aJ s p l i).length = r at *
  generalize aJ s p l l.length = J at *
  have bd : ∀ k, k < J.length → (-100000000 ≤ shA S g K k ∧ shA S g K k ≤ 100000000) ∧ (-100000000 ≤ shB S g K L J.length k ∧ shB S g K L J.length k ≤ 100000000) ∧ (-100000000 ≤ shC S g K L J.length k ∧ shC S g K L J.length k ≤ 100000000) := by
    intro k hk
    have b1 := shA_bd ho hk
    have b2 := shB_bd ho hk
    have b3 := jC_bd ho hk
    have b4 := ho.2.1 k hk
    have b5 := ho.2.2.2.1
    refine ⟨⟨by omega, by omega⟩, ⟨by omega, by omega⟩, ⟨by omega, by omega⟩⟩
  have pb := jP_bd (w := w) (bd r hk1)
  have e := z_partOf5 (N := N) (μ := μ) (G := G) (h := h) (o := A i) (w := w) (O := fun k => A (jG J k)) (c := J.length) (a := shA S g K) (b := shB S g K L J.length) (d := shC S g K L J.length)
    (F := fun k => if r < k then jP (shA S g K r) (shB S g K L J.length r) (shC S g K L J.length r) w else 0) (by omega) h6 (fun k hk => ⟨hQ k hk, (hb.2.1 _ (by have := hjl k hk; omega)).2⟩) hr bd hw (if_neg (by omega)) (fun k hk => ?_) (fun k hk => ?_) hN
  · rw [e]
    show some ((if r < J.length then _ else (0 : Int)), μ) = _
    rw [if_pos hk1]
  · by_cases q : k = r
    · subst q
      rw [if_pos (by omega), if_neg (by omega), if_pos ((hinj k hk).mpr rfl), Int.zero_add]
    · rw [if_neg (fun x => q ((hinj k hk).mp x)), Int.add_zero]
      by_cases q2 : r < k
      · rw [if_pos q2, if_pos (by omega)]
      · rw [if_neg q2, if_neg (by omega)]
  · split
    · exact ⟨by omega, by omega⟩
    · exact ⟨by decide, by decide⟩
theorem z_share7 {x : Nat} {n : Nat} {B : Nat → Int} (hy : cLY G ρ x) (h : cR G ρ x μ l T D tr n B) (ho : mOk l T) (hN : 100 < N) (k K w : Int) : ∃ ν, f_X7_share N G x k K w μ = some (aShare l T k K w, ν) ∧ cR G ρ x ν l T D tr n B := by
  obtain ⟨A, V, nx, hf⟩ := h.1
  have hl := ho.lo
  have h60 := hl.1
  unfold f_X7_share aShare
  rw [kb2_p (z_find0 hf.1 hl.1 hN)]
  cases hp : aPlace k l with
  | none => exact ⟨μ, rfl, h⟩
  | some i =>
    obtain ⟨-, hi, -, -⟩ := aPl_some hp
    rw [Nat.zero_add] at hi
    obtain ⟨μ1, e1, e2, e3, e4, e5⟩ := z_load5 (N := N) hy.1 hf hl hN (lG l i 2) (lG l i 3)
    have f2 : gI μ 402 (A i) = lG l i 2 := z_f0 hf.1 hi 2 (by decide)
    have f3 : gI μ 403 (A i) = lG l i 3 := z_f0 hf.1 hi 3 (by decide)
    have h1 : cR G ρ x μ1 l T D tr n B := h.flo hy (e2.role pSh_1) ⟨A, V, nx, hf.frm hy.1 h60 e2 pSh_mk⟩
    have hf1 := hf.frm hy.1 h60 e2 pSh_mk
    show ∃ ν, (if w < 0 then some ((-1 : Int), μ) else if 3 < w then some (-1, μ) else kb (f_X5_load N G (gR G 202 (gR G 700 x)) (gR G 200 (gR G 700 x)) (gI μ 402 (A i)) (gI μ 403 (A i)) μ) fun m6 => if K < 1 then some (-1, m6) else if gI m6 507 (gR G 202 (gR G 700 x)) < K then some (-1, m6) else kb (f_X5_deal N G (gR G 202 (gR G 700 x)) K (gI m6 206 (gR G 700 x)) m6) fun m10 => kb2 (f_X5_partOf N G (gR G 202 (gR G 700 x)) (A i) w m10) fun v13 m12 => some (v13, m12)) = some (aShr l T i K w, ν) ∧ cR G ρ x ν l T D tr n B
    rw [f2, f3, kb_p e1, e4, sumZ, hf1.2.2.2.1.2.1]
    have no : ∀ c : Prop, ¬ (aIn w 0 3 = true ∧ aIn K 1 (aS (wZ (lG l i 2) (lG l i 3)) l) = true) → aShr l T i K w = -1 := fun _ q => if_neg q
    by_cases c1 : 0 ≤ w ∧ w ≤ 3
    · rw [if_neg (by omega), if_neg (by omega)]
      by_cases c2 : 1 ≤ K ∧ K ≤ aS (wZ (lG l i 2) (lG l i 3)) l
      · rw [if_neg (by omega), if_neg (by omega)]
        have hb := aS_bd (w := wZ (lG l i 2) (lG l i 3)) (wZ_bd hl)
        have oo := jOk (s := lG l i 2) (p := lG l i 3) (K := K) ho ⟨by omega, by omega⟩ l.length (Nat.le_refl _)
        obtain ⟨μ2, d1, d2, d3, d4, d5, d6, d7⟩ := z_deal (N := N) (μ := μ1) hy.1 e3 (fun k hk => (e5 k hk).2) oo hN
        have hf2 := hf1.frm hy.1 h60 d2 pSh_mk
        rw [kb_p d1, kb2_p (z_partOfJ (μ := μ2) (w := w) hf2.1 hl oo hi aAt_self c1 (by rw [d3]; exact e3) (fun k hk => by rw [d4]; exact (e5 k hk).1) d7 hN)]
        refine ⟨μ2, ?_, h1.flo hy (d2.role pSh_1) ⟨A, V, nx, hf2⟩⟩
        unfold aShr
        rw [if_pos ⟨decide_eq_true c1, decide_eq_true c2⟩]
        rfl
      · rw [no (c1 = c1) (fun q => c2 (of_decide_eq_true q.2))]
        refine ⟨μ1, ?_, h1⟩
        by_cases d : K < 1
        · rw [if_pos d]
        · rw [if_neg d, if_pos (by omega)]
    · rw [no (c1 = c1) (fun q => c1 (of_decide_eq_true q.1))]
      refine ⟨μ, ?_, h⟩
      by_cases d : w < 0
      · rw [if_pos d]
      · rw [if_neg d, if_pos (by omega)]
end SHR
