/-! PURE: the class's calls in the law, over the market -/
def b0 : Nat → Int := fun _ => 0
def St (G : qG) (ρ : Nat → Nat × Nat) (x : Nat) (m : qM) (l : List (Nat → Int)) (T D : Nat → Int) (tr : Nat → Nat → Int) : Prop := cR G ρ x m l T D tr 0 b0 ∧ in32 (gI m 210 (gR G 700 x))
section STC
variable {N : Nat} {G : qG} {ρ : Nat → Nat × Nat} {x : Nat} {m : qM} {l : List (Nat → Int)} {T D : Nat → Int} {tr : Nat → Nat → Int}
theorem s_grant (hy : cLY G ρ x) (h : St G ρ x m l T D tr) {v : Int} (hv : 0 ≤ v ∧ v ≤ 1000) : ∃ ν, f_X7_grant N G x v m = some (T 0, ν) ∧ St G ρ x ν l (upd1 T 0 v) D tr := by
  have c : aIn v 0 1000 = true := decide_eq_true hv
  obtain ⟨ν, e1, e2⟩ := z_grant7 (N := N) hy h.1 v
  rw [if_pos c] at e1 e2
  refine ⟨ν, e1, e2, ?_⟩
  have e3 := e1
  unfold f_X7_grant at e3
  rw [if_neg (by omega), if_neg (by omega), kp_p] at e3
  obtain ⟨-, rfl⟩ := Prod.mk.inj (Option.some.inj e3)
  rw [gI_f (by decide)]
  exact h.2
theorem s_least (hy : cLY G ρ x) (h : St G ρ x m l T D tr) {v : Int} (hv : 1 ≤ v ∧ v ≤ 50) : ∃ ν, f_X7_least N G x v m = some (T 1, ν) ∧ St G ρ x ν l (upd1 T 1 v) D tr := by
  have c : aIn v 1 50 = true := decide_eq_true hv
  obtain ⟨ν, e1, e2⟩ := z_least7 (N := N) hy h.1 v
  rw [if_pos c] at e1 e2
  refine ⟨ν, e1, e2, ?_⟩
  have e3 := e1
  unfold f_X7_least at e3
  rw [if_neg (by omega), if_neg (by omega), kp_p] at e3
  obtain ⟨-, rfl⟩ := Prod.mk.inj (Option.some.inj e3)
  rw [gI_f (by decide)]
  exact h.2
theorem s_least51 : f_X7_least N G x 51 m = some (-1, m) := by
  unfold f_X7_least
  rw [if_neg (by decide), if_pos (by decide)]
theorem s_top (h : St G ρ x m l T D tr) (ho : mOk l T) {s : Int} (hs : s = 0 ∨ s = 1) : f_X7_top N G x s m = some (T (6 + s.toNat), m) := by
  have e := z_top7 (N := N) h.1 (fun s hs => by rcases ho.top s hs with q | q; exact Or.inl q.1; exact Or.inr q.1) s
  rw [if_pos (show aIn s 0 1 = true from decide_eq_true (by omega))] at e
  exact e
theorem s_count (h : St G ρ x m l T D tr) (ho : mOk l T) (w : Int) : f_X7_count N G x w m = some (aCount l T 0 w, m) := z_count7 h.1 ho.t2 w
theorem s_trade (h : St G ρ x m l T D tr) (ho : mOk l T) (i w : Int) : f_X7_trade N G x i w m = some (if 0 ≤ i ∧ i < T 10 ∧ 0 ≤ w ∧ w ≤ 4 then tr i.toNat w.toNat else -1, m) := z_trade7 h.1 ho.t10 i w
theorem s_pos (h : St G ρ x m l T D tr) : gA m (gR G 305 (gR G 201 (gR G 700 x))) 9 = T 23 := by
  obtain ⟨A, V, nx, hf⟩ := h.1.1
  exact (hf.2.2.2.2.2.1 9 (by decide)).1
theorem s_order (hy : cLY G ρ x) (h : St G ρ x m l T D tr) (ho : mOk l T) (hw : wOk T) (hd : dOk D) (h2 : T 2 = 0) (h4 : T 4 ≤ 1999999999) (hN : 1000 < N) {t0 s pr z0 mode : Int} (hF : isForm t0 s pr z0 mode) (hdr : pr * z0 ≤ 2147483647) :
    ∃ ν, f_X7_order N G x t0 s pr z0 mode m = some ((ordAll l T D tr t0 s pr z0 mode).2.2.2.2, ν) ∧ St G ρ x ν (ordAll l T D tr t0 s pr z0 mode).1 (ordAll l T D tr t0 s pr z0 mode).2.1 (ordAll l T D tr t0 s pr z0 mode).2.2.1 (ordAll l T D tr t0 s pr z0 mode).2.2.2.1 := by
  have c : aForm t0 s pr z0 mode = true := decide_eq_true ⟨hF.1, by have := hF.2.1; omega, hF.2.2.1, hF.2.2.2.1, hF.2.2.2.2⟩
  have d : aDear pr z0 = true := decide_eq_true hdr
  obtain ⟨ν, k1, k2, k3, k4⟩ := z_comeIn (N := N) hy.1 ho hw hd hF h.1.1 h.2 h4 hN
  have e : ordAll l T D tr t0 s pr z0 mode = ordRes l T D tr t0 s pr z0 mode := by unfold ordAll; rw [if_pos c, if_pos d]
  rw [e]
  refine ⟨ν, ?_, h.1.flo hy k2 k3, by rw [(k4 h2).2]; exact w32_in _⟩
  unfold f_X7_order
  rw [kb2_p z_isForm7, b01_ite, if_pos c, kb2_p (z_isWorthInt7 hF.2.2.1 hF.2.2.2.1), b01_ite, if_pos d, kb2_p k1]
theorem s_share (hy : cLY G ρ x) (h : St G ρ x m l T D tr) (ho : mOk l T) (hN : 100 < N) (k K w : Int) : ∃ ν, f_X7_share N G x k K w m = some (aShare l T k K w, ν) ∧ St G ρ x ν l T D tr := by
  have rf : ρ (gR G 700 x) = (gR G 700 x, 1) := hy.1 1 (by decide)
  have n1 : ¬ pSh (gR G 700 x) (ρ (gR G 700 x)) := by rw [rf]; unfold pSh; intro q; have := q.2; simp at this
  obtain ⟨h, hg⟩ := h
  obtain ⟨A, V, nx, hf⟩ := id h.1
  have hl := ho.lo
  have h60 := hl.1
  unfold f_X7_share aShare
  rw [kb2_p (z_find0 hf.1 hl.1 hN)]
  cases hp : aPlace k l with
  | none => exact ⟨m, rfl, h, hg⟩
  | some i =>
    obtain ⟨-, hi, -, -⟩ := aPl_some hp
    rw [Nat.zero_add] at hi
    obtain ⟨μ1, e1, e2, e3, e4, e5⟩ := z_load5 (N := N) hy.1 hf hl hN (lG l i 2) (lG l i 3)
    have f2 : gI m 402 (A i) = lG l i 2 := z_f0 hf.1 hi 2 (by decide)
    have f3 : gI m 403 (A i) = lG l i 3 := z_f0 hf.1 hi 3 (by decide)
    have h1 : cR G ρ x μ1 l T D tr 0 b0 := h.flo hy (e2.role pSh_1) ⟨A, V, nx, hf.frm hy.1 h60 e2 pSh_mk⟩
    have hf1 := hf.frm hy.1 h60 e2 pSh_mk
    have g1 : gI μ1 210 (gR G 700 x) = gI m 210 (gR G 700 x) := e2.1 _ _ n1
    show ∃ ν, (if w < 0 then some ((-1 : Int), m) else if 3 < w then some (-1, m) else kb (f_X5_load N G (gR G 202 (gR G 700 x)) (gR G 200 (gR G 700 x)) (gI m 402 (A i)) (gI m 403 (A i)) m) fun m6 => if K < 1 then some (-1, m6) else if gI m6 507 (gR G 202 (gR G 700 x)) < K then some (-1, m6) else kb (f_X5_deal N G (gR G 202 (gR G 700 x)) K (gI m6 206 (gR G 700 x)) m6) fun m10 => kb2 (f_X5_partOf N G (gR G 202 (gR G 700 x)) (A i) w m10) fun v13 m12 => some (v13, m12)) = some (aShr l T i K w, ν) ∧ St G ρ x ν l T D tr
    rw [f2, f3, kb_p e1, e4, sumZ, hf1.2.2.2.1.2.1]
    have no : ∀ c : Prop, ¬ (aIn w 0 3 = true ∧ aIn K 1 (aS (wZ (lG l i 2) (lG l i 3)) l) = true) → aShr l T i K w = -1 := fun _ q => if_neg q
    by_cases c1 : 0 ≤ w ∧ w ≤ 3
    · rw [if_neg (by omega), if_neg (by omega)]
      by_cases c2 : 1 ≤ K ∧ K ≤ aS (wZ (lG l i 2) (lG l i 3)) l
      · rw [if_neg (by omega), if_neg (by omega)]
        have hb := aS_bd (w := wZ (lG l i 2) (lG l i 3)) (wZ_bd hl)
        have oo := jOk (s := lG l i 2) (p := lG l i 3) (K := K) ho ⟨by omega, by omega⟩ l.length (Nat.le_refl _)
        obtain ⟨μ2, d1, d2, d3, d4, d5, d6, d7⟩ := z_deal (N := N) (μ := μ1) hy.1 e3 (fun k hk => (e5 k hk).2) oo hN
        have hf2 := hf1.frm hy.1 h60 d2 pSh_mk
        have g2 : gI μ2 210 (gR G 700 x) = gI μ1 210 (gR G 700 x) := d2.1 _ _ n1
        rw [kb_p d1, kb2_p (z_partOfJ (μ := μ2) (w := w) hf2.1 hl oo hi aAt_self c1 (by rw [d3]; exact e3) (fun k hk => by rw [d4]; exact (e5 k hk).1) d7 hN)]
        refine ⟨μ2, ?_, h1.flo hy (d2.role pSh_1) ⟨A, V, nx, hf2⟩, by rw [g2, g1]; exact hg⟩
        unfold aShr
        rw [if_pos ⟨decide_eq_true c1, decide_eq_true c2⟩]
        rfl
      · rw [no (c1 = c1) (fun q => c2 (of_decide_eq_true q.2))]
        refine ⟨μ1, ?_, h1, by rw [g1]; exact hg⟩
        by_cases d : K < 1
        · rw [if_pos d]
        · rw [if_neg d, if_pos (by omega)]
    · rw [no (c1 = c1) (fun q => c1 (of_decide_eq_true q.1))]
      refine ⟨m, ?_, h, hg⟩
      by_cases d : w < 0
      · rw [if_pos d]
      · rw [if_neg d, if_pos (by omega)]
end STC
/-- what the law's stretches take besides, said of the market -/
def oQ (N : Nat) (G : qG) (ρ : Nat → Nat × Nat) (x : Nat) (Ω : oB) : Prop :=
  (∀ k n : Int, 0 < n → 0 ≤ Ω.1 k n ∧ Ω.1 k n < n) ∧
  (∀ (m : qM) (l : List (Nat → Int)) (T D : Nat → Int) (tr : Nat → Nat → Int) (k : Int) (i : Nat), St G ρ x m l T D tr → mOk l T → aPlace k l = some i → Ω.2.1 m k = some (oGr T (lG l i)) ∧ Ω.2.2 m k = some (lG l i 4, 0)) ∧
  ∀ (m : qM) (l : List (Nat → Int)) (T D : Nat → Int) (tr : Nat → Nat → Int) (k : Int), St G ρ x m l T D tr → mOk l T → aPlace k l = none → Ω.2.2 m k = some (0, 1)
theorem rdW_p {α : Type} {w : Int → Int → Int} {k n : Int} {kk : Int → Option α} (hk : 0 ≤ k ∧ k < 1000) (hn : 0 < n ∧ n < 10000) : rdW w k n kk = kk (w k n) := if_pos ⟨hk, hn⟩
theorem szK_0 {α : Type} {r : Option (Int × Nat)} {v : Int} {cn : Nat} {k : Int → Nat → Option α} (h : r = some (v, 0)) : szK r cn k = k v cn := by rw [h]; rfl
theorem szK_1 {α : Type} {r : Option (Int × Nat)} {v : Int} {cn : Nat} {k : Int → Nat → Option α} (h : r = some (v, 1)) (hc : cn < 1000) : szK r cn k = k v (cn + 1) := by rw [h]; exact if_pos hc
