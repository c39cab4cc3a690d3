/-! PURE: 'level' and 'ahead' on both sides -/
def aLevV (s p w : Int) (l : List (Nat → Int)) : Int := if w = 0 then p else if w = 1 then aS (wZ s p) l else aS (wC s p) l
def aLev (s k w : Int) (l : List (Nat → Int)) (c : Nat) : Int := if k = -1 then (c : Int) else if 0 ≤ k ∧ k < (c : Int) then aLevV s (aPr s l k.toNat) w l else -1
theorem z_levelL8 {N : Nat} {G : qG} {m : Nat} {s k w : Int} {μ : qM} {l : List (Nat → Int)} {c : Nat} (h : mB G m μ l) (hl : lOk l) (hN : 100 < N) (hs : s = 0 ∨ s = 1) (hk : -1 ≤ k) (hc : c ≤ l.length) (h0 : aPr s l c = 0) (hne : ∀ j, j < c → aPr s l j ≠ 0) : f_X8_level_L45 N G m s k w 0 (aPr s l 0) μ = some (aLev s k w l c, μ) := by
  have hn := hl.1
  have pos : ∀ j, j < c → 0 < aPr s l j := fun j hj => by have := (aPr_bd hl hs j (hne j hj)).2.1; omega
  have st : ∀ j : Nat, j < c → (j : Int) ≠ k → ∀ kk : Nat × Int × Int × Int × Int × Int × qM → Option (Int × qM), f_X8_level_45 N G (fun x0 x1 x2 x3 x4 x5 m0 => kk (x0, x1, x2, x3, x4, x5, m0)) m s k w (j : Int) (aPr s l j) μ = kk (m, s, k, w, ((j + 1 : Nat) : Int), aPr s l (j + 1), μ) := by
    intro j hj hjk kk
    unfold f_X8_level_45
    rw [if_pos (pos j hj), if_neg hjk, ckI_p ⟨by omega, by omega⟩, kb2_p (z_priceBehind8 h hl hN), aBeh_p (hne j hj), cast1]
    rw [show aPr s l (j + 1) = aNext s (aPr s l j) l from if_neg (hne j hj)]
  unfold f_X8_level_L45 aLev
  by_cases ck : 0 ≤ k ∧ k < (c : Int)
  · obtain ⟨q, rfl⟩ := Int.eq_ofNat_of_zero_le ck.1
    have hq : q < c := by omega
    rw [if_neg (by omega), if_pos ck, Int.toNat_natCast]
    refine qLoop_end (fun j => (m, s, (q : Int), w, (j : Int), aPr s l j, μ)) q N (by omega) (fun j hj kk => st j (by omega) (by omega) kk) (fun kk => ?_)
    show f_X8_level_45 N G _ m s (q : Int) w (q : Int) (aPr s l q) μ = _
    unfold f_X8_level_45 aLevV
    rw [if_pos (pos q hq), if_pos rfl, kb2_p (z_sizesAt8 h hl hN), kb2_p (z_ordersAt8 h hn hN), ite_some, ite_some]
  · refine (qLoop_end (fun j => (m, s, k, w, (j : Int), aPr s l j, μ)) c N (by omega) (fun j hj kk => st j hj (by omega) kk) (r := some (if k = -1 then (c : Int) else -1, μ)) (fun kk => ?_)).trans (by rw [if_neg ck])
    show f_X8_level_45 N G _ m s k w (c : Int) (aPr s l c) μ = _
    unfold f_X8_level_45
    rw [h0, if_neg (by decide), ite_some]
section MR2
variable {N : Nat} {G : qG} {m : Nat} {μ : qM} {l : List (Nat → Int)} {T D : Nat → Int} {tr : Nat → Nat → Int} {n : Nat} {B : Nat → Int}
theorem z_level8 (h : mR G m μ l T D tr n B) (hl : lOk l) (hN : 100 < N) (s k w : Int) : ∃ ν r, f_X8_level N G m s k w μ = some (r, ν) ∧ mR G m ν l T D tr n B ∧ (aIn s 0 1 = true ∧ aIn w 0 2 = true ∧ -1 ≤ k → ∀ c, c ≤ l.length → aPr s l c = 0 → (∀ j, j < c → aPr s l j ≠ 0) → r = aLev s k w l c) ∧ (¬ (aIn s 0 1 = true ∧ aIn w 0 2 = true ∧ -1 ≤ k) → r = -1) := by
  unfold f_X8_level
  have h1 := h.fld (f := 804) (a := m) (v := 0) (by decide)
  rw [kp_p, kb2_p z_within8, b01_ite]
  by_cases c1 : aIn s 0 1 = true
  · rw [if_pos c1, kb2_p z_within8, b01_ite]
    by_cases c2 : aIn w 0 2 = true
    · rw [if_pos c2]
      by_cases c3 : k < -1
      · rw [if_pos c3]
        exact ⟨_, _, rfl, h1, fun q => absurd q.2.2 (by omega), fun _ => rfl⟩
      · have hs' : 0 ≤ s ∧ s ≤ 1 := of_decide_eq_true c1
        have hs : s = 0 ∨ s = 1 := by omega
        obtain ⟨c, hc, h0, hne⟩ := aPr_ex (l := l) hl hs
        rw [if_neg c3, kb2_p (z_priceBehind8 h1.1 hl hN), aBeh_0]
        have e := z_levelL8 (w := w) h1.1 hl hN hs (k := k) (by omega) hc h0 hne
        refine ⟨_, _, e, h1, fun _ c' hc' h0' hne' => ?_, fun q => absurd ⟨c1, c2, by omega⟩ q⟩
        have : c = c' := by
          rcases Nat.lt_trichotomy c c' with q | q | q
          · exact absurd h0 (hne' c q)
          · exact q
          · exact absurd h0' (hne c' q)
        rw [this]
    · rw [if_neg c2]
      exact ⟨_, _, rfl, h1, fun q => absurd q.2.1 c2, fun _ => rfl⟩
  · rw [if_neg c1]
    exact ⟨_, _, rfl, h1, fun q => absurd q.1 c1, fun _ => rfl⟩
end MR2
theorem z_priceAt0 {N : Nat} {G : qG} {b : Nat} {A : Nat → Nat} {s k : Int} {μ : qM} {l : List (Nat → Int)} (h : cB G b A μ l) (hl : lOk l) (hN : 100 < N) (hs : s = 0 ∨ s = 1) : f_X0_priceAt N G b s k μ = some (if 0 ≤ k ∧ k < 60 then aPr s l k.toNat else 0, μ) := by
  unfold f_X0_priceAt
  by_cases c1 : k < 0
  · rw [if_pos c1, if_neg (by omega)]
  · by_cases c2 : k < 60
    · obtain ⟨q, rfl⟩ := Int.eq_ofNat_of_zero_le (show 0 ≤ k by omega)
      rw [if_neg c1, if_pos c2, kb2_p (z_best0 h hl hN hs), if_pos ⟨by omega, c2⟩, Int.toNat_natCast]
      obtain ⟨c, hc, h0, hne⟩ := aPr_ex (l := l) hl hs
      have pos : ∀ j, j < c → 0 < aPr s l j := fun j hj => by have := (aPr_bd hl hs j (hne j hj)).2.1; omega
      have st : ∀ j : Nat, j < c → j < q → ∀ kk : Nat × Int × Int × Int × Int × qM → Option (Int × qM), f_X0_priceAt_21 N G (fun x0 x1 x2 x3 x4 m0 => kk (x0, x1, x2, x3, x4, m0)) b s (q : Int) (aPr s l j) (j : Int) μ = kk (b, s, (q : Int), aPr s l (j + 1), ((j + 1 : Nat) : Int), μ) := by
        intro j hj hjq kk
        unfold f_X0_priceAt_21
        rw [if_pos (by omega), if_pos (pos j hj), kb2_p (z_nextPrice0 h hl hN), ckI_p ⟨by omega, by omega⟩, cast1]
        rw [show aPr s l (j + 1) = aNext s (aPr s l j) l from if_neg (hne j hj)]
      unfold f_X0_priceAt_L21
      by_cases cq : q ≤ c
      · refine qLoop_end (fun j => (b, s, (q : Int), aPr s l j, (j : Int), μ)) q N (by omega) (fun j hj kk => st j (by omega) hj kk) (fun kk => ?_)
        show f_X0_priceAt_21 N G _ b s (q : Int) (aPr s l q) (q : Int) μ = _
        unfold f_X0_priceAt_21
        rw [if_neg (by omega)]
      · refine (qLoop_end (fun j => (b, s, (q : Int), aPr s l j, (j : Int), μ)) c N (by have := hl.1; omega) (fun j hj kk => st j hj (by omega) kk) (r := some (aPr s l q, μ)) (fun kk => ?_))
        show f_X0_priceAt_21 N G _ b s (q : Int) (aPr s l c) (c : Int) μ = _
        unfold f_X0_priceAt_21
        rw [if_pos (by omega), h0, if_neg (by decide), aPr_0 (by omega : c ≤ q) h0]
    · rw [if_neg c1, if_neg c2, if_neg (by omega)]
theorem z_prices0 {N : Nat} {G : qG} {b : Nat} {A : Nat → Nat} {s : Int} {μ : qM} {l : List (Nat → Int)} {c : Nat} (h : cB G b A μ l) (hl : lOk l) (hN : 100 < N) (hs : s = 0 ∨ s = 1) (hc : c ≤ l.length) (h0 : aPr s l c = 0) (hne : ∀ j, j < c → aPr s l j ≠ 0) : f_X0_prices N G b s μ = some ((c : Int), μ) := by
  have hn := hl.1
  have pos : ∀ j, j < c → 0 < aPr s l j := fun j hj => by have := (aPr_bd hl hs j (hne j hj)).2.1; omega
  unfold f_X0_prices f_X0_prices_L11
  rw [kb2_p (z_best0 h hl hN hs)]
  refine qLoop_end (fun j => (b, s, aPr s l j, (j : Int), (j : Int), μ)) c N (by omega) (fun j hj kk => ?_) (fun kk => ?_)
  · show f_X0_prices_11 N G _ b s (aPr s l j) (j : Int) (j : Int) μ = kk (b, s, aPr s l (j + 1), ((j + 1 : Nat) : Int), ((j + 1 : Nat) : Int), μ)
    unfold f_X0_prices_11
    rw [if_pos (by omega), if_pos (pos j hj), ckI_p ⟨by omega, by omega⟩, kb2_p (z_nextPrice0 h hl hN), ckI_p ⟨by omega, by omega⟩, cast1]
    rw [show aPr s l (j + 1) = aNext s (aPr s l j) l from if_neg (hne j hj)]
  · show f_X0_prices_11 N G _ b s (aPr s l c) (c : Int) (c : Int) μ = _
    unfold f_X0_prices_11
    rw [h0]
    by_cases c60 : (c : Int) < 60
    · rw [if_pos c60, if_neg (by decide)]
    · rw [if_neg c60]
theorem z_level7 {N : Nat} {G : qG} {x : Nat} {A : Nat → Nat} {μ : qM} {l : List (Nat → Int)} (h : cB G (gR G 200 (gR G 700 x)) A μ l) (hl : lOk l) (hN : 100 < N) (s k w : Int) : ∃ r, f_X7_level N G x s k w μ = some (r, μ) ∧ (aIn s 0 1 = true ∧ aIn w 0 2 = true ∧ -1 ≤ k → ∀ c, c ≤ l.length → aPr s l c = 0 → (∀ j, j < c → aPr s l j ≠ 0) → r = aLev s k w l c) ∧ (¬ (aIn s 0 1 = true ∧ aIn w 0 2 = true ∧ -1 ≤ k) → r = -1) := by
  have hn := hl.1
  unfold f_X7_level
  rw [kb2_p z_isSide7, b01_ite]
  by_cases c1 : aIn s 0 1 = true
  · have hs' : 0 ≤ s ∧ s ≤ 1 := of_decide_eq_true c1
    have hs : s = 0 ∨ s = 1 := by omega
    rw [if_pos c1]
    by_cases c2 : 0 ≤ w ∧ w ≤ 2
    · have c2' : aIn w 0 2 = true := decide_eq_true c2
      rw [if_neg (by omega), if_neg (by omega)]
      obtain ⟨c, hc, h0, hne⟩ := aPr_ex (l := l) hl hs
      have uq : ∀ c', aPr s l c' = 0 → (∀ j, j < c' → aPr s l j ≠ 0) → c' = c := by
        intro c' h0' hne'
        rcases Nat.lt_trichotomy c c' with q | q | q
        · exact absurd h0 (hne' c q)
        · exact q.symm
        · exact absurd h0' (hne c' q)
      by_cases c3 : k = -1
      · rw [if_pos c3, kb2_p (z_prices0 h hl hN hs hc h0 hne)]
        refine ⟨_, rfl, fun _ c' _ h0' hne' => ?_, fun q => absurd ⟨c1, c2', by omega⟩ q⟩
        unfold aLev
        rw [if_pos c3, uq c' h0' hne']
      · rw [if_neg c3, kb2_p (z_priceAt0 h hl hN hs)]
        by_cases c4 : 0 ≤ k ∧ k < (c : Int)
        · have hk : aPr s l k.toNat ≠ 0 := hne _ (by omega)
          rw [if_pos (show 0 ≤ k ∧ k < 60 by omega), if_neg hk, kb2_p (z_sizesAt0 h hl hN), kb2_p (z_ordersAt0 h hn hN), ite_some, ite_some]
          refine ⟨_, rfl, fun _ c' _ h0' hne' => ?_, fun q => absurd ⟨c1, c2', by omega⟩ q⟩
          unfold aLev aLevV
          rw [uq c' h0' hne', if_neg c3, if_pos c4]
        · have e0 : (if 0 ≤ k ∧ k < 60 then aPr s l k.toNat else 0) = 0 := by
            split
            · exact aPr_0 (j := c) (by omega) h0
            · rfl
          rw [e0, if_pos rfl]
          refine ⟨_, rfl, fun _ c' _ h0' hne' => ?_, fun _ => rfl⟩
          unfold aLev
          rw [uq c' h0' hne', if_neg c3, if_neg c4]
    · have c2' : ¬ aIn w 0 2 = true := fun q => c2 (of_decide_eq_true q)
      refine ⟨-1, ?_, fun q => absurd q.2.1 c2', fun _ => rfl⟩
      by_cases c3 : w < 0
      · rw [if_pos c3]
      · rw [if_neg c3, if_pos (by omega)]
  · rw [if_neg c1]
    exact ⟨_, rfl, fun q => absurd q.1 c1, fun _ => rfl⟩
