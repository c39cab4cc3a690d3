/-! PURE: sums over the rows -/
def aS (w : (Nat → Int) → Int) : List (Nat → Int) → Int
  | [] => 0
  | o :: t => w o + aS w t
theorem aS_cons {w : (Nat → Int) → Int} {o : Nat → Int} {t : List (Nat → Int)} : aS w (o :: t) = w o + aS w t := rfl
def wZ (s p : Int) (o : Nat → Int) : Int := if aAt s p o = true then o 4 else 0
def wC (s p : Int) (o : Nat → Int) : Int := if aAt s p o = true then 1 else 0
def wB (s p : Int) (o : Nat → Int) : Int := if o 2 = s ∧ aBet s (o 3) p = true then o 4 else 0
theorem aS_bd {w : (Nat → Int) → Int} {M : Int} : ∀ {l : List (Nat → Int)}, (∀ i, i < l.length → 0 ≤ w (lG l i) ∧ w (lG l i) ≤ M) → 0 ≤ aS w l ∧ aS w l ≤ M * l.length := by
  intro l
  induction l with
  | nil => intro _; exact ⟨Int.le_refl _, by simp [aS]⟩
  | cons o t ih =>
    intro h
    have h0 : 0 ≤ w o ∧ w o ≤ M := h 0 (by simp)
    obtain ⟨h1, h2⟩ := ih (fun i hi => h (i + 1) (by simpa using hi))
    rw [aS_cons]
    refine ⟨by omega, ?_⟩
    rw [List.length_cons, Int.natCast_succ, Int.mul_add, Int.mul_one]
    omega
theorem wZ_bd {s p : Int} {l : List (Nat → Int)} (hl : lOk l) : ∀ i, i < l.length → 0 ≤ wZ s p (lG l i) ∧ wZ s p (lG l i) ≤ 1000 := by
  intro i hi
  have h := (hl.2 i hi).2.2.2.2.1
  unfold wZ
  split <;> omega
theorem wB_bd {s p : Int} {l : List (Nat → Int)} (hl : lOk l) : ∀ i, i < l.length → 0 ≤ wB s p (lG l i) ∧ wB s p (lG l i) ≤ 1000 := by
  intro i hi
  have h := (hl.2 i hi).2.2.2.2.1
  unfold wB
  split <;> omega
theorem z_sizesAt8 {N : Nat} {G : qG} {m : Nat} {s p : Int} {μ : qM} {l : List (Nat → Int)} (h : mB G m μ l) (hl : lOk l) (hN : 100 < N) : f_X8_sizesAt N G m s p μ = some (aS (wZ s p) l, μ) := by
  have hn := hl.1
  unfold f_X8_sizesAt f_X8_sizesAt_L5
  refine loop_list0 (τ := Int) l (fun i c => (m, s, p, c, (i : Int), μ)) (fun i c => 0 ≤ c ∧ c ≤ 1000 * (i : Int)) (fun t c => some (c + aS (wZ s p) t, μ)) 0 hn hN ⟨by omega, by omega⟩ (fun i c hi hc => Or.inr ?_) (fun c hc k => ?_) |>.trans (by rw [Int.zero_add])
  · have hz := (hl.2 i hi).2.2.2.2.1
    refine ⟨c + wZ s p (lG l i), ?_, ?_, fun k => ?_⟩
    · have := wZ_bd (s := s) (p := p) hl i hi
      constructor <;> omega
    · rw [aS_cons, Int.add_assoc]
    · show f_X8_sizesAt_5 N G _ m s p c (i : Int) μ = _
      unfold f_X8_sizesAt_5 f_X8_sizesAt_37 wZ
      rw [h.1, if_pos (by omega), kb2_p (z_isAt8 h hn hi), b01_ite]
      by_cases c1 : aAt s p (lG l i) = true
      · rw [if_pos c1, if_pos c1, kb2_p (z8_4 h hn hi), ckI_p ⟨by omega, by omega⟩, ckI_p ⟨by omega, by omega⟩, cast1]
      · rw [if_neg c1, if_neg c1, ckI_p ⟨by omega, by omega⟩, cast1, Int.add_zero]
  · show f_X8_sizesAt_5 N G _ m s p c (l.length : Int) μ = _
    unfold f_X8_sizesAt_5
    rw [h.1, if_neg (by omega)]
    show some (c, μ) = some (c + 0, μ)
    rw [Int.add_zero]
theorem z_sizesAt0 {N : Nat} {G : qG} {b : Nat} {A : Nat → Nat} {s p : Int} {μ : qM} {l : List (Nat → Int)} (h : cB G b A μ l) (hl : lOk l) (hN : 100 < N) : f_X0_sizesAt N G b s p μ = some (aS (wZ s p) l, μ) := by
  have hn := hl.1
  unfold f_X0_sizesAt f_X0_sizesAt_L5
  refine loop_list0 (τ := Int) l (fun i c => (b, s, p, c, (i : Int), μ)) (fun i c => 0 ≤ c ∧ c ≤ 1000 * (i : Int)) (fun t c => some (c + aS (wZ s p) t, μ)) 0 hn hN ⟨by omega, by omega⟩ (fun i c hi hc => Or.inr ?_) (fun c hc k => ?_) |>.trans (by rw [Int.zero_add])
  · have hz := (hl.2 i hi).2.2.2.2.1
    refine ⟨c + wZ s p (lG l i), ?_, ?_, fun k => ?_⟩
    · have := wZ_bd (s := s) (p := p) hl i hi
      constructor <;> omega
    · rw [aS_cons, Int.add_assoc]
    · show f_X0_sizesAt_5 N G _ b s p c (i : Int) μ = _
      have f4 : gI μ 404 (A i) = lG l i 4 := z_f0 h hi 4 (by decide)
      unfold f_X0_sizesAt_5 f_X0_sizesAt_40 wZ
      rw [h.1, if_pos (by omega), kb2_p (z_isAt0 h hn hi), b01_ite]
      by_cases c1 : aAt s p (lG l i) = true
      · rw [if_pos c1, if_pos c1, z_row0 h (by omega), f4, ckI_p ⟨by omega, by omega⟩, ckI_p ⟨by omega, by omega⟩, cast1]
      · rw [if_neg c1, if_neg c1, ckI_p ⟨by omega, by omega⟩, ckI_p ⟨by omega, by omega⟩, cast1]
  · show f_X0_sizesAt_5 N G _ b s p c (l.length : Int) μ = _
    unfold f_X0_sizesAt_5
    rw [h.1, if_neg (by omega)]
    show some (c, μ) = some (c + 0, μ)
    rw [Int.add_zero]
theorem z_ordersAt8 {N : Nat} {G : qG} {m : Nat} {s p : Int} {μ : qM} {l : List (Nat → Int)} (h : mB G m μ l) (hn : l.length ≤ 60) (hN : 100 < N) : f_X8_ordersAt N G m s p μ = some (aS (wC s p) l, μ) := by
  unfold f_X8_ordersAt f_X8_ordersAt_L5
  refine loop_list0 (τ := Int) l (fun i c => (m, s, p, c, (i : Int), μ)) (fun i c => 0 ≤ c ∧ c ≤ (i : Int)) (fun t c => some (c + aS (wC s p) t, μ)) 0 hn hN ⟨by omega, by omega⟩ (fun i c hi hc => Or.inr ?_) (fun c hc k => ?_) |>.trans (by rw [Int.zero_add])
  · refine ⟨c + wC s p (lG l i), ?_, ?_, fun k => ?_⟩
    · unfold wC
      split <;> constructor <;> omega
    · rw [aS_cons, Int.add_assoc]
    · show f_X8_ordersAt_5 N G _ m s p c (i : Int) μ = _
      unfold f_X8_ordersAt_5 f_X8_ordersAt_30 wC
      rw [h.1, if_pos (by omega), kb2_p (z_isAt8 h hn hi), b01_ite]
      by_cases c1 : aAt s p (lG l i) = true
      · rw [if_pos c1, if_pos c1, ckI_p ⟨by omega, by omega⟩, ckI_p ⟨by omega, by omega⟩, cast1]
      · rw [if_neg c1, if_neg c1, ckI_p ⟨by omega, by omega⟩, cast1, Int.add_zero]
  · show f_X8_ordersAt_5 N G _ m s p c (l.length : Int) μ = _
    unfold f_X8_ordersAt_5
    rw [h.1, if_neg (by omega)]
    show some (c, μ) = some (c + 0, μ)
    rw [Int.add_zero]
theorem z_ordersAt0 {N : Nat} {G : qG} {b : Nat} {A : Nat → Nat} {s p : Int} {μ : qM} {l : List (Nat → Int)} (h : cB G b A μ l) (hn : l.length ≤ 60) (hN : 100 < N) : f_X0_ordersAt N G b s p μ = some (aS (wC s p) l, μ) := by
  unfold f_X0_ordersAt f_X0_ordersAt_L5
  refine loop_list0 (τ := Int) l (fun i c => (b, s, p, c, (i : Int), μ)) (fun i c => 0 ≤ c ∧ c ≤ (i : Int)) (fun t c => some (c + aS (wC s p) t, μ)) 0 hn hN ⟨by omega, by omega⟩ (fun i c hi hc => Or.inr ?_) (fun c hc k => ?_) |>.trans (by rw [Int.zero_add])
  · refine ⟨c + wC s p (lG l i), ?_, ?_, fun k => ?_⟩
    · unfold wC
      split <;> constructor <;> omega
    · rw [aS_cons, Int.add_assoc]
    · show f_X0_ordersAt_5 N G _ b s p c (i : Int) μ = _
      unfold f_X0_ordersAt_5 f_X0_ordersAt_31 wC
      rw [h.1, if_pos (by omega), kb2_p (z_isAt0 h hn hi), b01_ite]
      by_cases c1 : aAt s p (lG l i) = true
      · rw [if_pos c1, if_pos c1, ckI_p ⟨by omega, by omega⟩, ckI_p ⟨by omega, by omega⟩, cast1]
      · rw [if_neg c1, if_neg c1, ckI_p ⟨by omega, by omega⟩, ckI_p ⟨by omega, by omega⟩, cast1]
  · show f_X0_ordersAt_5 N G _ b s p c (l.length : Int) μ = _
    unfold f_X0_ordersAt_5
    rw [h.1, if_neg (by omega)]
    show some (c, μ) = some (c + 0, μ)
    rw [Int.add_zero]
/-- the number of the k-th order at a price -/
def aQ (s p k : Int) : List (Nat → Int) → Int → Int
  | [], _ => -1
  | o :: t, c => if aAt s p o = true then (if c = k then o 0 else aQ s p k t (c + 1)) else aQ s p k t c
theorem aQ_c {s p k c : Int} {o : Nat → Int} {t : List (Nat → Int)} : aQ s p k (o :: t) c = if aAt s p o = true then (if c = k then o 0 else aQ s p k t (c + 1)) else aQ s p k t c := rfl
theorem z_queueL8 {N : Nat} {G : qG} {m : Nat} {s p n : Int} {μ : qM} {l : List (Nat → Int)} (h : mB G m μ l) (hn : l.length ≤ 60) (hN : 100 < N) : f_X8_queue_L11 N G m s p n 0 0 μ = some (aQ s p n l 0, μ) := by
  unfold f_X8_queue_L11
  refine loop_list0 (τ := Int) l (fun i c => (m, s, p, n, c, (i : Int), μ)) (fun i c => 0 ≤ c ∧ c ≤ (i : Int)) (fun t c => some (aQ s p n t c, μ)) 0 hn hN ⟨by omega, by omega⟩ (fun i c hi hc => ?_) (fun c hc k => ?_)
  · by_cases c1 : aAt s p (lG l i) = true
    · by_cases c2 : c = n
      · refine Or.inl (fun k => ?_)
        show f_X8_queue_11 N G _ m s p n c (i : Int) μ = _
        unfold f_X8_queue_11
        rw [aQ_c, h.1, if_pos (by omega), kb2_p (z_isAt8 h hn hi), b01_ite, if_pos c1, if_pos c1, if_pos c2, if_pos c2, kb2_p (z8_0 h hn hi)]
      · refine Or.inr ⟨c + 1, ⟨by omega, by omega⟩, by rw [aQ_c, if_pos c1, if_neg c2], fun k => ?_⟩
        show f_X8_queue_11 N G _ m s p n c (i : Int) μ = _
        unfold f_X8_queue_11 f_X8_queue_53
        rw [h.1, if_pos (by omega), kb2_p (z_isAt8 h hn hi), b01_ite, if_pos c1, if_neg c2, ckI_p ⟨by omega, by omega⟩, ckI_p ⟨by omega, by omega⟩, cast1]
    · refine Or.inr ⟨c, ⟨by omega, by omega⟩, by rw [aQ_c, if_neg c1], fun k => ?_⟩
      show f_X8_queue_11 N G _ m s p n c (i : Int) μ = _
      unfold f_X8_queue_11 f_X8_queue_53
      rw [h.1, if_pos (by omega), kb2_p (z_isAt8 h hn hi), b01_ite, if_neg c1, ckI_p ⟨by omega, by omega⟩, cast1]
  · show f_X8_queue_11 N G _ m s p n c (l.length : Int) μ = _
    unfold f_X8_queue_11
    rw [h.1, if_neg (by omega)]
    rfl
theorem z_numberAt0 {N : Nat} {G : qG} {b : Nat} {A : Nat → Nat} {s p n : Int} {μ : qM} {l : List (Nat → Int)} (h : cB G b A μ l) (hn : l.length ≤ 60) (hN : 100 < N) : f_X0_numberAt N G b s p n μ = some (aQ s p n l 0, μ) := by
  unfold f_X0_numberAt f_X0_numberAt_L6
  refine loop_list0 (τ := Int) l (fun i c => (b, s, p, n, c, (i : Int), μ)) (fun i c => 0 ≤ c ∧ c ≤ (i : Int)) (fun t c => some (aQ s p n t c, μ)) 0 hn hN ⟨by omega, by omega⟩ (fun i c hi hc => ?_) (fun c hc k => ?_)
  · by_cases c1 : aAt s p (lG l i) = true
    · by_cases c2 : c = n
      · refine Or.inl (fun k => ?_)
        show f_X0_numberAt_6 N G _ b s p n c (i : Int) μ = _
        have f0 : gI μ 400 (A i) = lG l i 0 := z_f0 h hi 0 (by decide)
        unfold f_X0_numberAt_6
        rw [aQ_c, h.1, if_pos (by omega), kb2_p (z_isAt0 h hn hi), b01_ite, if_pos c1, if_pos c1, if_pos c2, if_pos c2, z_row0 h (by omega), f0]
      · refine Or.inr ⟨c + 1, ⟨by omega, by omega⟩, by rw [aQ_c, if_pos c1, if_neg c2], fun k => ?_⟩
        show f_X0_numberAt_6 N G _ b s p n c (i : Int) μ = _
        unfold f_X0_numberAt_6 f_X0_numberAt_46
        rw [h.1, if_pos (by omega), kb2_p (z_isAt0 h hn hi), b01_ite, if_pos c1, if_neg c2, ckI_p ⟨by omega, by omega⟩, ckI_p ⟨by omega, by omega⟩, cast1]
    · refine Or.inr ⟨c, ⟨by omega, by omega⟩, by rw [aQ_c, if_neg c1], fun k => ?_⟩
      show f_X0_numberAt_6 N G _ b s p n c (i : Int) μ = _
      unfold f_X0_numberAt_6 f_X0_numberAt_46
      rw [h.1, if_pos (by omega), kb2_p (z_isAt0 h hn hi), b01_ite, if_neg c1, ckI_p ⟨by omega, by omega⟩, cast1]
  · show f_X0_numberAt_6 N G _ b s p n c (l.length : Int) μ = _
    unfold f_X0_numberAt_6
    rw [h.1, if_neg (by omega)]
    rfl
