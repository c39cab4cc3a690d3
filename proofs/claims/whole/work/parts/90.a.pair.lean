/-! PURE: the law's calls, both sides: they answer alike, and hold the same market after -/
def pR (G7 : qG) (ρ : Nat → Nat × Nat) (x : Nat) (G8 : qG) (m c : Nat) (μ7 μ8 : qM) : Prop :=
  ∃ (S : MK) (n : Nat) (B : Nat → Int), cR G7 ρ x μ7 S.1 S.2.1 S.2.2.1 S.2.2.2 n B ∧ mR G8 m μ8 S.1 S.2.1 S.2.2.1 S.2.2.2 n B ∧ kOk S ∧ S.2.1 4 ≤ 130 * (c : Int)
/-- a call: the same answer -/
def pC (G7 : qG) (ρ : Nat → Nat × Nat) (x : Nat) (G8 : qG) (m c : Nat) (a b : Option (Int × qM)) : Prop :=
  ∃ r ν7 ν8, a = some (r, ν7) ∧ b = some (r, ν8) ∧ pR G7 ρ x G8 m (c + 1) ν7 ν8
section PAIR
variable {N : Nat} {G7 G8 : qG} {ρ : Nat → Nat × Nat} {x m c : Nat} {μ7 μ8 : qM}
theorem p_feed (hy : cLY G7 ρ x) (hL : mL G8 m) (h : pR G7 ρ x G8 m c μ7 μ8) (hN : 100000 < N) (a b d e f : Int) : pC G7 ρ x G8 m c (f_X7_feed N G7 x a b d e f μ7) (f_X8_feed N G8 m a b d e f μ8) := by
  obtain ⟨S, n, B, h1, h2, hk, h4⟩ := h
  obtain ⟨ν7, a1, a2⟩ := z_feed7 (N := N) hy hk.1.lo.1 h1 (by omega) a b d e f
  obtain ⟨ν8, b1, b2⟩ := z_feed8 (N := N) hL h2 (by omega) a b d e f
  exact ⟨_, ν7, ν8, a1, b1, S, _, _, a2, b2, hk, by omega⟩
theorem p_message (hy : cLY G7 ρ x) (hL : mL G8 m) (h : pR G7 ρ x G8 m c μ7 μ8) (h210 : in32 (gI μ7 210 (gR G7 700 x))) (hc : c ≤ 1000000) (hN : 100000 < N) (a : Int) : pC G7 ρ x G8 m c (f_X7_message N G7 x a μ7) (f_X8_message N G8 m a μ8) := by
  obtain ⟨S, n, B, h1, h2, hk, h4⟩ := h
  have hB : ∀ j, j < n → 0 ≤ B j ∧ B j < 256 := fun j hj => (h1.2.2.2.2 j hj).2
  obtain ⟨ν7, r7, a1, a2, a3⟩ := z_message7 (N := N) hy h1 hk (by omega) h210 (by omega) a
  obtain ⟨ν8, r8, b1, b2, b3⟩ := z_message8 (N := N) hL h2 hB hk (by omega) (by omega) a
  by_cases q : 0 ≤ a ∧ a ≤ (n : Int)
  · obtain ⟨j, s7, e7⟩ := a3 q
    obtain ⟨j', s8, e8⟩ := b3 q
    have ej := mStop_uq s8 s7
    subst ej
    rcases e7 with ⟨z7, rfl, c7⟩ | ⟨z7, rfl, c7, k7, t7⟩
    · rcases e8 with ⟨z8, rfl, c8⟩ | ⟨z8, -, -⟩
      · exact ⟨_, ν7, ν8, a1, b1, S, _, _, c7, c8, hk, by omega⟩
      · exact absurd z8 z7
    · rcases e8 with ⟨z8, -, -⟩ | ⟨z8, rfl, c8⟩
      · exact absurd z7 z8
      · exact ⟨_, ν7, ν8, a1, b1, _, _, _, c7, c8, k7, by omega⟩
  · obtain ⟨rfl, c7⟩ := a2 q
    obtain ⟨rfl, c8⟩ := b2 q
    exact ⟨_, ν7, ν8, a1, b1, S, _, _, c7, c8, hk, by omega⟩
theorem p_order (hy : cLY G7 ρ x) (hL : mL G8 m) (h : pR G7 ρ x G8 m c μ7 μ8) (h210 : in32 (gI μ7 210 (gR G7 700 x))) (hc : c ≤ 1000000) (hN : 100000 < N) (a b d e f : Int) : pC G7 ρ x G8 m c (f_X7_order N G7 x a b d e f μ7) (f_X8_order N G8 m a b d e f μ8) := by
  obtain ⟨S, n, B, h1, h2, hk, h4⟩ := h
  obtain ⟨ν7, a1, a2⟩ := z_order7 (N := N) (t0 := a) (s := b) (pr := d) (z0 := e) (mode := f) hy h1 hk.1 hk.2.1 hk.2.2 h210 (by omega) (by omega)
  obtain ⟨ν8, b1, b2⟩ := z_order8 (N := N) (t0 := a) (s := b) (pr := d) (z0 := e) (mode := f) hL h2 hk.1 hk.2.1 hk.2.2 (by omega) (by omega)
  obtain ⟨o1, o2, o3, o4⟩ := ordAll_ok (tr := S.2.2.2) (t0 := a) (s := b) (pr := d) (z0 := e) (mode := f) hk.1 hk.2.1 hk.2.2 (by omega)
  exact ⟨_, ν7, ν8, a1, b1, (_, _, _, _), _, _, a2, b2, ⟨o1, o2, o3⟩, by show (ordAll _ _ _ _ _ _ _ _ _).2.1 4 ≤ _; omega⟩
/-- what a line does, without its bounds -/
theorem doA_okm {v a0 a1 a2 md : Int} {S : MK} {n : Nat} {B : Nat → Int} (h2 : mR G8 m μ8 S.1 S.2.1 S.2.2.1 S.2.2.2 n B) (hk : kOk S) (h4 : S.2.1 4 ≤ 1999999999) (hv : ¬ (v = 0 ∨ v = 1)) : kOk (doA v a0 a1 a2 md S).1 ∧ (doA v a0 a1 a2 md S).1.2.1 4 ≤ S.2.1 4 + 1 := by
  refine doA_ok hk h4 (fun q => absurd q hv) (fun _ => ?_)
  obtain ⟨_, p, w, u, -, -, -, -, -, q⟩ := z_clearing8 (N := 1000) h2 hk.1.lo hk.1.t3 (by decide)
  exact ⟨p, w, u, q⟩
theorem p_off (hy : cLY G7 ρ x) (hL : mL G8 m) (h : pR G7 ρ x G8 m c μ7 μ8) (hc : c ≤ 1000000) (hN : 100000 < N) (a : Int) : pC G7 ρ x G8 m c (f_X7_off N G7 x a μ7) (f_X8_off N G8 m a μ8) := by
  obtain ⟨S, n, B, h1, h2, hk, h4⟩ := h
  obtain ⟨a1, a2⟩ := z_off7 (N := N) hy h1 hk.1.lo hk.1.pos (by omega) a
  obtain ⟨b1, b2⟩ := z_off8 (N := N) hL h2 hk.1.lo (by omega) a
  have np := doA_okm (v := 2) (a0 := a) (a1 := 0) (a2 := 0) (md := 0) h2 hk (by omega) (by decide)
  have e : doA 2 a 0 0 0 S = (match aPlace a S.1 with | some i => ((S.1.eraseIdx i, aGo S.2.1 (lG S.1 i), S.2.2.1, S.2.2.2), 1) | none => (S, 0)) := by unfold doA; rw [if_neg (by decide), if_pos rfl]; cases aPlace a S.1 <;> rfl
  rw [e] at np
  revert np
  cases hp : aPlace a S.1 with
  | none =>
    intro np
    obtain ⟨ν8, b3, b4⟩ := b1 hp
    exact ⟨_, μ7, ν8, a1 hp, b3, S, _, _, h1, b4, hk, by omega⟩
  | some i =>
    intro np
    obtain ⟨ν7, a3, a4⟩ := a2 i hp
    obtain ⟨ν8, b3, b4⟩ := b2 i hp
    exact ⟨_, ν7, ν8, a3, b3, (_, _, _, _), _, _, a4, b4, np.1, by have := np.2; show aGo S.2.1 (lG S.1 i) 4 ≤ _; have q : aGo S.2.1 (lG S.1 i) 4 ≤ S.2.1 4 + 1 := this; omega⟩
theorem p_cut (hy : cLY G7 ρ x) (hL : mL G8 m) (h : pR G7 ρ x G8 m c μ7 μ8) (hc : c ≤ 1000000) (hN : 100000 < N) (a z : Int) : pC G7 ρ x G8 m c (f_X7_cut N G7 x a z μ7) (f_X8_cut N G8 m a z μ8) := by
  obtain ⟨S, n, B, h1, h2, hk, h4⟩ := h
  obtain ⟨a1, a2⟩ := z_cut7 (N := N) hy h1 hk.1.lo (by omega) a z
  obtain ⟨b1, b2⟩ := z_cut8 (N := N) hL h2 hk.1.lo (by omega) a z
  have np := doA_okm (v := 3) (a0 := a) (a1 := z) (a2 := 0) (md := 0) h2 hk (by omega) (by decide)
  have no : (aPlace a S.1 = none ∨ ∃ i, aPlace a S.1 = some i ∧ ¬ (1 ≤ z ∧ z < lG S.1 i 4)) → pC G7 ρ x G8 m c (f_X7_cut N G7 x a z μ7) (f_X8_cut N G8 m a z μ8) := by
    intro q
    obtain ⟨ν8, b3, b4⟩ := b1 q
    exact ⟨_, μ7, ν8, a1 q, b3, S, _, _, h1, b4, hk, by omega⟩
  cases hp : aPlace a S.1 with
  | none => exact no (Or.inl hp)
  | some i =>
    by_cases cz : 1 ≤ z ∧ z < lG S.1 i 4
    · obtain ⟨ν7, a3, a4⟩ := a2 i hp cz
      obtain ⟨ν8, b3, b4⟩ := b2 i hp cz
      have e : doA 3 a z 0 0 S = ((S.1.set i (upd1 (lG S.1 i) 4 z), aGo S.2.1 (lG S.1 i), S.2.2.1, S.2.2.2), 1) := by
        unfold doA
        rw [if_neg (by decide), if_neg (by decide), if_pos rfl, hp]
        show (if 1 ≤ z ∧ z < lG S.1 i 4 then _ else _) = _
        rw [if_pos cz]
      rw [e] at np
      exact ⟨_, ν7, ν8, a3, b3, (_, _, _, _), _, _, a4, b4, np.1, by have := np.2; show aGo S.2.1 (lG S.1 i) 4 ≤ _; have q : aGo S.2.1 (lG S.1 i) 4 ≤ S.2.1 4 + 1 := this; omega⟩
    · exact no (Or.inr ⟨i, hp, cz⟩)
theorem p_grant (hy : cLY G7 ρ x) (hL : mL G8 m) (h : pR G7 ρ x G8 m c μ7 μ8) (hc : c ≤ 1000000) (a : Int) : pC G7 ρ x G8 m c (f_X7_grant N G7 x a μ7) (f_X8_grant N G8 m a μ8) := by
  obtain ⟨S, n, B, h1, h2, hk, h4⟩ := h
  obtain ⟨ν7, a1, a2⟩ := z_grant7 (N := N) hy h1 a
  obtain ⟨ν8, b1, b2⟩ := z_grant8 (N := N) hL h2 a
  have np := doA_okm (v := 4) (a0 := a) (a1 := 0) (a2 := 0) (md := 0) h2 hk (by omega) (by decide)
  have e : doA 4 a 0 0 0 S = (if aIn a 0 1000 = true then ((S.1, upd1 S.2.1 0 a, S.2.2.1, S.2.2.2), 1) else (S, 0)) := by unfold doA; rw [if_neg (by decide), if_neg (by decide), if_neg (by decide), if_pos rfl]
  rw [e] at np
  by_cases y : aIn a 0 1000 = true
  · rw [if_pos y] at a1 a2 b1 b2 np
    exact ⟨_, ν7, ν8, a1, b1, (_, _, _, _), _, _, a2, b2, np.1, by have := np.2; show upd1 S.2.1 0 a 4 ≤ _; have q : upd1 S.2.1 0 a 4 ≤ S.2.1 4 + 1 := this; omega⟩
  · rw [if_neg y] at a1 a2 b1 b2
    exact ⟨_, ν7, ν8, a1, b1, S, _, _, a2, b2, hk, by omega⟩
theorem p_least (hy : cLY G7 ρ x) (hL : mL G8 m) (h : pR G7 ρ x G8 m c μ7 μ8) (hc : c ≤ 1000000) (a : Int) : pC G7 ρ x G8 m c (f_X7_least N G7 x a μ7) (f_X8_least N G8 m a μ8) := by
  obtain ⟨S, n, B, h1, h2, hk, h4⟩ := h
  obtain ⟨ν7, a1, a2⟩ := z_least7 (N := N) hy h1 a
  obtain ⟨ν8, b1, b2⟩ := z_least8 (N := N) hL h2 a
  have np := doA_okm (v := 5) (a0 := a) (a1 := 0) (a2 := 0) (md := 0) h2 hk (by omega) (by decide)
  have e : doA 5 a 0 0 0 S = (if aIn a 1 50 = true then ((S.1, upd1 S.2.1 1 a, S.2.2.1, S.2.2.2), 1) else (S, 0)) := by unfold doA; rw [if_neg (by decide), if_neg (by decide), if_neg (by decide), if_neg (by decide), if_pos rfl]
  rw [e] at np
  by_cases y : aIn a 1 50 = true
  · rw [if_pos y] at a1 a2 b1 b2 np
    exact ⟨_, ν7, ν8, a1, b1, (_, _, _, _), _, _, a2, b2, np.1, by have := np.2; show upd1 S.2.1 1 a 4 ≤ _; have q : upd1 S.2.1 1 a 4 ≤ S.2.1 4 + 1 := this; omega⟩
  · rw [if_neg y] at a1 a2 b1 b2
    exact ⟨_, ν7, ν8, a1, b1, S, _, _, a2, b2, hk, by omega⟩
theorem p_call (hy : cLY G7 ρ x) (hL : mL G8 m) (h : pR G7 ρ x G8 m c μ7 μ8) (hc : c ≤ 1000000) (hN : 100000 < N) : pC G7 ρ x G8 m c (f_X7_call N G7 x μ7) (f_X8_call N G8 m μ8) := by
  obtain ⟨S, n, B, h1, h2, hk, h4⟩ := h
  obtain ⟨ν7, a1, a2⟩ := z_call7 (N := N) hy h1 hk.1.t2 (by omega)
  obtain ⟨ν8, b1, b2⟩ := z_call8 (N := N) hL h2
  have np := doA_okm (v := 6) (a0 := 0) (a1 := 0) (a2 := 0) (md := 0) h2 hk (by omega) (by decide)
  have e : doA 6 0 0 0 0 S = (if S.2.1 2 = 1 then (S, 0) else ((S.1, aLap (aLap (upd1 S.2.1 2 1) 0) 1, S.2.2.1, S.2.2.2), 1)) := by unfold doA; rw [if_neg (by decide), if_neg (by decide), if_neg (by decide), if_neg (by decide), if_neg (by decide), if_pos rfl]
  rw [e] at np
  by_cases y : S.2.1 2 = 1
  · rw [if_pos y] at a1 a2 b1 b2
    exact ⟨_, ν7, ν8, a1, b1, S, _, _, a2, b2, hk, by omega⟩
  · rw [if_neg y] at a1 a2 b1 b2 np
    exact ⟨_, ν7, ν8, a1, b1, (_, _, _, _), _, _, a2, b2, np.1, by have := np.2; show aLap (aLap (upd1 S.2.1 2 1) 0) 1 4 ≤ _; have q : aLap (aLap (upd1 S.2.1 2 1) 0) 1 4 ≤ S.2.1 4 + 1 := this; omega⟩
theorem p_open (hy : cLY G7 ρ x) (hL : mL G8 m) (h : pR G7 ρ x G8 m c μ7 μ8) (hN : 100000 < N) : pC G7 ρ x G8 m c (f_X7_open N G7 x μ7) (f_X8_open N G8 m μ8) := by
  obtain ⟨S, n, B, h1, h2, hk, h4⟩ := h
  obtain ⟨ν7, a1, a2, a3⟩ := z_opn7 (N := N) hy h1 hk.1 hk.2.1 hk.2.2 (by omega)
  have h2' := h2.fld (f := 804) (a := m) (v := 0) (by decide)
  obtain ⟨ν8, b1, -, b2⟩ := z_opn8 (N := N) hL h2' hk.1 hk.2.1 hk.2.2 (by omega)
  obtain ⟨o1, o2, o3, o4⟩ := opAll_ok (tr := S.2.2.2) hk.1 hk.2.1 hk.2.2 a3
  refine ⟨_, ν7, ν8, a1, ?_, (_, _, _, _), _, _, a2, b2, ⟨o1, o2, o3⟩, by show (opAll _ _ _ _).2.1 4 ≤ _; omega⟩
  unfold f_X8_open
  rw [kp_p, kb2_p b1]
theorem p_level (h : pR G7 ρ x G8 m c μ7 μ8) (hN : 100000 < N) (s k w : Int) : pC G7 ρ x G8 m c (f_X7_level N G7 x s k w μ7) (f_X8_level N G8 m s k w μ8) := by
  obtain ⟨S, n, B, h1, h2, hk, h4⟩ := h
  obtain ⟨A, V, nx, hf⟩ := id h1.1
  obtain ⟨r7, a1, a2, a3⟩ := z_level7 (N := N) hf.1 hk.1.lo (by omega) s k w
  obtain ⟨ν8, r8, b1, b2, b3, b4⟩ := z_level8 (N := N) h2 hk.1.lo (by omega) s k w
  have e : r7 = r8 := by
    by_cases q : aIn s 0 1 = true ∧ aIn w 0 2 = true ∧ -1 ≤ k
    · have qs : 0 ≤ s ∧ s ≤ 1 := of_decide_eq_true q.1
      obtain ⟨e, x1, x2, x3⟩ := aPr_ex (s := s) hk.1.lo (by omega)
      rw [a2 q e x1 x2 x3, b3 q e x1 x2 x3]
    · rw [a3 q, b4 q]
  subst e
  exact ⟨_, μ7, ν8, a1, b1, S, _, _, h1, b2, hk, by omega⟩
theorem p_queue (h : pR G7 ρ x G8 m c μ7 μ8) (hN : 100000 < N) (s p k : Int) : pC G7 ρ x G8 m c (f_X7_queue N G7 x s p k μ7) (f_X8_queue N G8 m s p k μ8) := by
  obtain ⟨S, n, B, h1, h2, hk, h4⟩ := h
  have a1 := z_queue7 (N := N) h1 hk.1.lo (by omega) s p k
  obtain ⟨ν8, b1, b2⟩ := z_queue8 (N := N) h2 hk.1.lo.1 (by omega) s p k
  exact ⟨_, μ7, ν8, a1, b1, S, _, _, h1, b2, hk, by omega⟩
theorem p_top (h : pR G7 ρ x G8 m c μ7 μ8) (s : Int) : pC G7 ρ x G8 m c (f_X7_top N G7 x s μ7) (f_X8_top N G8 m s μ8) := by
  obtain ⟨S, n, B, h1, h2, hk, h4⟩ := h
  have a1 := z_top7 (N := N) h1 (fun s hs => by rcases hk.1.top s hs with q | q; exact Or.inl q.1; exact Or.inr q.1) s
  obtain ⟨ν8, b1, b2⟩ := z_top8 (N := N) h2 s
  exact ⟨_, μ7, ν8, a1, b1, S, _, _, h1, b2, hk, by omega⟩
theorem p_ahead (h : pR G7 ρ x G8 m c μ7 μ8) (hN : 100000 < N) (k w : Int) : pC G7 ρ x G8 m c (f_X7_ahead N G7 x k w μ7) (f_X8_ahead N G8 m k w μ8) := by
  obtain ⟨S, n, B, h1, h2, hk, h4⟩ := h
  have a1 := z_ahead7 (N := N) h1 hk.1.lo (by omega) k w
  obtain ⟨ν8, b1, b2⟩ := z_ahead8 (N := N) h2 hk.1.lo (by omega) k w
  exact ⟨_, μ7, ν8, a1, b1, S, _, _, h1, b2, hk, by omega⟩
theorem p_share (hy : cLY G7 ρ x) (hL : mL G8 m) (h : pR G7 ρ x G8 m c μ7 μ8) (hN : 100000 < N) (k K w : Int) : pC G7 ρ x G8 m c (f_X7_share N G7 x k K w μ7) (f_X8_share N G8 m k K w μ8) := by
  obtain ⟨S, n, B, h1, h2, hk, h4⟩ := h
  obtain ⟨ν7, a1, a2⟩ := z_share7 (N := N) hy h1 hk.1 (by omega) k K w
  obtain ⟨ν8, b1, b2⟩ := z_share8 (N := N) hL h2 hk.1 (by omega) k K w
  exact ⟨_, ν7, ν8, a1, b1, S, _, _, a2, b2, hk, by omega⟩
theorem p_takeFor (hy : cLY G7 ρ x) (hL : mL G8 m) (h : pR G7 ρ x G8 m c μ7 μ8) (hN : 100000 < N) (k w : Int) : pC G7 ρ x G8 m c (f_X7_takeFor N G7 x k w μ7) (f_X8_takeFor N G8 m k w μ8) := by
  obtain ⟨S, n, B, h1, h2, hk, h4⟩ := h
  obtain ⟨r7, ν7, a1, a2, a3⟩ := z_takeFor7 (N := N) hy h1 hk.1 hN k w
  obtain ⟨r8, ν8, b1, b2, b3⟩ := z_takeFor8 (N := N) hL h2 hk.1 hN k w
  have e := a3.uq b3
  subst e
  exact ⟨_, ν7, ν8, a1, b1, S, _, _, a2, b2, hk, by omega⟩
theorem p_splits (hy : cLY G7 ρ x) (hL : mL G8 m) (h : pR G7 ρ x G8 m c μ7 μ8) (hN : 100000 < N) (k q K : Int) : pC G7 ρ x G8 m c (f_X7_splits N G7 x k q K μ7) (f_X8_splits N G8 m k q K μ8) := by
  obtain ⟨S, n, B, h1, h2, hk, h4⟩ := h
  obtain ⟨ν7, a1, a2⟩ := z_splits7 (N := N) hy h1 hk.1 (by omega) k q K
  obtain ⟨ν8, b1, b2⟩ := z_splits8 (N := N) hL h2 hk.1 (by omega) k q K
  exact ⟨_, ν7, ν8, a1, b1, S, _, _, a2, b2, hk, by omega⟩
theorem p_would (hy : cLY G7 ρ x) (hL : mL G8 m) (h : pR G7 ρ x G8 m c μ7 μ8) (hc : c ≤ 1000000) (hN : 100000 < N) (a b d e f w : Int) : pC G7 ρ x G8 m c (f_X7_would N G7 x a b d e f w μ7) (f_X8_would N G8 m a b d e f w μ8) := by
  obtain ⟨S, n, B, h1, h2, hk, h4⟩ := h
  obtain ⟨ν7, a1, a2⟩ := z_would7 (N := N) (t0 := a) (s := b) (pr := d) (z0 := e) (mode := f) hy h1 hk.1 (by omega) (by omega) w
  obtain ⟨ν8, b1, b2⟩ := z_would8 (N := N) (t0 := a) (s := b) (pr := d) (z0 := e) (mode := f) hL h2 hk.1 hk.2.1 hk.2.2 (by omega) (by omega) w
  exact ⟨_, ν7, ν8, a1, b1, S, _, _, a2, b2, hk, by omega⟩
theorem p_worth (hy : cLY G7 ρ x) (hL : mL G8 m) (h : pR G7 ρ x G8 m c μ7 μ8) (hc : c ≤ 1000000) (hN : 100000 < N) (a b d e f : Int) : pC G7 ρ x G8 m c (f_X7_worth N G7 x a b d e f μ7) (f_X8_worth N G8 m a b d e f μ8) := by
  obtain ⟨S, n, B, h1, h2, hk, h4⟩ := h
  obtain ⟨ν7, a1, a2⟩ := z_worth7 (N := N) (t0 := a) (s := b) (pr := d) (z0 := e) (mode := f) hy h1 hk.1 (by omega) (by omega)
  obtain ⟨ν8, b1, b2⟩ := z_worth8 (N := N) (t0 := a) (s := b) (pr := d) (z0 := e) (mode := f) hL h2 hk.1 hk.2.1 hk.2.2 (by omega) (by omega)
  exact ⟨_, ν7, ν8, a1, b1, S, _, _, a2, b2, hk, by omega⟩
theorem p_clears (hy : cLY G7 ρ x) (h : pR G7 ρ x G8 m c μ7 μ8) (hN : 100000 < N) (w : Int) : pC G7 ρ x G8 m c (f_X7_clears N G7 x w μ7) (f_X8_clears N G8 m w μ8) := by
  obtain ⟨S, n, B, h1, h2, hk, h4⟩ := h
  obtain ⟨ν7, r7, a1, a2, a3, a4, a5⟩ := z_clears7 (N := N) hy h1 hk.1 (by omega) w
  obtain ⟨ν8, r8, b1, b2, b3, b4, b5⟩ := z_clears8 (N := N) h2 hk.1 (by omega) w
  have e : r7 = r8 := by
    by_cases q : aIn w 0 2 = true
    · by_cases d : S.2.1 2 = 0
      · rw [a4 q d, b4 q d]
      · obtain ⟨p, v, u, s7, e7⟩ := a5 q d
        obtain ⟨p', v', u', s8, e8⟩ := b5 q d
        obtain ⟨rfl, rfl, rfl⟩ := cSp_uq s7 s8
        rw [e7, e8]
    · have q' : aIn w 0 2 = false := Bool.eq_false_iff.mpr q
      rw [a3 q', b3 q']
  subst e
  exact ⟨_, ν7, ν8, a1, b1, S, _, _, a2, b2, hk, by omega⟩
theorem p_trade (h : pR G7 ρ x G8 m c μ7 μ8) (i w : Int) : pC G7 ρ x G8 m c (f_X7_trade N G7 x i w μ7) (f_X8_trade N G8 m i w μ8) := by
  obtain ⟨S, n, B, h1, h2, hk, h4⟩ := h
  have a1 := z_trade7 (N := N) h1 hk.1.t10 i w
  obtain ⟨ν8, b1, b2⟩ := z_trade8 (N := N) h2 hk.1.t10 i w
  exact ⟨_, μ7, ν8, a1, b1, S, _, _, h1, b2, hk, by omega⟩
theorem p_count (h : pR G7 ρ x G8 m c μ7 μ8) (w : Int) : pC G7 ρ x G8 m c (f_X7_count N G7 x w μ7) (f_X8_count N G8 m w μ8) := by
  obtain ⟨S, n, B, h1, h2, hk, h4⟩ := h
  have a1 := z_count7 (N := N) h1 hk.1.t2 w
  obtain ⟨ν8, b1, b2⟩ := z_count8 (N := N) h2 w
  exact ⟨_, μ7, ν8, a1, b1, S, _, _, h1, b2, hk, by omega⟩
end PAIR
