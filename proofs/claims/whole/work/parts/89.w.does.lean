/-! PURE: a line is done, reference -/
def dsF (g : Nat) : Prop := 804 ≤ g ∧ g ≤ 820
section DOES8
variable {N : Nat} {G : qG} {m n j : Nat} {μ ν : qM} {S : MK} {v a0 a1 a2 md : Int} {B : Nat → Int}
theorem z_does8 (hL : mL G m) (h : mR G m μ S.1 S.2.1 S.2.2.1 S.2.2.2 n B) (hk : kOk S) (h4 : S.2.1 4 ≤ 1999999999) (hv : 0 ≤ v ∧ v ≤ 7) (hr : mRow G m μ j v a0 a1 a2 md) (hj : j < 130) (hF' : v = 0 ∨ v = 1 → isForm a0 v a2 a1 md) (hN : 1000 < N) :
    ∃ ν, f_X8_does N G m (j : Int) μ = some ((doA v a0 a1 a2 md S).2, ν) ∧ dRf G m dsF kAr μ ν ∧ mR G m ν (doA v a0 a1 a2 md S).1.1 (doA v a0 a1 a2 md S).1.2.1 (doA v a0 a1 a2 md S).1.2.2.1 (doA v a0 a1 a2 md S).1.2.2.2 n B := by
  obtain ⟨ho, hw, hd⟩ := hk
  have hl := ho.lo
  obtain ⟨r0, r1, r2, r3⟩ := hr
  have i0 : in32 (5 * (j : Int)) := ⟨by omega, by omega⟩
  have i1 : in32 (5 * (j : Int) + 1) := ⟨by omega, by omega⟩
  have i2 : in32 (5 * (j : Int) + 2) := ⟨by omega, by omega⟩
  have i3 : in32 (5 * (j : Int) + 3) := ⟨by omega, by omega⟩
  have i4 : in32 (5 * (j : Int) + 4) := ⟨by omega, by omega⟩
  have e0 : (5 * (j : Int)).toNat = 5 * j := by omega
  have e1 : (5 * (j : Int) + 1).toNat = 5 * j + 1 := by omega
  have e2 : (5 * (j : Int) + 2).toNat = 5 * j + 2 := by omega
  have e3 : (5 * (j : Int) + 3).toNat = 5 * j + 3 := by omega
  have e4 : (5 * (j : Int) + 4).toNat = 5 * j + 4 := by omega
  have q0 : 0 ≤ 5 * (j : Int) ∧ 5 * (j : Int) < 650 := by omega
  have q1 : 0 ≤ 5 * (j : Int) + 1 ∧ 5 * (j : Int) + 1 < 650 := by omega
  have q2 : 0 ≤ 5 * (j : Int) + 2 ∧ 5 * (j : Int) + 2 < 650 := by omega
  have q3 : 0 ≤ 5 * (j : Int) + 3 ∧ 5 * (j : Int) + 3 < 650 := by omega
  have q4 : 0 ≤ 5 * (j : Int) + 4 ∧ 5 * (j : Int) + 4 < 650 := by omega
  have dx : ∀ {α β : qM}, dX G m α β → dRf G m dsF kAr α β := fun q => q.rfm (by unfold kAr; omega)
  unfold f_X8_does
  rw [ckI_p i0, ckI_p i1, rdA_p q1, e1, ckI_p i0, ckI_p i2, rdA_p q2, e2, ckI_p i0, rdA_p q0, e0, r0]
  by_cases c01 : v = 0 ∨ v = 1
  · obtain ⟨s3, s4⟩ := r3 c01
    have s1 := r1 (by omega)
    have s2 := r2 (by omega)
    obtain ⟨ν, k1, k2, k3⟩ := z_orders8 (N := N) hL ho hw hd (hF' c01) h h4 hN
    have e : doA v a0 a1 a2 md S = (((ordRes S.1 S.2.1 S.2.2.1 S.2.2.2 a0 v a2 a1 md).1, (ordRes S.1 S.2.1 S.2.2.1 S.2.2.2 a0 v a2 a1 md).2.1, (ordRes S.1 S.2.1 S.2.2.1 S.2.2.2 a0 v a2 a1 md).2.2.1, (ordRes S.1 S.2.1 S.2.2.1 S.2.2.2 a0 v a2 a1 md).2.2.2.1), if 0 < (ordRes S.1 S.2.1 S.2.2.1 S.2.2.2 a0 v a2 a1 md).2.2.2.2 then 1 else 0) := by unfold doA; rw [if_pos c01]
    rw [e]
    refine ⟨ν, ?_, k2.mono (fun g y => by unfold hF at y; unfold dsF; omega) (fun _ y => y), k3⟩
    have body : (kb2 (f_X8_orders N G m a0 v a2 a1 md μ) fun v3 m2 => if 0 < v3 then some ((1 : Int), m2) else some (0, m2)) = some (if 0 < (ordRes S.1 S.2.1 S.2.2.1 S.2.2.2 a0 v a2 a1 md).2.2.2.2 then 1 else 0, ν) := by
      rw [kb2_p k1]
      by_cases y : 0 < (ordRes S.1 S.2.1 S.2.2.1 S.2.2.2 a0 v a2 a1 md).2.2.2.2
      · rw [if_pos y, if_pos y]
      · rw [if_neg y, if_neg y]
    by_cases y : v = 0
    · rw [if_pos y, ckI_p i0, rdA_p q0, e0, r0, ckI_p i0, ckI_p i3, rdA_p q3, e3, s3, ckI_p i0, ckI_p i4, rdA_p q4, e4, s4, s1, s2]
      exact body
    · rw [if_neg y, if_pos (c01.resolve_left y), ckI_p i0, rdA_p q0, e0, r0, ckI_p i0, ckI_p i3, rdA_p q3, e3, s3, ckI_p i0, ckI_p i4, rdA_p q4, e4, s4, s1, s2]
      exact body
  · rw [if_neg (fun y => c01 (Or.inl y)), if_neg (fun y => c01 (Or.inr y))]
    by_cases c2 : v = 2
    · subst c2
      rw [if_pos rfl, r1 (by decide)]
      obtain ⟨f1, f2⟩ := z_takesOff8 (N := N) hL h hl hN a0
      have e : doA 2 a0 a1 a2 md S = (match aPlace a0 S.1 with | some i => ((S.1.eraseIdx i, aGo S.2.1 (lG S.1 i), S.2.2.1, S.2.2.2), 1) | none => (S, 0)) := by unfold doA; rw [if_neg (by decide), if_pos rfl]; cases aPlace a0 S.1 <;> rfl
      rw [e]
      cases hp : aPlace a0 S.1 with
      | none =>
        rw [kb2_p (f1 hp), if_neg (by decide)]
        exact ⟨μ, rfl, dRf.rf, h⟩
      | some i =>
        obtain ⟨-, hi, -, -⟩ := aPl_some hp
        rw [Nat.zero_add] at hi
        have := ho.pos i hi
        obtain ⟨ν, k1, k2, k3⟩ := f2 i hp
        rw [kb2_p k1, if_pos this]
        exact ⟨ν, rfl, dx k2, k3⟩
    · rw [if_neg c2]
      by_cases c3 : v = 3
      · subst c3
        rw [if_pos rfl, r1 (by decide), r2 (by decide)]
        obtain ⟨f1, f2⟩ := z_cuts8 (N := N) hL h hl hN a0 a1
        have e : doA 3 a0 a1 a2 md S = (match aPlace a0 S.1 with | some i => (if 1 ≤ a1 ∧ a1 < lG S.1 i 4 then ((S.1.set i (upd1 (lG S.1 i) 4 a1), aGo S.2.1 (lG S.1 i), S.2.2.1, S.2.2.2), 1) else (S, 0)) | none => (S, 0)) := by unfold doA; rw [if_neg (by decide), if_neg (by decide), if_pos rfl]; cases aPlace a0 S.1 <;> rfl
        rw [e]
        cases hp : aPlace a0 S.1 with
        | none =>
          rw [kb2_p (f1 (Or.inl hp)), if_neg (by decide)]
          exact ⟨μ, rfl, dRf.rf, h⟩
        | some i =>
          obtain ⟨-, hi, -, -⟩ := aPl_some hp
          rw [Nat.zero_add] at hi
          have := ho.pos i hi
          by_cases cz : 1 ≤ a1 ∧ a1 < lG S.1 i 4
          · obtain ⟨ν, k1, k2, k3⟩ := f2 i hp cz
            rw [kb2_p k1, if_pos this]
            refine ⟨ν, ?_, dx k2, ?_⟩
            · show some ((1 : Int), ν) = some ((if 1 ≤ a1 ∧ a1 < lG S.1 i 4 then ((S.1.set i (upd1 (lG S.1 i) 4 a1), aGo S.2.1 (lG S.1 i), S.2.2.1, S.2.2.2), (1 : Int)) else (S, 0)).2, ν)
              rw [if_pos cz]
            · show mR G m ν (if 1 ≤ a1 ∧ a1 < lG S.1 i 4 then ((S.1.set i (upd1 (lG S.1 i) 4 a1), aGo S.2.1 (lG S.1 i), S.2.2.1, S.2.2.2), (1 : Int)) else (S, 0)).1.1 (if 1 ≤ a1 ∧ a1 < lG S.1 i 4 then ((S.1.set i (upd1 (lG S.1 i) 4 a1), aGo S.2.1 (lG S.1 i), S.2.2.1, S.2.2.2), (1 : Int)) else (S, 0)).1.2.1 (if 1 ≤ a1 ∧ a1 < lG S.1 i 4 then ((S.1.set i (upd1 (lG S.1 i) 4 a1), aGo S.2.1 (lG S.1 i), S.2.2.1, S.2.2.2), (1 : Int)) else (S, 0)).1.2.2.1 (if 1 ≤ a1 ∧ a1 < lG S.1 i 4 then ((S.1.set i (upd1 (lG S.1 i) 4 a1), aGo S.2.1 (lG S.1 i), S.2.2.1, S.2.2.2), (1 : Int)) else (S, 0)).1.2.2.2 n B
              rw [if_pos cz]
              exact k3
          · rw [kb2_p (f1 (Or.inr ⟨i, hp, cz⟩)), if_neg (by decide)]
            refine ⟨μ, ?_, dRf.rf, ?_⟩
            · show some ((0 : Int), μ) = some ((if 1 ≤ a1 ∧ a1 < lG S.1 i 4 then ((S.1.set i (upd1 (lG S.1 i) 4 a1), aGo S.2.1 (lG S.1 i), S.2.2.1, S.2.2.2), (1 : Int)) else (S, 0)).2, μ)
              rw [if_neg cz]
            · show mR G m μ (if 1 ≤ a1 ∧ a1 < lG S.1 i 4 then ((S.1.set i (upd1 (lG S.1 i) 4 a1), aGo S.2.1 (lG S.1 i), S.2.2.1, S.2.2.2), (1 : Int)) else (S, 0)).1.1 (if 1 ≤ a1 ∧ a1 < lG S.1 i 4 then ((S.1.set i (upd1 (lG S.1 i) 4 a1), aGo S.2.1 (lG S.1 i), S.2.2.1, S.2.2.2), (1 : Int)) else (S, 0)).1.2.1 (if 1 ≤ a1 ∧ a1 < lG S.1 i 4 then ((S.1.set i (upd1 (lG S.1 i) 4 a1), aGo S.2.1 (lG S.1 i), S.2.2.1, S.2.2.2), (1 : Int)) else (S, 0)).1.2.2.1 (if 1 ≤ a1 ∧ a1 < lG S.1 i 4 then ((S.1.set i (upd1 (lG S.1 i) 4 a1), aGo S.2.1 (lG S.1 i), S.2.2.1, S.2.2.2), (1 : Int)) else (S, 0)).1.2.2.2 n B
              rw [if_neg cz]
              exact h
      · rw [if_neg c3]
        by_cases c4 : v = 4
        · subst c4
          have e : doA 4 a0 a1 a2 md S = (if aIn a0 0 1000 = true then ((S.1, upd1 S.2.1 0 a0, S.2.2.1, S.2.2.2), 1) else (S, 0)) := by unfold doA; rw [if_neg (by decide), if_neg (by decide), if_neg (by decide), if_pos rfl]
          rw [if_pos rfl, r1 (by decide), e, z_sets8 (N := N) (j := 0) (x1 := 0) (by decide) rfl, h.2.1 0 (by decide) (by decide)]
          have t0 := ho.t0
          by_cases c : aIn a0 0 1000 = true
          · rw [if_pos c, if_pos c, kb2_p rfl, if_neg (by omega)]
            exact ⟨_, rfl, dRf.sA (by unfold kAr; omega), h.T hL (by decide) (by decide) (by decide)⟩
          · rw [if_neg c, if_neg c, kb2_p rfl, if_pos (by decide)]
            exact ⟨μ, rfl, dRf.rf, h⟩
        · rw [if_neg c4]
          by_cases c5 : v = 5
          · subst c5
            have e : doA 5 a0 a1 a2 md S = (if aIn a0 1 50 = true then ((S.1, upd1 S.2.1 1 a0, S.2.2.1, S.2.2.2), 1) else (S, 0)) := by unfold doA; rw [if_neg (by decide), if_neg (by decide), if_neg (by decide), if_neg (by decide), if_pos rfl]
            rw [if_pos rfl, r1 (by decide), e, z_sets8 (N := N) (j := 1) (x1 := 1) (by decide) rfl, h.2.1 1 (by decide) (by decide)]
            have t1 := ho.t1
            by_cases c : aIn a0 1 50 = true
            · rw [if_pos c, if_pos c, kb2_p rfl, if_neg (by omega)]
              exact ⟨_, rfl, dRf.sA (by unfold kAr; omega), h.T hL (by decide) (by decide) (by decide)⟩
            · rw [if_neg c, if_neg c, kb2_p rfl, if_pos (by decide)]
              exact ⟨μ, rfl, dRf.rf, h⟩
          · rw [if_neg c5]
            by_cases c6 : v = 6
            · subst c6
              obtain ⟨ν, k1, k2, k3⟩ := z_calls8 (N := N) hL h
              have e : doA 6 a0 a1 a2 md S = (if S.2.1 2 = 1 then (S, 0) else ((S.1, aLap (aLap (upd1 S.2.1 2 1) 0) 1, S.2.2.1, S.2.2.2), 1)) := by unfold doA; rw [if_neg (by decide), if_neg (by decide), if_neg (by decide), if_neg (by decide), if_neg (by decide), if_pos rfl]
              rw [if_pos rfl, e, kb2_p k1]
              by_cases c : S.2.1 2 = 1
              · rw [if_pos c] at k3 ⊢
                rw [if_pos c]
                exact ⟨ν, rfl, dx k2, k3⟩
              · rw [if_neg c] at k3 ⊢
                rw [if_neg c]
                exact ⟨ν, rfl, dx k2, k3⟩
            · have c7 : v = 7 := by omega
              subst c7
              have e : doA 7 a0 a1 a2 md S = (((opAll S.1 S.2.1 S.2.2.1 S.2.2.2).1, (opAll S.1 S.2.1 S.2.2.1 S.2.2.2).2.1, (opAll S.1 S.2.1 S.2.2.1 S.2.2.2).2.2.1, (opAll S.1 S.2.1 S.2.2.1 S.2.2.2).2.2.2.1), if (opAll S.1 S.2.1 S.2.2.1 S.2.2.2).2.2.2.2 = -1 then 0 else 1) := by unfold doA; rw [if_neg (by decide), if_neg (by decide), if_neg (by decide), if_neg (by decide), if_neg (by decide), if_neg (by decide)]
              obtain ⟨ν, r, k1, k2, k3, k4⟩ := z_opening8 (N := N) hL h ho hw hd hN
              rw [if_neg c6, kb2_p k1, e]
              have dd : dRf G m dsF kAr μ ν := k2.mono (fun g y => by unfold wF lF at y; unfold dsF; omega) (fun _ y => y)
              by_cases c : S.2.1 2 = 0
              · obtain ⟨er, em⟩ := k3 c
                have eO : opAll S.1 S.2.1 S.2.2.1 S.2.2.2 = (S.1, S.2.1, S.2.2.1, S.2.2.2, -1) := if_pos c
                rw [eO, er, if_pos (by decide)]
                exact ⟨ν, rfl, dd, em⟩
              · obtain ⟨p, w, u, ks, er, em⟩ := k4 c
                have eO : opAll S.1 S.2.1 S.2.2.1 S.2.2.2 = ((opRes S.1 S.2.1 S.2.2.1 S.2.2.2 p w).1, (opRes S.1 S.2.1 S.2.2.1 S.2.2.2 p w).2.1, (opRes S.1 S.2.1 S.2.2.1 S.2.2.2 p w).2.2.1, (opRes S.1 S.2.1 S.2.2.1 S.2.2.2 p w).2.2.2, w) := by unfold opAll; rw [if_neg c, cPV_eq ks]
                have wv := (opV ks hl).1
                have nw : ¬ w = -1 := by omega
                rw [eO, er, if_neg (by omega)]
                refine ⟨ν, ?_, dd, em⟩
                show some ((1 : Int), ν) = some (if w = -1 then 0 else 1, ν)
                rw [if_neg nw]
end DOES8
