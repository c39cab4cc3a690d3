/-! PURE: a line is done, both sides -/
section DOO
variable {N : Nat} {G : qG} {ρ : Nat → Nat × Nat} {x a m n j : Nat} {μ ν : qM} {S : MK} {v a0 a1 a2 md : Int} {B : Nat → Int}
theorem z_doLine7 (hy : cLay G ρ (gR G 700 x)) (h : cFl G ρ (gR G 700 x) μ S.1 S.2.1 S.2.2.1 S.2.2.2) (hk : kOk S) (h4 : S.2.1 4 ≤ 1999999999) (h210 : in32 (gI μ 210 (gR G 700 x))) (hv : 0 ≤ v ∧ v ≤ 7) (g0 : v < 6 → gA μ a 0 = a0) (g1 : v = 0 ∨ v = 1 ∨ v = 3 → gA μ a 1 = a1) (g2 : v = 0 ∨ v = 1 → gA μ a 2 = a2) (hmd : gI μ 610 (gR G 702 x) = md) (hF : v = 0 ∨ v = 1 → isForm a0 v a2 a1 md) (hN : 1000 < N) :
    ∃ ν, f_X7_doLine N G x v a μ = some ((doA v a0 a1 a2 md S).2, ν) ∧ dFm ρ (gR G 700 x) μ ν ∧ cFl G ρ (gR G 700 x) ν (doA v a0 a1 a2 md S).1.1 (doA v a0 a1 a2 md S).1.2.1 (doA v a0 a1 a2 md S).1.2.2.1 (doA v a0 a1 a2 md S).1.2.2.2 ∧ kOk (doA v a0 a1 a2 md S).1 ∧ (doA v a0 a1 a2 md S).1.2.1 4 ≤ S.2.1 4 + 1 := by
  obtain ⟨ho, hw, hd⟩ := hk
  have hl := ho.lo
  have ok := fun hs => doA_ok (v := v) (a0 := a0) (a1 := a1) (a2 := a2) (md := md) ⟨ho, hw, hd⟩ h4 hF hs
  have noP : v ≠ 7 → kOk (doA v a0 a1 a2 md S).1 ∧ (doA v a0 a1 a2 md S).1.2.1 4 ≤ S.2.1 4 + 1 := by
    intro q
    by_cases c : S.2.1 2 = 0
    · exact ok (fun y => absurd c y)
    · -- the outcome is there, whoever looks for it
      obtain ⟨A, V, nx, hf⟩ := h
      obtain ⟨_, p, w, u, -, -, -, -, -, k6⟩ := z_seek1 (N := N) (c := gR G 203 (gR G 700 x)) hf.1 hl ho.t3 (by omega)
      exact ok (fun _ => ⟨p, w, u, k6⟩)
  unfold f_X7_doLine
  by_cases c01 : v = 0 ∨ v = 1
  · obtain ⟨ν, k1, k2, k3⟩ := z_comeF (N := N) hy ho hw hd (hF c01) h h210 h4 hN
    have e : doA v a0 a1 a2 md S = (((ordRes S.1 S.2.1 S.2.2.1 S.2.2.2 a0 v a2 a1 md).1, (ordRes S.1 S.2.1 S.2.2.1 S.2.2.2 a0 v a2 a1 md).2.1, (ordRes S.1 S.2.1 S.2.2.1 S.2.2.2 a0 v a2 a1 md).2.2.1, (ordRes S.1 S.2.1 S.2.2.1 S.2.2.2 a0 v a2 a1 md).2.2.2.1), if 0 < (ordRes S.1 S.2.1 S.2.2.1 S.2.2.2 a0 v a2 a1 md).2.2.2.2 then 1 else 0) := by unfold doA; rw [if_pos c01]
    have np := noP (by omega)
    rw [e] at np ⊢
    refine ⟨ν, ?_, k2, k3, np⟩
    have body : (kb2 (f_X2_comeIn N G (gR G 700 x) a0 v a2 a1 md μ) fun v3 m2 => if 0 < v3 then some ((1 : Int), m2) else some (0, m2)) = some (if 0 < (ordRes S.1 S.2.1 S.2.2.1 S.2.2.2 a0 v a2 a1 md).2.2.2.2 then 1 else 0, ν) := by
      rw [kb2_p k1]
      by_cases y : 0 < (ordRes S.1 S.2.1 S.2.2.1 S.2.2.2 a0 v a2 a1 md).2.2.2.2
      · rw [if_pos y, if_pos y]
      · rw [if_neg y, if_neg y]
    by_cases y : v = 0
    · subst y
      rw [if_pos rfl, g0 (by decide), g1 (by decide), g2 (by decide), hmd]
      exact body
    · have y1 : v = 1 := c01.resolve_left y
      subst y1
      rw [if_neg (by decide), if_pos rfl, g0 (by decide), g1 (by decide), g2 (by decide), hmd]
      exact body
  · rw [if_neg (fun y => c01 (Or.inl y)), if_neg (fun y => c01 (Or.inr y))]
    by_cases c2 : v = 2
    · subst c2
      rw [if_pos rfl, g0 (by decide)]
      obtain ⟨f1, f2⟩ := z_offF (N := N) hy h hl ho.pos (by omega) a0
      have np := noP (by decide)
      revert np
      have e : doA 2 a0 a1 a2 md S = (match aPlace a0 S.1 with | some i => ((S.1.eraseIdx i, aGo S.2.1 (lG S.1 i), S.2.2.1, S.2.2.2), 1) | none => (S, 0)) := by unfold doA; rw [if_neg (by decide), if_pos rfl]; cases aPlace a0 S.1 <;> rfl
      rw [e]
      cases hp : aPlace a0 S.1 with
      | none =>
        intro np
        rw [kb2_p (f1 hp), if_pos rfl]
        exact ⟨μ, rfl, dFm.rf, h, np⟩
      | some i =>
        intro np
        obtain ⟨-, hi, -, -⟩ := aPl_some hp
        rw [Nat.zero_add] at hi
        have := ho.pos i hi
        obtain ⟨ν, k1, k2, k3⟩ := f2 i hp
        rw [kb2_p k1, if_neg (by omega)]
        exact ⟨ν, rfl, k2, k3, np⟩
    · rw [if_neg c2]
      by_cases c3 : v = 3
      · subst c3
        rw [if_pos rfl, g0 (by decide), g1 (by decide)]
        obtain ⟨f1, f2⟩ := z_cutF (N := N) hy h hl (by omega) a0 a1
        have np := noP (by decide)
        revert np
        have e : doA 3 a0 a1 a2 md S = (match aPlace a0 S.1 with | some i => (if 1 ≤ a1 ∧ a1 < lG S.1 i 4 then ((S.1.set i (upd1 (lG S.1 i) 4 a1), aGo S.2.1 (lG S.1 i), S.2.2.1, S.2.2.2), 1) else (S, 0)) | none => (S, 0)) := by unfold doA; rw [if_neg (by decide), if_neg (by decide), if_pos rfl]; cases aPlace a0 S.1 <;> rfl
        rw [e]
        cases hp : aPlace a0 S.1 with
        | none =>
          intro np
          rw [kb2_p (f1 (Or.inl hp)), if_pos rfl]
          exact ⟨μ, rfl, dFm.rf, h, np⟩
        | some i =>
          obtain ⟨-, hi, -, -⟩ := aPl_some hp
          rw [Nat.zero_add] at hi
          have := ho.pos i hi
          show kOk (if 1 ≤ a1 ∧ a1 < lG S.1 i 4 then ((S.1.set i (upd1 (lG S.1 i) 4 a1), aGo S.2.1 (lG S.1 i), S.2.2.1, S.2.2.2), (1 : Int)) else (S, 0)).1 ∧ (if 1 ≤ a1 ∧ a1 < lG S.1 i 4 then ((S.1.set i (upd1 (lG S.1 i) 4 a1), aGo S.2.1 (lG S.1 i), S.2.2.1, S.2.2.2), (1 : Int)) else (S, 0)).1.2.1 4 ≤ S.2.1 4 + 1 → ∃ ν, _ = some ((if 1 ≤ a1 ∧ a1 < lG S.1 i 4 then ((S.1.set i (upd1 (lG S.1 i) 4 a1), aGo S.2.1 (lG S.1 i), S.2.2.1, S.2.2.2), (1 : Int)) else (S, 0)).2, ν) ∧ dFm ρ (gR G 700 x) μ ν ∧ cFl G ρ (gR G 700 x) ν (if 1 ≤ a1 ∧ a1 < lG S.1 i 4 then ((S.1.set i (upd1 (lG S.1 i) 4 a1), aGo S.2.1 (lG S.1 i), S.2.2.1, S.2.2.2), (1 : Int)) else (S, 0)).1.1 (if 1 ≤ a1 ∧ a1 < lG S.1 i 4 then ((S.1.set i (upd1 (lG S.1 i) 4 a1), aGo S.2.1 (lG S.1 i), S.2.2.1, S.2.2.2), (1 : Int)) else (S, 0)).1.2.1 (if 1 ≤ a1 ∧ a1 < lG S.1 i 4 then ((S.1.set i (upd1 (lG S.1 i) 4 a1), aGo S.2.1 (lG S.1 i), S.2.2.1, S.2.2.2), (1 : Int)) else (S, 0)).1.2.2.1 (if 1 ≤ a1 ∧ a1 < lG S.1 i 4 then ((S.1.set i (upd1 (lG S.1 i) 4 a1), aGo S.2.1 (lG S.1 i), S.2.2.1, S.2.2.2), (1 : Int)) else (S, 0)).1.2.2.2 ∧ kOk (if 1 ≤ a1 ∧ a1 < lG S.1 i 4 then ((S.1.set i (upd1 (lG S.1 i) 4 a1), aGo S.2.1 (lG S.1 i), S.2.2.1, S.2.2.2), (1 : Int)) else (S, 0)).1 ∧ (if 1 ≤ a1 ∧ a1 < lG S.1 i 4 then ((S.1.set i (upd1 (lG S.1 i) 4 a1), aGo S.2.1 (lG S.1 i), S.2.2.1, S.2.2.2), (1 : Int)) else (S, 0)).1.2.1 4 ≤ S.2.1 4 + 1
          by_cases cz : 1 ≤ a1 ∧ a1 < lG S.1 i 4
          · rw [if_pos cz]
            intro np
            obtain ⟨ν, k1, k2, k3⟩ := f2 i hp cz
            rw [kb2_p k1, if_neg (by omega)]
            exact ⟨ν, rfl, k2, k3, np⟩
          · rw [if_neg cz]
            intro np
            rw [kb2_p (f1 (Or.inr ⟨i, hp, cz⟩)), if_pos rfl]
            exact ⟨μ, rfl, dFm.rf, h, np⟩
      · rw [if_neg c3]
        by_cases c4 : v = 4
        · subst c4
          rw [if_pos rfl, g0 (by decide)]
          obtain ⟨ν, k1, k2, k3⟩ := z_grantF (N := N) hy h a0
          have np := noP (by decide)
          revert np
          have e : doA 4 a0 a1 a2 md S = (if aIn a0 0 1000 = true then ((S.1, upd1 S.2.1 0 a0, S.2.2.1, S.2.2.2), 1) else (S, 0)) := by unfold doA; rw [if_neg (by decide), if_neg (by decide), if_neg (by decide), if_pos rfl]
          rw [e, kb2_p k1]
          have t0 := ho.t0
          by_cases c : aIn a0 0 1000 = true
          · rw [if_pos c] at k3 ⊢
            rw [if_pos c]
            intro np
            rw [if_neg (by omega)]
            exact ⟨ν, rfl, k2, k3, np⟩
          · rw [if_neg c] at k3 ⊢
            rw [if_neg c]
            intro np
            rw [if_pos rfl]
            exact ⟨ν, rfl, k2, k3, np⟩
        · rw [if_neg c4]
          by_cases c5 : v = 5
          · subst c5
            rw [if_pos rfl, g0 (by decide)]
            obtain ⟨ν, k1, k2, k3⟩ := z_leastF (N := N) hy h a0
            have np := noP (by decide)
            revert np
            have e : doA 5 a0 a1 a2 md S = (if aIn a0 1 50 = true then ((S.1, upd1 S.2.1 1 a0, S.2.2.1, S.2.2.2), 1) else (S, 0)) := by unfold doA; rw [if_neg (by decide), if_neg (by decide), if_neg (by decide), if_neg (by decide), if_pos rfl]
            rw [e, kb2_p k1]
            have t1 := ho.t1
            by_cases c : aIn a0 1 50 = true
            · rw [if_pos c] at k3 ⊢
              rw [if_pos c]
              intro np
              rw [if_neg (by omega)]
              exact ⟨ν, rfl, k2, k3, np⟩
            · rw [if_neg c] at k3 ⊢
              rw [if_neg c]
              intro np
              rw [if_pos rfl]
              exact ⟨ν, rfl, k2, k3, np⟩
          · rw [if_neg c5]
            by_cases c6 : v = 6
            · subst c6
              rw [if_pos rfl]
              obtain ⟨ν, k1, k2, k3⟩ := z_callF (N := N) hy h ho.t2 (by omega)
              have np := noP (by decide)
              revert np
              have e : doA 6 a0 a1 a2 md S = (if S.2.1 2 = 1 then (S, 0) else ((S.1, aLap (aLap (upd1 S.2.1 2 1) 0) 1, S.2.2.1, S.2.2.2), 1)) := by unfold doA; rw [if_neg (by decide), if_neg (by decide), if_neg (by decide), if_neg (by decide), if_neg (by decide), if_pos rfl]
              rw [e, kb2_p k1]
              by_cases c : S.2.1 2 = 1
              · rw [if_pos c] at k3 ⊢
                rw [if_pos c]
                intro np
                exact ⟨ν, rfl, k2, k3, np⟩
              · rw [if_neg c] at k3 ⊢
                rw [if_neg c]
                intro np
                exact ⟨ν, rfl, k2, k3, np⟩
            · have c7 : v = 7 := by omega
              subst c7
              rw [if_neg c6]
              have e : doA 7 a0 a1 a2 md S = (((opAll S.1 S.2.1 S.2.2.1 S.2.2.2).1, (opAll S.1 S.2.1 S.2.2.1 S.2.2.2).2.1, (opAll S.1 S.2.1 S.2.2.1 S.2.2.2).2.2.1, (opAll S.1 S.2.1 S.2.2.1 S.2.2.2).2.2.2.1), if (opAll S.1 S.2.1 S.2.2.1 S.2.2.2).2.2.2.2 = -1 then 0 else 1) := by unfold doA; rw [if_neg (by decide), if_neg (by decide), if_neg (by decide), if_neg (by decide), if_neg (by decide), if_neg (by decide)]
              obtain ⟨A, V, nx, hf⟩ := id h
              unfold f_X7_open
              rw [hf.2.2.2.1.2.2.1]
              by_cases c : S.2.1 2 = 0
              · have np := ok (fun y => absurd c y)
                have eO : opAll S.1 S.2.1 S.2.2.1 S.2.2.2 = (S.1, S.2.1, S.2.2.1, S.2.2.2, -1) := if_pos c
                rw [e, eO] at np
                rw [e, eO, if_pos c, kb2_p rfl, if_pos rfl]
                exact ⟨μ, rfl, dFm.rf, h, np⟩
              · obtain ⟨ν, p, w, u, k1, k2, k3, k4, k5⟩ := z_change7 (N := N) hy h ho hw hd c hN
                have np := ok (fun _ => ⟨p, w, u, k3⟩)
                have eO : opAll S.1 S.2.1 S.2.2.1 S.2.2.2 = ((opRes S.1 S.2.1 S.2.2.1 S.2.2.2 p w).1, (opRes S.1 S.2.1 S.2.2.1 S.2.2.2 p w).2.1, (opRes S.1 S.2.1 S.2.2.1 S.2.2.2 p w).2.2.1, (opRes S.1 S.2.1 S.2.2.1 S.2.2.2 p w).2.2.2, w) := by unfold opAll; rw [if_neg c, cPV_eq k3]
                have wv := (opV k3 hl).1
                rw [e, eO] at np
                rw [e, eO, if_neg c, kb2_p k1, kb2_p rfl]
                have nw : ¬ w = -1 := by omega
                rw [if_neg nw] at np
                rw [if_neg nw]
                refine ⟨ν, ?_, dFm.of k2 k5, k4, np⟩
                show some ((1 : Int), ν) = some (if w = -1 then 0 else 1, ν)
                rw [if_neg nw]
end DOO
