/-! PURE: what a line does; the market stays in order -/
abbrev MK : Type := List (Nat → Int) × (Nat → Int) × (Nat → Int) × (Nat → Nat → Int)
noncomputable def doA (v a0 a1 a2 md : Int) (S : MK) : MK × Int :=
  if v = 0 ∨ v = 1 then (((ordRes S.1 S.2.1 S.2.2.1 S.2.2.2 a0 v a2 a1 md).1, (ordRes S.1 S.2.1 S.2.2.1 S.2.2.2 a0 v a2 a1 md).2.1, (ordRes S.1 S.2.1 S.2.2.1 S.2.2.2 a0 v a2 a1 md).2.2.1, (ordRes S.1 S.2.1 S.2.2.1 S.2.2.2 a0 v a2 a1 md).2.2.2.1), if 0 < (ordRes S.1 S.2.1 S.2.2.1 S.2.2.2 a0 v a2 a1 md).2.2.2.2 then 1 else 0)
  else if v = 2 then (match aPlace a0 S.1 with | some i => ((S.1.eraseIdx i, aGo S.2.1 (lG S.1 i), S.2.2.1, S.2.2.2), 1) | none => (S, 0))
  else if v = 3 then (match aPlace a0 S.1 with | some i => (if 1 ≤ a1 ∧ a1 < lG S.1 i 4 then ((S.1.set i (upd1 (lG S.1 i) 4 a1), aGo S.2.1 (lG S.1 i), S.2.2.1, S.2.2.2), 1) else (S, 0)) | none => (S, 0))
  else if v = 4 then (if aIn a0 0 1000 = true then ((S.1, upd1 S.2.1 0 a0, S.2.2.1, S.2.2.2), 1) else (S, 0))
  else if v = 5 then (if aIn a0 1 50 = true then ((S.1, upd1 S.2.1 1 a0, S.2.2.1, S.2.2.2), 1) else (S, 0))
  else if v = 6 then (if S.2.1 2 = 1 then (S, 0) else ((S.1, aLap (aLap (upd1 S.2.1 2 1) 0) 1, S.2.2.1, S.2.2.2), 1))
  else (((opAll S.1 S.2.1 S.2.2.1 S.2.2.2).1, (opAll S.1 S.2.1 S.2.2.1 S.2.2.2).2.1, (opAll S.1 S.2.1 S.2.2.1 S.2.2.2).2.2.1, (opAll S.1 S.2.1 S.2.2.1 S.2.2.2).2.2.2.1), if (opAll S.1 S.2.1 S.2.2.1 S.2.2.2).2.2.2.2 = -1 then 0 else 1)
def kOk (S : MK) : Prop := mOk S.1 S.2.1 ∧ wOk S.2.1 ∧ dOk S.2.2.1
section DOA
variable {v a0 a1 a2 md : Int} {S : MK} {l l' : List (Nat → Int)} {T T' : Nat → Int}
theorem mOk.to (ho : mOk l T) (h1 : lOk l') (h2 : ∀ j, j < l'.length → 0 < lG l' j 4) (h3 : nInc l') (h4 : ∀ j, j < l'.length → lG l' j 0 ≤ T 4) (e : ∀ j, ¬ (6 ≤ j ∧ j ≤ 9) → T' j = T j) (t : ∀ s, s < 2 → (T' (6 + s) = -1 ∧ T' (8 + s) = 0) ∨ (1 ≤ T' (6 + s) ∧ 1 ≤ T' (8 + s) ∧ T' (8 + s) ≤ 1000)) (c : T 2 = 1 → T' 6 = -1 ∧ T' 7 = -1) : mOk l' T' :=
  ⟨h1, h2, h3, fun j hj => by rw [e 4 (by omega)]; exact h4 j hj, by rw [e 0 (by omega)]; exact ho.t0, by rw [e 1 (by omega)]; exact ho.t1, by rw [e 2 (by omega)]; exact ho.t2, by rw [e 3 (by omega)]; exact ho.t3, by rw [e 4 (by omega)]; exact ho.t4, by rw [e 10 (by omega)]; exact ho.t10, t, fun q => by rw [e 2 (by omega)] at q; exact c q⟩
theorem wOk.to (hw : wOk T) (e : ∀ j, 11 ≤ j → T' j = T j) : wOk T' := ⟨by rw [e 11 (by omega)]; exact hw.1, by rw [e 12 (by omega)]; exact hw.2.1, by rw [e 13 (by omega)]; exact hw.2.2.1, fun j a b => by rw [e j (by omega)]; exact hw.2.2.2 j a b⟩
theorem aGo_j {o : Nat → Int} {j : Nat} (h : ¬ (6 ≤ j ∧ j ≤ 9)) (ho : o 2 = 0 ∨ o 2 = 1) : aGo T o j = T j := aGo_o ho (by omega) (by omega) (by omega) (by omega)
theorem aGo_tp {o : Nat → Int} (ho : o 2 = 0 ∨ o 2 = 1) (h : ∀ s, s < 2 → (T (6 + s) = -1 ∧ T (8 + s) = 0) ∨ (1 ≤ T (6 + s) ∧ 1 ≤ T (8 + s) ∧ T (8 + s) ≤ 1000)) : ∀ s, s < 2 → (aGo T o (6 + s) = -1 ∧ aGo T o (8 + s) = 0) ∨ (1 ≤ aGo T o (6 + s) ∧ 1 ≤ aGo T o (8 + s) ∧ aGo T o (8 + s) ≤ 1000) := by
  unfold aGo
  split
  · exact aLap_top (by omega) h
  · exact h
theorem aGo_cal {o : Nat → Int} (h : T 6 = -1 ∧ T 7 = -1) (h0 : 1 ≤ o 0) (ho : o 2 = 0 ∨ o 2 = 1) : aGo T o = T := by
  unfold aGo
  rcases ho with q | q
  · rw [q, if_neg (show ¬ T (6 + (0 : Int).toNat) = o 0 by show ¬ T 6 = o 0; omega)]
  · rw [q, if_neg (show ¬ T (6 + (1 : Int).toNat) = o 0 by show ¬ T 7 = o 0; omega)]
theorem set_f {i j w : Nat} {z : Int} (hi : i < l.length) (hw : w ≠ 4) : lG (l.set i (upd1 (lG l i) 4 z)) j w = lG l j w := by
  rw [lG_set hi]
  by_cases c : j = i
  · subst c; rw [if_pos rfl, upd1_n hw]
  · rw [if_neg c]
theorem nInc.set {i : Nat} {z : Int} (h : nInc l) (hi : i < l.length) : nInc (l.set i (upd1 (lG l i) 4 z)) := by
  intro a b hab hb
  rw [List.length_set] at hb
  rw [set_f hi (by decide), set_f hi (by decide)]
  exact h a b hab hb
theorem doA_ok (hk : kOk S) (h4 : S.2.1 4 ≤ 1999999999) (hF : v = 0 ∨ v = 1 → isForm a0 v a2 a1 md) (hs : S.2.1 2 ≠ 0 → ∃ p w u, cSp S.1 (S.2.1 3) p w u) : kOk (doA v a0 a1 a2 md S).1 ∧ (doA v a0 a1 a2 md S).1.2.1 4 ≤ S.2.1 4 + 1 := by
  obtain ⟨ho, hw, hd⟩ := hk
  have hl := ho.lo
  have same : kOk S ∧ S.2.1 4 ≤ S.2.1 4 + 1 := ⟨⟨ho, hw, hd⟩, by omega⟩
  unfold doA
  by_cases c0 : v = 0 ∨ v = 1
  · rw [if_pos c0]
    obtain ⟨a, b, c, d⟩ := ordRes_ok (tr := S.2.2.2) ho hw hd (hF c0) h4
    exact ⟨⟨a, b, c⟩, d⟩
  · rw [if_neg c0]
    by_cases c2 : v = 2
    · rw [if_pos c2]
      cases hp : aPlace a0 S.1 with
      | none => exact same
      | some i =>
        obtain ⟨-, hi, -, -⟩ := aPl_some hp
        rw [Nat.zero_add] at hi
        have oi := hl.2 i hi
        have e := filter_one hi ho.pos
        have hls : lOk (S.1.set i (upd1 (lG S.1 i) 4 0)) := hl.set hi ⟨by decide, by decide⟩
        have kp := kp_pos (l := S.1.set i (upd1 (lG S.1 i) 4 0))
        have hl1 : lOk ((S.1.set i (upd1 (lG S.1 i) 4 0)).filter aKp) := hls.flt
        have hn1 : nInc ((S.1.set i (upd1 (lG S.1 i) 4 0)).filter aKp) := (ho.inc.set hi).flt
        have h41 : ∀ j, j < ((S.1.set i (upd1 (lG S.1 i) 4 0)).filter aKp).length → lG ((S.1.set i (upd1 (lG S.1 i) 4 0)).filter aKp) j 0 ≤ S.2.1 4 := by
          intro j hj
          obtain ⟨-, b, hb, -, he⟩ := flt_in hj
          rw [List.length_set] at hb
          rw [he, set_f hi (by decide)]
          exact ho.le4 b hb
        rw [e] at kp hl1 hn1 h41
        refine ⟨⟨ho.to hl1 kp hn1 h41 (fun j hj => aGo_j hj oi.2.2.1) (aGo_tp oi.2.2.1 ho.top) (fun q => ?_), hw.to (fun j hj => aGo_j (by omega) oi.2.2.1), hd⟩, ?_⟩
        · have cal := ho.2.2.2.2.2.2.2.2.2.2.2 q
          show aGo S.2.1 (lG S.1 i) 6 = -1 ∧ aGo S.2.1 (lG S.1 i) 7 = -1
          rw [aGo_cal cal oi.1.1 oi.2.2.1]
          exact cal
        · show aGo S.2.1 (lG S.1 i) 4 ≤ S.2.1 4 + 1
          rw [aGo_j (by omega) oi.2.2.1]
          omega
    · rw [if_neg c2]
      by_cases c3 : v = 3
      · rw [if_pos c3]
        cases hp : aPlace a0 S.1 with
        | none => exact same
        | some i =>
          obtain ⟨-, hi, -, -⟩ := aPl_some hp
          rw [Nat.zero_add] at hi
          have oi := hl.2 i hi
          show kOk (if 1 ≤ a1 ∧ a1 < lG S.1 i 4 then ((S.1.set i (upd1 (lG S.1 i) 4 a1), aGo S.2.1 (lG S.1 i), S.2.2.1, S.2.2.2), (1 : Int)) else (S, 0)).1 ∧ (if 1 ≤ a1 ∧ a1 < lG S.1 i 4 then ((S.1.set i (upd1 (lG S.1 i) 4 a1), aGo S.2.1 (lG S.1 i), S.2.2.1, S.2.2.2), (1 : Int)) else (S, 0)).1.2.1 4 ≤ S.2.1 4 + 1
          by_cases cz : 1 ≤ a1 ∧ a1 < lG S.1 i 4
          · rw [if_pos cz]
            have z4 := oi.2.2.2.2.1
            refine ⟨⟨ho.to (hl.set hi ⟨by omega, by omega⟩) (fun j hj => ?_) (ho.inc.set hi) (fun j hj => ?_) (fun j hj => aGo_j hj oi.2.2.1) (aGo_tp oi.2.2.1 ho.top) (fun q => ?_), hw.to (fun j hj => aGo_j (by omega) oi.2.2.1), hd⟩, ?_⟩
            · rw [List.length_set] at hj
              rw [lG_set hi]
              by_cases y : j = i
              · rw [if_pos y, upd1_s]; omega
              · rw [if_neg y]; exact ho.pos j hj
            · rw [List.length_set] at hj
              rw [set_f hi (by decide)]
              exact ho.le4 j hj
            · have cal := ho.2.2.2.2.2.2.2.2.2.2.2 q
              rw [aGo_cal cal oi.1.1 oi.2.2.1]
              exact cal
            · show aGo S.2.1 (lG S.1 i) 4 ≤ S.2.1 4 + 1
              rw [aGo_j (by omega) oi.2.2.1]
              omega
          · rw [if_neg cz]; exact same
      · rw [if_neg c3]
        by_cases c4 : v = 4
        · rw [if_pos c4]
          by_cases c : aIn a0 0 1000 = true
          · have c' : 0 ≤ a0 ∧ a0 ≤ 1000 := of_decide_eq_true c
            rw [if_pos c]
            obtain ⟨b1, b2, b3, b4, b5, b6, b7, b8, b9, b10, b11, b12⟩ := ho
            refine ⟨⟨⟨b1, b2, b3, fun j hj => ?_, ?_, ?_, ?_, ?_, ?_, ?_, fun s hs => ?_, fun q => ?_⟩, hw.to (fun j hj => upd1_n (by omega)), hd⟩, ?_⟩
            · show _ ≤ upd1 S.2.1 0 a0 4; rw [upd1_n (by decide)]; exact b4 j hj
            · show 0 ≤ upd1 S.2.1 0 a0 0 ∧ upd1 S.2.1 0 a0 0 ≤ 1000; rw [upd1_s]; exact c'
            · show 1 ≤ upd1 S.2.1 0 a0 1 ∧ upd1 S.2.1 0 a0 1 ≤ 50; rw [upd1_n (by decide)]; exact b6
            · show upd1 S.2.1 0 a0 2 = 0 ∨ upd1 S.2.1 0 a0 2 = 1; rw [upd1_n (by decide)]; exact b7
            · show 0 ≤ upd1 S.2.1 0 a0 3 ∧ upd1 S.2.1 0 a0 3 ≤ 9999999; rw [upd1_n (by decide)]; exact b8
            · show 0 ≤ upd1 S.2.1 0 a0 4; rw [upd1_n (by decide)]; exact b9
            · show 0 ≤ upd1 S.2.1 0 a0 10 ∧ upd1 S.2.1 0 a0 10 ≤ 60; rw [upd1_n (by decide)]; exact b10
            · show (upd1 S.2.1 0 a0 (6 + s) = -1 ∧ upd1 S.2.1 0 a0 (8 + s) = 0) ∨ (1 ≤ upd1 S.2.1 0 a0 (6 + s) ∧ 1 ≤ upd1 S.2.1 0 a0 (8 + s) ∧ upd1 S.2.1 0 a0 (8 + s) ≤ 1000); rw [upd1_n (by omega), upd1_n (by omega)]; exact b11 s hs
            · have q' : upd1 S.2.1 0 a0 2 = 1 := q
              rw [upd1_n (by decide)] at q'
              show upd1 S.2.1 0 a0 6 = -1 ∧ upd1 S.2.1 0 a0 7 = -1
              rw [upd1_n (by decide), upd1_n (by decide)]; exact b12 q'
            · show upd1 S.2.1 0 a0 4 ≤ S.2.1 4 + 1; rw [upd1_n (by decide)]; omega
          · rw [if_neg c]; exact same
        · rw [if_neg c4]
          by_cases c5 : v = 5
          · rw [if_pos c5]
            by_cases c : aIn a0 1 50 = true
            · have c' : 1 ≤ a0 ∧ a0 ≤ 50 := of_decide_eq_true c
              rw [if_pos c]
              obtain ⟨b1, b2, b3, b4, b5, b6, b7, b8, b9, b10, b11, b12⟩ := ho
              refine ⟨⟨⟨b1, b2, b3, fun j hj => ?_, ?_, ?_, ?_, ?_, ?_, ?_, fun s hs => ?_, fun q => ?_⟩, hw.to (fun j hj => upd1_n (by omega)), hd⟩, ?_⟩
              · show _ ≤ upd1 S.2.1 1 a0 4; rw [upd1_n (by decide)]; exact b4 j hj
              · show 0 ≤ upd1 S.2.1 1 a0 0 ∧ upd1 S.2.1 1 a0 0 ≤ 1000; rw [upd1_n (by decide)]; exact b5
              · show 1 ≤ upd1 S.2.1 1 a0 1 ∧ upd1 S.2.1 1 a0 1 ≤ 50; rw [upd1_s]; exact c'
              · show upd1 S.2.1 1 a0 2 = 0 ∨ upd1 S.2.1 1 a0 2 = 1; rw [upd1_n (by decide)]; exact b7
              · show 0 ≤ upd1 S.2.1 1 a0 3 ∧ upd1 S.2.1 1 a0 3 ≤ 9999999; rw [upd1_n (by decide)]; exact b8
              · show 0 ≤ upd1 S.2.1 1 a0 4; rw [upd1_n (by decide)]; exact b9
              · show 0 ≤ upd1 S.2.1 1 a0 10 ∧ upd1 S.2.1 1 a0 10 ≤ 60; rw [upd1_n (by decide)]; exact b10
              · show (upd1 S.2.1 1 a0 (6 + s) = -1 ∧ upd1 S.2.1 1 a0 (8 + s) = 0) ∨ (1 ≤ upd1 S.2.1 1 a0 (6 + s) ∧ 1 ≤ upd1 S.2.1 1 a0 (8 + s) ∧ upd1 S.2.1 1 a0 (8 + s) ≤ 1000); rw [upd1_n (by omega), upd1_n (by omega)]; exact b11 s hs
              · have q' : upd1 S.2.1 1 a0 2 = 1 := q
                rw [upd1_n (by decide)] at q'
                show upd1 S.2.1 1 a0 6 = -1 ∧ upd1 S.2.1 1 a0 7 = -1
                rw [upd1_n (by decide), upd1_n (by decide)]; exact b12 q'
              · show upd1 S.2.1 1 a0 4 ≤ S.2.1 4 + 1; rw [upd1_n (by decide)]; omega
            · rw [if_neg c]; exact same
          · rw [if_neg c5]
            by_cases c6 : v = 6
            · rw [if_pos c6]
              by_cases c : S.2.1 2 = 1
              · rw [if_pos c]; exact same
              · rw [if_neg c]
                have tj : ∀ j, ¬ (6 ≤ j ∧ j ≤ 9) → aLap (aLap (upd1 S.2.1 2 1) 0) 1 j = upd1 S.2.1 2 1 j := fun j hj => by rw [aLap_o (by decide) (by omega) (by omega) (by omega) (by omega), aLap_o (by decide) (by omega) (by omega) (by omega) (by omega)]
                have t6 : aLap (aLap (upd1 S.2.1 2 1) 0) 1 6 = -1 ∧ aLap (aLap (upd1 S.2.1 2 1) 0) 1 7 = -1 ∧ aLap (aLap (upd1 S.2.1 2 1) 0) 1 8 = 0 ∧ aLap (aLap (upd1 S.2.1 2 1) 0) 1 9 = 0 := ⟨rfl, rfl, rfl, rfl⟩
                obtain ⟨b1, b2, b3, b4, b5, b6, b7, b8, b9, b10, b11, b12⟩ := ho
                refine ⟨⟨⟨b1, b2, b3, fun j hj => ?_, ?_, ?_, ?_, ?_, ?_, ?_, fun s hs => Or.inl ?_, fun q => ⟨t6.1, t6.2.1⟩⟩, hw.to (fun j hj => (tj j (by omega)).trans (upd1_n (by omega))), hd⟩, ?_⟩
                · show _ ≤ aLap (aLap (upd1 S.2.1 2 1) 0) 1 4; rw [tj 4 (by omega), upd1_n (by decide)]; exact b4 j hj
                · show 0 ≤ aLap (aLap (upd1 S.2.1 2 1) 0) 1 0 ∧ aLap (aLap (upd1 S.2.1 2 1) 0) 1 0 ≤ 1000; rw [tj 0 (by omega), upd1_n (by decide)]; exact b5
                · show 1 ≤ aLap (aLap (upd1 S.2.1 2 1) 0) 1 1 ∧ aLap (aLap (upd1 S.2.1 2 1) 0) 1 1 ≤ 50; rw [tj 1 (by omega), upd1_n (by decide)]; exact b6
                · show aLap (aLap (upd1 S.2.1 2 1) 0) 1 2 = 0 ∨ aLap (aLap (upd1 S.2.1 2 1) 0) 1 2 = 1; rw [tj 2 (by omega), upd1_s]; exact Or.inr rfl
                · show 0 ≤ aLap (aLap (upd1 S.2.1 2 1) 0) 1 3 ∧ aLap (aLap (upd1 S.2.1 2 1) 0) 1 3 ≤ 9999999; rw [tj 3 (by omega), upd1_n (by decide)]; exact b8
                · show 0 ≤ aLap (aLap (upd1 S.2.1 2 1) 0) 1 4; rw [tj 4 (by omega), upd1_n (by decide)]; exact b9
                · show 0 ≤ aLap (aLap (upd1 S.2.1 2 1) 0) 1 10 ∧ aLap (aLap (upd1 S.2.1 2 1) 0) 1 10 ≤ 60; rw [tj 10 (by omega), upd1_n (by decide)]; exact b10
                · have hs' : s = 0 ∨ s = 1 := by omega
                  rcases hs' with rfl | rfl
                  · exact ⟨t6.1, t6.2.2.1⟩
                  · exact ⟨t6.2.1, t6.2.2.2⟩
                · show aLap (aLap (upd1 S.2.1 2 1) 0) 1 4 ≤ S.2.1 4 + 1; rw [tj 4 (by omega), upd1_n (by decide)]; omega
            · rw [if_neg c6]
              obtain ⟨a, b, c, d⟩ := opAll_ok (tr := S.2.2.2) ho hw hd hs
              exact ⟨⟨a, b, c⟩, by show (opAll S.1 S.2.1 S.2.2.1 S.2.2.2).2.1 4 ≤ _; omega⟩
end DOA
