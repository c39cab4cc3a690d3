/-! PURE: off, cut, call, and an order that comes to rest, on the reference's side -/
theorem lG_set {l : List (Nat → Int)} {i j : Nat} {o : Nat → Int} (hi : i < l.length) : lG (l.set i o) j = if j = i then o else lG l j := by
  unfold lG
  rw [List.getD_eq_getElem?_getD, List.getD_eq_getElem?_getD, List.getElem?_set]
  by_cases c : i = j
  · subst c
    rw [if_pos rfl, if_pos hi, if_pos rfl]
    rfl
  · rw [if_neg c, if_neg (fun e => c e.symm)]
theorem lG_app {l : List (Nat → Int)} {j : Nat} {o : Nat → Int} : lG (l ++ [o]) j = if j = l.length then o else lG l j := by
  unfold lG
  rw [List.getD_eq_getElem?_getD, List.getD_eq_getElem?_getD]
  by_cases c : j = l.length
  · subst c
    rw [if_pos rfl, List.getElem?_append_right (Nat.le_refl _), Nat.sub_self]
    rfl
  · rw [if_neg c]
    rcases Nat.lt_or_ge j l.length with q | q
    · rw [List.getElem?_append_left q]
    · rw [List.getElem?_append_right q, List.getElem?_eq_none (by simp; omega), List.getElem?_eq_none q]
/-- an order's size is set -/
theorem mR.size {G : qG} {m : Nat} {μ : qM} {l : List (Nat → Int)} {T D : Nat → Int} {tr : Nat → Nat → Int} {n : Nat} {B : Nat → Int} (hL : mL G m) (h : mR G m μ l T D tr n B) (hn : l.length ≤ 60) {i : Nat} (hi : i < l.length) {w : Nat} (hw : w < 6) {v : Int} : mR G m (sA μ (gR G 800 m) (24 + 6 * i + w) v) (l.set i (upd1 (lG l i) w v)) T D tr n B := by
  refine h.dx hL dX.sA ⟨by rw [gA_i (by omega), h.1.1, List.length_set], fun j k hj hk => ?_⟩ (fun j hj h5 => by rw [gA_i (by omega)]; exact h.2.1 j hj h5) rfl (fun j hj => gA_i (by omega))
  rw [List.length_set] at hj
  rw [lG_set hi]
  by_cases c : j = i
  · subst c
    rw [if_pos rfl]
    by_cases d : k = w
    · subst d; rw [gA_s, upd1_s]
    · rw [gA_i (by omega), upd1_n d]; exact h.1.2 j k hj hk
  · rw [if_neg c, gA_i (by omega)]
    exact h.1.2 j k hj hk
section MR3
variable {N : Nat} {G : qG} {m : Nat} {μ : qM} {l : List (Nat → Int)} {T D : Nat → Int} {tr : Nat → Nat → Int} {n : Nat} {B : Nat → Int}
theorem z_takesOff8 (hL : mL G m) (h : mR G m μ l T D tr n B) (hl : lOk l) (hN : 1000 < N) (k : Int) :
    (aPlace k l = none → f_X8_takesOff N G m k μ = some (-1, μ)) ∧ ∀ i, aPlace k l = some i → ∃ ν, f_X8_takesOff N G m k μ = some (lG l i 4, ν) ∧ dX G m μ ν ∧ mR G m ν (l.eraseIdx i) (aGo T (lG l i)) D tr n B := by
  have hn := hl.1
  unfold f_X8_takesOff
  rw [kb2_p (z_placeOf8 h.1 hn (by omega))]
  refine ⟨fun e => by rw [e, oI_none, if_pos (by decide)], fun i e => ?_⟩
  obtain ⟨-, hi, -, -⟩ := aPl_some e
  rw [Nat.zero_add] at hi
  obtain ⟨ν, h1, h2, h3⟩ := z_goes8 (N := N) hL h hl hN hi
  rw [e, oI_some, if_neg (by omega), kb2_p (z8_4 h.1 hn hi), kb_p h1]
  exact ⟨ν, rfl, h2, h3⟩
theorem z_off8 (hL : mL G m) (h : mR G m μ l T D tr n B) (hl : lOk l) (hN : 1000 < N) (k : Int) :
    (aPlace k l = none → ∃ ν, f_X8_off N G m k μ = some (-1, ν) ∧ mR G m ν l T D tr n B) ∧ ∀ i, aPlace k l = some i → ∃ ν, f_X8_off N G m k μ = some (lG l i 4, ν) ∧ mR G m ν (l.eraseIdx i) (aGo T (lG l i)) D tr n B := by
  have h1 := h.fld (f := 804) (a := m) (v := 0) (by decide)
  obtain ⟨a, b⟩ := z_takesOff8 hL h1 hl hN k
  unfold f_X8_off
  rw [kp_p]
  refine ⟨fun e => by rw [kb2_p (a e)]; exact ⟨_, rfl, h1⟩, fun i e => ?_⟩
  obtain ⟨ν, c, -, d⟩ := b i e
  rw [kb2_p c]
  exact ⟨ν, rfl, d⟩
theorem z_cuts8 (hL : mL G m) (h : mR G m μ l T D tr n B) (hl : lOk l) (hN : 1000 < N) (k z : Int) :
    ((aPlace k l = none ∨ ∃ i, aPlace k l = some i ∧ ¬ (1 ≤ z ∧ z < lG l i 4)) → f_X8_cuts N G m k z μ = some (-1, μ)) ∧ ∀ i, aPlace k l = some i → 1 ≤ z ∧ z < lG l i 4 → ∃ ν, f_X8_cuts N G m k z μ = some (lG l i 4, ν) ∧ dX G m μ ν ∧ mR G m ν (l.set i (upd1 (lG l i) 4 z)) (aGo T (lG l i)) D tr n B := by
  have hn := hl.1
  unfold f_X8_cuts
  rw [kb2_p (z_placeOf8 h.1 hn (by omega))]
  refine ⟨fun e => ?_, fun i e hz => ?_⟩
  · rcases e with e | ⟨i, e, hz⟩
    · rw [e, oI_none, if_pos (by decide)]
    · obtain ⟨-, hi, -, -⟩ := aPl_some e
      rw [Nat.zero_add] at hi
      rw [e, oI_some, if_neg (by omega)]
      by_cases c : z < 1
      · rw [if_pos c]
      · rw [if_neg c, kb2_p (z8_4 h.1 hn hi), if_neg (by omega)]
  · obtain ⟨-, hi, hf, -⟩ := aPl_some e
    rw [Nat.zero_add] at hi
    rw [Nat.sub_zero] at hf
    have hk : lG l i 0 = k := of_decide_eq_true hf
    have ho := (hl.2 i hi).2.2.1
    rw [e, oI_some, if_neg (by omega), if_neg (by omega), kb2_p (z8_4 h.1 hn hi), if_pos hz.2, kb2_p (z8_4 h.1 hn hi), kb2_p (z8_2 h.1 hn hi), kb_p (z_setOrder8 ⟨by omega, by omega⟩ ⟨by omega, by omega⟩)]
    have h1 : mR G m (sA μ (gR G 800 m) (24 + 6 * i + 4) z) (l.set i (upd1 (lG l i) 4 z)) T D tr n B := h.size hL hn hi (by decide)
    rw [show 24 + 6 * ((i : Int)).toNat + (4 : Int).toNat = 24 + 6 * i + 4 by omega]
    rw [ckI_p ⟨by omega, by omega⟩, rdA_p ⟨by omega, by omega⟩, h1.x (j := 6 + (lG l i 2).toNat) (by omega) (by omega) (by omega)]
    unfold aGo
    by_cases c : T (6 + (lG l i 2).toNat) = k
    · rw [if_pos c, if_pos (by rw [hk]; exact c), kb_p (z_lapses8 ho)]
      exact ⟨_, rfl, (dX.sA.tr dX.sA).tr dX.sA, (h1.T hL (by omega) (by omega) (by omega)).T hL (by omega) (by omega) (by omega)⟩
    · rw [if_neg c, if_neg (by rw [hk]; exact c)]
      exact ⟨_, rfl, dX.sA, h1⟩
theorem z_cut8 (hL : mL G m) (h : mR G m μ l T D tr n B) (hl : lOk l) (hN : 1000 < N) (k z : Int) :
    ((aPlace k l = none ∨ ∃ i, aPlace k l = some i ∧ ¬ (1 ≤ z ∧ z < lG l i 4)) → ∃ ν, f_X8_cut N G m k z μ = some (-1, ν) ∧ mR G m ν l T D tr n B) ∧ ∀ i, aPlace k l = some i → 1 ≤ z ∧ z < lG l i 4 → ∃ ν, f_X8_cut N G m k z μ = some (lG l i 4, ν) ∧ mR G m ν (l.set i (upd1 (lG l i) 4 z)) (aGo T (lG l i)) D tr n B := by
  have h1 := h.fld (f := 804) (a := m) (v := 0) (by decide)
  obtain ⟨a, b⟩ := z_cuts8 hL h1 hl hN k z
  unfold f_X8_cut
  rw [kp_p]
  refine ⟨fun e => by rw [kb2_p (a e)]; exact ⟨_, rfl, h1⟩, fun i e hz => ?_⟩
  obtain ⟨ν, c, -, d⟩ := b i e hz
  rw [kb2_p c]
  exact ⟨ν, rfl, d⟩
theorem z_calls8 (hL : mL G m) (h : mR G m μ l T D tr n B) : ∃ ν, f_X8_calls N G m μ = some (if T 2 = 1 then 0 else 1, ν) ∧ dX G m μ ν ∧ mR G m ν l (if T 2 = 1 then T else aLap (aLap (upd1 T 2 1) 0) 1) D tr n B := by
  unfold f_X8_calls
  rw [h.2.1 2 (by decide) (by decide)]
  by_cases c : T 2 = 1
  · rw [if_pos c, if_pos c, if_pos c]
    exact ⟨μ, rfl, dX.rf, h⟩
  · rw [if_neg c, if_neg c, if_neg c, kp_p, kb_p (z_lapses8 (Or.inl rfl)), kb_p (z_lapses8 (Or.inr rfl))]
    have h1 := h.T hL (j := 2) (v := 1) (by decide) (by decide) (by decide)
    have h2 := (h1.T hL (j := 6) (v := -1) (by decide) (by decide) (by decide)).T hL (j := 8) (v := 0) (by decide) (by decide) (by decide)
    have h3 := (h2.T hL (j := 7) (v := -1) (by decide) (by decide) (by decide)).T hL (j := 9) (v := 0) (by decide) (by decide) (by decide)
    exact ⟨_, rfl, (((dX.sA.tr dX.sA).tr dX.sA).tr dX.sA).tr dX.sA, h3⟩
theorem z_call8 (hL : mL G m) (h : mR G m μ l T D tr n B) : ∃ ν, f_X8_call N G m μ = some (if T 2 = 1 then 0 else 1, ν) ∧ mR G m ν l (if T 2 = 1 then T else aLap (aLap (upd1 T 2 1) 0) 1) D tr n B := by
  obtain ⟨ν, a, -, b⟩ := z_calls8 (N := N) hL (h.fld (f := 804) (a := m) (v := 0) (by decide))
  unfold f_X8_call
  rw [kp_p, kb2_p a]
  exact ⟨ν, rfl, b⟩
/-- six numbers as an order -/
def oMk (a b c d e f : Int) : Nat → Int := fun k => if k = 0 then a else if k = 1 then b else if k = 2 then c else if k = 3 then d else if k = 4 then e else f
theorem z_rests8 (hL : mL G m) (h : mR G m μ l T D tr n B) (hn : l.length < 60) (a b c d e f : Int) : ∃ ν, f_X8_rests N G m a b c d e f μ = some ν ∧ dX G m μ ν ∧ mR G m ν (l ++ [oMk a b c d e f]) T D tr n B := by
  unfold f_X8_rests
  rw [h.1.1, ckI_p ⟨by omega, by omega⟩, kp_p, kb_p (z_setOrder8 ⟨by omega, by omega⟩ ⟨by omega, by omega⟩), kb_p (z_setOrder8 ⟨by omega, by omega⟩ ⟨by omega, by omega⟩), kb_p (z_setOrder8 ⟨by omega, by omega⟩ ⟨by omega, by omega⟩), kb_p (z_setOrder8 ⟨by omega, by omega⟩ ⟨by omega, by omega⟩), kb_p (z_setOrder8 ⟨by omega, by omega⟩ ⟨by omega, by omega⟩), kb_p (z_setOrder8 ⟨by omega, by omega⟩ ⟨by omega, by omega⟩)]
  have et : ((l.length : Int)).toNat = l.length := by omega
  rw [et]
  have hd : dX G m μ (sA (sA (sA (sA (sA (sA (sA μ (gR G 800 m) 5 ((l.length : Int) + 1)) (gR G 800 m) (24 + 6 * l.length + (0 : Int).toNat) a) (gR G 800 m) (24 + 6 * l.length + (1 : Int).toNat) b) (gR G 800 m) (24 + 6 * l.length + (2 : Int).toNat) c) (gR G 800 m) (24 + 6 * l.length + (3 : Int).toNat) d) (gR G 800 m) (24 + 6 * l.length + (4 : Int).toNat) e) (gR G 800 m) (24 + 6 * l.length + (5 : Int).toNat) f) :=
    (((((dX.sA.tr dX.sA).tr dX.sA).tr dX.sA).tr dX.sA).tr dX.sA).tr dX.sA
  refine ⟨_, rfl, hd, h.dx hL hd ⟨?_, fun j k hj hk => ?_⟩ (fun j hj h5 => ?_) rfl (fun j hj => ?_)⟩
  · rw [gA_i (by omega), gA_i (by omega), gA_i (by omega), gA_i (by omega), gA_i (by omega), gA_i (by omega), gA_s, List.length_append]
    simp
  · rw [List.length_append] at hj
    have hj' : j < l.length + 1 := hj
    rw [lG_app]
    by_cases c1 : j = l.length
    · subst c1
      rw [if_pos rfl]
      have hk' : k = 0 ∨ k = 1 ∨ k = 2 ∨ k = 3 ∨ k = 4 ∨ k = 5 := by omega
      rcases hk' with rfl | rfl | rfl | rfl | rfl | rfl <;> simp [gA_sA, oMk]
    · rw [if_neg c1]
      rw [gA_i (by omega), gA_i (by omega), gA_i (by omega), gA_i (by omega), gA_i (by omega), gA_i (by omega), gA_i (by omega)]
      exact h.1.2 j k (by omega) hk
  · rw [gA_i (by omega), gA_i (by omega), gA_i (by omega), gA_i (by omega), gA_i (by omega), gA_i (by omega), gA_i (by omega)]
    exact h.2.1 j hj h5
  · rw [gA_i (by omega), gA_i (by omega), gA_i (by omega), gA_i (by omega), gA_i (by omega), gA_i (by omega), gA_i (by omega)]
end MR3
