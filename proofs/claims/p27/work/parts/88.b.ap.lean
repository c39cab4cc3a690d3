/-! PURE: what trades make of the numbers. E: the trades, the newest first (0 number, 1 who came in, 2 price, 3 lots, 4 kind; 5 trader, 6 side of who rested); W: lots of who came in, Y: their worth; q2, q3: orders off, lots less -/
theorem w32_l {a b : Int} : w32 (w32 a + b) = w32 (a + b) := by unfold w32; simp
theorem w64_l {a b : Int} : w64 (w64 a + b) = w64 (a + b) := by unfold w64; simp
theorem w64_ls {a b : Int} : w64 (w64 a - b) = w64 (a - b) := by rw [Int.sub_eq_add_neg, w64_l, ← Int.sub_eq_add_neg]
theorem w32_id {a : Int} (h : in32 a) : w32 a = a := by
  unfold w32
  exact Int.bmod_eq_of_le (by have := h.1; omega) (by have := h.2; omega)
theorem w64_id {a : Int} (h : in64 a) : w64 a = a := by
  unfold w64
  exact Int.bmod_eq_of_le (by have := h.1; omega) (by have := h.2; omega)
def sg (s v : Int) : Int := if s = 0 then v else -v
theorem sg_add {s a b : Int} : sg s (a + b) = sg s a + sg s b := by unfold sg; split <;> omega
theorem sg_0 {s : Int} : sg s 0 = 0 := by unfold sg; split <;> rfl
theorem sg_mul {s p v : Int} : p * sg s v = sg s (p * v) := by
  unfold sg
  split
  · rfl
  · rw [Int.mul_neg]
def sP (E : List (Nat → Int)) (t : Nat) : Int := aS (fun e => if e 5 = (t : Int) then sg (e 6) (e 3) else 0) E
def sPW (E : List (Nat → Int)) (t : Nat) : Int := aS (fun e => if e 5 = (t : Int) then sg (e 6) (e 2 * e 3) else 0) E
def apT (T U : Nat → Int) (p : Int) (E : List (Nat → Int)) (W q2 q3 s t0 : Int) (j : Nat) : Int :=
  if 6 ≤ j ∧ j ≤ 9 then U j else if j = 3 then p else if j = 10 then min 60 (T 10 + E.length) else if j = 11 then w32 (T 11 + W) else if j = 12 then w32 (T 12 + q2) else if j = 13 then w32 (T 13 + q3)
  else if 14 ≤ j then w32 (T j + sP E (j - 14) + (if ((j - 14 : Nat) : Int) = t0 then sg s W else 0)) else T j
def apD (D : Nat → Int) (E : List (Nat → Int)) (Y s t0 : Int) (t : Nat) : Int := w64 (D t - sPW E t - (if (t : Int) = t0 then sg s Y else 0))
def apTr (tr : Nat → Nat → Int) (E : List (Nat → Int)) (i w : Nat) : Int := if i < E.length then lG E i w else tr (i - E.length) w
def aRec (tr : Nat → Nat → Int) (e : Nat → Int) (i w : Nat) : Int := if i = 0 then e w else tr (i - 1) w
section AP
variable {T U D : Nat → Int} {p : Int} {E : List (Nat → Int)} {W Y q2 q3 s t0 : Int} {tr : Nat → Nat → Int} {e : Nat → Int}
theorem apT_u {j : Nat} (h : 6 ≤ j ∧ j ≤ 9) : apT T U p E W q2 q3 s t0 j = U j := if_pos h
theorem apT_3 : apT T U p E W q2 q3 s t0 3 = p := rfl
theorem apT_10 : apT T U p E W q2 q3 s t0 10 = min 60 (T 10 + E.length) := rfl
theorem apT_11 : apT T U p E W q2 q3 s t0 11 = w32 (T 11 + W) := rfl
theorem apT_12 : apT T U p E W q2 q3 s t0 12 = w32 (T 12 + q2) := rfl
theorem apT_13 : apT T U p E W q2 q3 s t0 13 = w32 (T 13 + q3) := rfl
theorem apT_p {j : Nat} (h : 14 ≤ j) : apT T U p E W q2 q3 s t0 j = w32 (T j + sP E (j - 14) + (if ((j - 14 : Nat) : Int) = t0 then sg s W else 0)) := by
  unfold apT
  rw [if_neg (by omega), if_neg (by omega), if_neg (by omega), if_neg (by omega), if_neg (by omega), if_neg (by omega), if_pos h]
theorem apT_t {t : Nat} : apT T U p E W q2 q3 s t0 (14 + t) = w32 (T (14 + t) + sP E t + (if (t : Int) = t0 then sg s W else 0)) := by
  rw [apT_p (by omega), show 14 + t - 14 = t by omega]
theorem apT_k {j : Nat} (h : j < 3 ∨ j = 4 ∨ j = 5) : apT T U p E W q2 q3 s t0 j = T j := by
  unfold apT
  rw [if_neg (by omega), if_neg (by omega), if_neg (by omega), if_neg (by omega), if_neg (by omega), if_neg (by omega), if_neg (by omega)]
theorem apT_cg {T' U' : Nat → Int} {p' : Int} {E' : List (Nat → Int)} {W' q2' q3' : Int} {j : Nat} (hT : j < 6 ∨ 9 < j → T j = T' j) (hU : 6 ≤ j ∧ j ≤ 9 → U j = U' j) (h3 : j = 3 → p = p') (h10 : j = 10 → E.length = E'.length) (h11 : j = 11 → W = W') (h12 : j = 12 → q2 = q2') (h13 : j = 13 → q3 = q3') (h14 : 14 ≤ j → sP E (j - 14) = sP E' (j - 14) ∧ W = W') :
    apT T U p E W q2 q3 s t0 j = apT T' U' p' E' W' q2' q3' s t0 j := by
  unfold apT
  by_cases u : 6 ≤ j ∧ j ≤ 9
  · rw [if_pos u, if_pos u]; exact hU u
  · rw [if_neg u, if_neg u]
    have hT' := hT (by omega)
    by_cases a3 : j = 3
    · rw [if_pos a3, if_pos a3]; exact h3 a3
    · rw [if_neg a3, if_neg a3]
      by_cases a10 : j = 10
      · rw [if_pos a10, if_pos a10, h10 a10]; subst a10; rw [hT']
      · rw [if_neg a10, if_neg a10]
        by_cases a11 : j = 11
        · rw [if_pos a11, if_pos a11, h11 a11]; subst a11; rw [hT']
        · rw [if_neg a11, if_neg a11]
          by_cases a12 : j = 12
          · rw [if_pos a12, if_pos a12, h12 a12]; subst a12; rw [hT']
          · rw [if_neg a12, if_neg a12]
            by_cases a13 : j = 13
            · rw [if_pos a13, if_pos a13, h13 a13]; subst a13; rw [hT']
            · rw [if_neg a13, if_neg a13]
              by_cases a14 : 14 ≤ j
              · rw [if_pos a14, if_pos a14, hT', (h14 a14).1, (h14 a14).2]
              · rw [if_neg a14, if_neg a14]; exact hT'
theorem apT_tr {t : Nat} (ht : e 5 = (t : Int)) : upd1 (upd1 (upd1 (apT T U p E W q2 q3 s t0) 10 (min (apT T U p E W q2 q3 s t0 10 + 1) 60)) 3 (e 2)) (14 + t) (w32 (apT T U p E W q2 q3 s t0 (14 + t) + sg (e 6) (e 3))) = apT T U (e 2) (e :: E) W q2 q3 s t0 := by
  have c : ∀ u, sP (e :: E) u = (if e 5 = (u : Int) then sg (e 6) (e 3) else 0) + sP E u := fun u => rfl
  funext j
  by_cases h1 : j = 14 + t
  · subst h1
    rw [upd1_s, apT_t, apT_t, w32_l, c, if_pos ht]
    congr 1
    omega
  · rw [upd1_n h1]
    by_cases h3 : j = 3
    · subst h3; rw [upd1_s, apT_3]
    · rw [upd1_n h3]
      by_cases h10 : j = 10
      · subst h10
        rw [upd1_s, apT_10, apT_10, List.length_cons]
        omega
      · rw [upd1_n h10]
        refine apT_cg (fun _ => rfl) (fun _ => rfl) (fun q => absurd q h3) (fun q => absurd q h10) (fun _ => rfl) (fun _ => rfl) (fun _ => rfl) (fun q => ⟨?_, rfl⟩)
        rw [c, if_neg (by omega), Int.zero_add]
theorem apT_in {t : Nat} (ht : t0 = (t : Int)) {v : Int} : upd1 (upd1 (apT T U p E W q2 q3 s t0) (14 + t) (w32 (apT T U p E W q2 q3 s t0 (14 + t) + sg s v))) 11 (w32 (apT T U p E W q2 q3 s t0 11 + v)) = apT T U p E (W + v) q2 q3 s t0 := by
  funext j
  by_cases h1 : j = 11
  · subst h1
    rw [upd1_s, apT_11, apT_11, w32_l, Int.add_assoc]
  · rw [upd1_n h1]
    by_cases h2 : j = 14 + t
    · subst h2
      rw [upd1_s, apT_t, apT_t, w32_l, if_pos ht.symm, if_pos ht.symm, sg_add]
      congr 1
      omega
    · rw [upd1_n h2]
      by_cases h4 : 14 ≤ j
      · rw [apT_p h4, apT_p h4, if_neg (by omega), if_neg (by omega)]
      · exact apT_cg (fun _ => rfl) (fun _ => rfl) (fun _ => rfl) (fun _ => rfl) (fun q => absurd q h1) (fun _ => rfl) (fun _ => rfl) (fun q => absurd q h4)
theorem apD_tr {t : Nat} (ht : e 5 = (t : Int)) : upd1 (apD D E Y s t0) t (w64 (apD D E Y s t0 t - e 2 * sg (e 6) (e 3))) = apD D (e :: E) Y s t0 := by
  have c : ∀ u, sPW (e :: E) u = (if e 5 = (u : Int) then sg (e 6) (e 2 * e 3) else 0) + sPW E u := fun u => rfl
  funext j
  unfold apD
  by_cases h : j = t
  · subst h
    rw [upd1_s, w64_ls, c, if_pos ht, sg_mul]
    congr 1
    omega
  · rw [upd1_n h, c, if_neg (c := e 5 = (j : Int)) (by omega), Int.zero_add]
theorem apD_in {t : Nat} (ht : t0 = (t : Int)) {v w : Int} : upd1 (apD D E Y s t0) t (w64 (apD D E Y s t0 t - v * sg s w)) = apD D E (Y + v * w) s t0 := by
  funext j
  unfold apD
  by_cases h : j = t
  · subst h
    rw [upd1_s, w64_ls, if_pos ht.symm, if_pos ht.symm, sg_mul, sg_add]
    congr 1
    omega
  · rw [upd1_n h, if_neg (by omega), if_neg (by omega)]
theorem apTr_c : aRec (apTr tr E) e = apTr tr (e :: E) := by
  funext i w
  unfold aRec apTr
  rw [List.length_cons]
  by_cases h : i = 0
  · subst h
    rw [if_pos rfl, if_pos (by omega)]
    rfl
  · obtain ⟨i, rfl⟩ : ∃ q, i = q + 1 := ⟨i - 1, by omega⟩
    rw [if_neg h, Nat.add_sub_cancel]
    by_cases q : i < E.length
    · rw [if_pos q, if_pos (by omega)]; rfl
    · rw [if_neg q, if_neg (by omega), show i + 1 - (E.length + 1) = i - E.length by omega]
/-- the start: nothing yet -/
def wOk (T : Nat → Int) : Prop := in32 (T 11) ∧ in32 (T 12) ∧ in32 (T 13) ∧ ∀ j, 14 ≤ j → j < 24 → in32 (T j)
theorem apT_0 (hw : wOk T) (h10 : T 10 ≤ 60) {j : Nat} (hj : j < 24) : apT T T (T 3) [] 0 0 0 s t0 j = T j := by
  by_cases u : 6 ≤ j ∧ j ≤ 9
  · exact apT_u u
  · by_cases h3 : j = 3
    · subst h3; rfl
    · by_cases a10 : j = 10
      · subst a10; rw [apT_10]; show min 60 (T 10 + 0) = T 10; omega
      · by_cases a11 : j = 11
        · subst a11; rw [apT_11, Int.add_zero]; exact w32_id hw.1
        · by_cases a12 : j = 12
          · subst a12; rw [apT_12, Int.add_zero]; exact w32_id hw.2.1
          · by_cases a13 : j = 13
            · subst a13; rw [apT_13, Int.add_zero]; exact w32_id hw.2.2.1
            · by_cases a14 : 14 ≤ j
              · rw [apT_p a14, sg_0]
                have : sP [] (j - 14) = 0 := rfl
                rw [this, ite_self, Int.add_zero, Int.add_zero]
                exact w32_id (hw.2.2.2 j a14 hj)
              · exact apT_k (by omega)
theorem apT_mix : mixT U (apT T T p E W q2 q3 s t0) = apT T U p E W q2 q3 s t0 := by
  funext j
  unfold mixT
  by_cases u : 6 ≤ j ∧ j ≤ 9
  · rw [if_pos u, apT_u u]
  · rw [if_neg u]
    exact apT_cg (fun _ => rfl) (fun q => absurd q u) (fun _ => rfl) (fun _ => rfl) (fun _ => rfl) (fun _ => rfl) (fun _ => rfl) (fun _ => ⟨rfl, rfl⟩)
theorem aSw_ap {L : List (Nat → Int)} (h : ∀ i, i < L.length → oNs (lG L i)) : aSw (apT T U p E W q2 q3 s t0) L = apT T (aSw U L) p E W q2 q3 s t0 := by
  rw [← apT_mix (U := U), aSw_mix h, apT_mix]
theorem aGo_ap {o : Nat → Int} (h : oNs o) : aGo (apT T U p E W q2 q3 s t0) o = apT T (aGo U o) p E W q2 q3 s t0 := by
  rw [← apT_mix (U := U), aGo_mix h, apT_mix]
theorem aLap_ap {k : Nat} (h : k < 2) : aLap (apT T U p E W q2 q3 s t0) k = apT T (aLap U k) p E W q2 q3 s t0 := by
  rw [← apT_mix (U := U), aLap_mix h, apT_mix]
theorem apT_8 {k : Nat} {v : Int} (h : k < 2) : upd1 (apT T U p E W q2 q3 s t0) (8 + k) v = apT T (upd1 U (8 + k) v) p E W q2 q3 s t0 := by
  funext j
  by_cases q : j = 8 + k
  · subst q; rw [upd1_s, apT_u (by omega), upd1_s]
  · rw [upd1_n q]
    exact apT_cg (fun _ => rfl) (fun _ => (upd1_n q).symm) (fun _ => rfl) (fun _ => rfl) (fun _ => rfl) (fun _ => rfl) (fun _ => rfl) (fun _ => ⟨rfl, rfl⟩)
theorem apT_12s {v : Int} : upd1 (apT T U p E W q2 q3 s t0) 12 (w32 (apT T U p E W q2 q3 s t0 12 + v)) = apT T U p E W (q2 + v) q3 s t0 := by
  funext j
  by_cases q : j = 12
  · subst q; rw [upd1_s, apT_12, apT_12, w32_l, Int.add_assoc]
  · rw [upd1_n q]
    exact apT_cg (fun _ => rfl) (fun _ => rfl) (fun _ => rfl) (fun _ => rfl) (fun _ => rfl) (fun a => absurd a q) (fun _ => rfl) (fun _ => ⟨rfl, rfl⟩)
theorem apT_13s {v : Int} : upd1 (apT T U p E W q2 q3 s t0) 13 (w32 (apT T U p E W q2 q3 s t0 13 + v)) = apT T U p E W q2 (q3 + v) s t0 := by
  funext j
  by_cases q : j = 13
  · subst q; rw [upd1_s, apT_13, apT_13, w32_l, Int.add_assoc]
  · rw [upd1_n q]
    exact apT_cg (fun _ => rfl) (fun _ => rfl) (fun _ => rfl) (fun _ => rfl) (fun _ => rfl) (fun _ => rfl) (fun a => absurd a q) (fun _ => ⟨rfl, rfl⟩)
theorem apT_in32 {j : Nat} (h : 11 ≤ j) : in32 (apT T U p E W q2 q3 s t0 j) := by
  by_cases a11 : j = 11
  · subst a11; exact w32_in _
  · by_cases a12 : j = 12
    · subst a12; exact w32_in _
    · by_cases a13 : j = 13
      · subst a13; exact w32_in _
      · rw [apT_p (by omega)]; exact w32_in _
theorem apT_wOk : wOk (apT T U p E W q2 q3 s t0) := ⟨w32_in _, w32_in _, w32_in _, fun j h _ => apT_in32 (by omega)⟩
end AP
