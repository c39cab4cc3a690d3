/-! PURE: sizes of rows are set; what is empty goes -/
theorem lG_ext {a b : List (Nat → Int)} (hl : a.length = b.length) (h : ∀ i, i < a.length → lG a i = lG b i) : a = b := by
  apply List.ext_getElem hl
  intro i h1 h2
  have := h i h1
  unfold lG at this
  rw [List.getD_eq_getElem?_getD, List.getD_eq_getElem?_getD, List.getElem?_eq_getElem h1, List.getElem?_eq_getElem h2] at this
  exact this
theorem upd1_2 {o : Nat → Int} {k : Nat} {v w : Int} : upd1 (upd1 o k v) k w = upd1 o k w := by
  funext j
  unfold upd1
  by_cases h : j = k
  · rw [if_pos h, if_pos h]
  · rw [if_neg h, if_neg h, if_neg h]
theorem upd1_id {o : Nat → Int} {k : Nat} : upd1 o k (o k) = o := by
  funext j
  unfold upd1
  by_cases h : j = k
  · subst h; rw [if_pos rfl]
  · rw [if_neg h]
/-- the same orders with other sizes -/
def szs (l : List (Nat → Int)) (f : Nat → Int) : List (Nat → Int) := l.mapIdx (fun i o => upd1 o 4 (f i))
section SZ
variable {l : List (Nat → Int)} {f g : Nat → Int}
theorem szs_len : (szs l f).length = l.length := List.length_mapIdx
theorem szs_at {i : Nat} (hi : i < l.length) : lG (szs l f) i = upd1 (lG l i) 4 (f i) := by
  unfold szs lG
  rw [List.getD_eq_getElem?_getD, List.getElem?_mapIdx, List.getD_eq_getElem?_getD, List.getElem?_eq_getElem hi]
  rfl
theorem szs_4 {i : Nat} (hi : i < l.length) : lG (szs l f) i 4 = f i := by rw [szs_at hi, upd1_s]
theorem szs_o {i k : Nat} (hi : i < l.length) (hk : k ≠ 4) : lG (szs l f) i k = lG l i k := by rw [szs_at hi, upd1_n hk]
theorem szs_set {i : Nat} {v : Int} (hi : i < l.length) : (szs l f).set i (upd1 (lG (szs l f) i) 4 v) = szs l (fun j => if j = i then v else f j) := by
  refine lG_ext (by rw [List.length_set, szs_len, szs_len]) (fun j hj => ?_)
  rw [List.length_set, szs_len] at hj
  rw [lG_set (by rw [szs_len]; exact hi), szs_at hj, szs_at hi, szs_at hj]
  by_cases c : j = i
  · subst c; rw [if_pos rfl, if_pos rfl, upd1_2]
  · rw [if_neg c, if_neg c]
theorem szs_id : szs l (fun i => lG l i 4) = l := lG_ext szs_len (fun i hi => by rw [szs_len] at hi; rw [szs_at hi, upd1_id])
theorem szs_congr (h : ∀ i, i < l.length → f i = g i) : szs l f = szs l g := lG_ext (by rw [szs_len, szs_len]) (fun i hi => by rw [szs_len] at hi; rw [szs_at hi, szs_at hi, h i hi])
theorem szs_lOk (hl : lOk l) (hf : ∀ i, i < l.length → 0 ≤ f i ∧ f i ≤ 1000) : lOk (szs l f) := by
  refine ⟨by rw [szs_len]; exact hl.1, fun i hi => ?_⟩
  rw [szs_len] at hi
  have h := hl.2 i hi
  rw [szs_at hi]
  exact ⟨h.1, h.2.1, h.2.2.1, h.2.2.2.1, by rw [upd1_s]; exact hf i hi, h.2.2.2.2.2⟩
end SZ
/-- what is kept of a row: where the q-th order lies, and what becomes of the rest as it is set -/
theorem flt_gen {p : (Nat → Int) → Bool} : ∀ {L : List (Nat → Int)} {q : Nat}, q < L.length → p (lG L q) = true → ((L.take q).filter p).length < (L.filter p).length ∧ lG (L.filter p) ((L.take q).filter p).length = lG L q ∧ (∀ o, p o = true → (L.filter p).set ((L.take q).filter p).length o = (L.set q o).filter p) ∧ (∀ o, p o = false → (L.filter p).eraseIdx ((L.take q).filter p).length = (L.set q o).filter p) := by
  intro L
  induction L with
  | nil => intro q h; cases h
  | cons x t ih =>
    intro q hq hp
    cases q with
    | zero =>
      have hx : p x = true := hp
      have e : (List.take 0 (x :: t)).filter p = [] := rfl
      rw [e, List.filter_cons_of_pos hx]
      refine ⟨Nat.succ_pos _, rfl, fun o ho => ?_, fun o ho => ?_⟩
      · show o :: t.filter p = (o :: t).filter p
        rw [List.filter_cons_of_pos ho]
      · show t.filter p = (o :: t).filter p
        rw [List.filter_cons_of_neg (by rw [ho]; decide)]
    | succ q =>
      have hq' : q < t.length := by simpa using hq
      obtain ⟨h1, h2, h3, h4⟩ := ih hq' hp
      have e : List.take (q + 1) (x :: t) = x :: t.take q := rfl
      rw [e]
      by_cases hx : p x = true
      · rw [List.filter_cons_of_pos hx, List.filter_cons_of_pos hx]
        refine ⟨Nat.succ_lt_succ h1, h2, fun o ho => ?_, fun o ho => ?_⟩
        · show x :: (t.filter p).set _ o = (x :: t.set q o).filter p
          rw [List.filter_cons_of_pos hx, h3 o ho]
        · show x :: (t.filter p).eraseIdx _ = (x :: t.set q o).filter p
          rw [List.filter_cons_of_pos hx, h4 o ho]
      · rw [List.filter_cons_of_neg hx, List.filter_cons_of_neg hx]
        refine ⟨h1, h2, fun o ho => ?_, fun o ho => ?_⟩
        · show _ = (x :: t.set q o).filter p
          rw [List.filter_cons_of_neg hx, h3 o ho]
        · show _ = (x :: t.set q o).filter p
          rw [List.filter_cons_of_neg hx, h4 o ho]
theorem flt_all {p : (Nat → Int) → Bool} {L : List (Nat → Int)} (h : ∀ i, i < L.length → p (lG L i) = true) : L.filter p = L := by
  refine List.filter_eq_self.mpr (fun a ha => ?_)
  obtain ⟨j, hj, e⟩ := List.getElem_of_mem ha
  have := h j hj
  unfold lG at this
  rw [List.getD_eq_getElem?_getD, List.getElem?_eq_getElem hj] at this
  rw [← e]
  exact this
theorem flt_len {p : (Nat → Int) → Bool} {L : List (Nat → Int)} {q : Nat} (hq : q ≤ L.length) (h : ∀ i, i < q → p (lG L i) = true) : ((L.take q).filter p).length = q := by
  rw [flt_all (fun i hi => by rw [List.length_take] at hi; rw [lG_take (by omega)]; exact h i (by omega)), List.length_take]
  omega
/-- the rows of what is kept -/
theorem flt_in {p : (Nat → Int) → Bool} {L : List (Nat → Int)} {i : Nat} (hi : i < (L.filter p).length) : p (lG (L.filter p) i) = true ∧ ∃ j, j < L.length ∧ i ≤ j ∧ lG (L.filter p) i = lG L j := by
  induction L generalizing i with
  | nil => cases hi
  | cons x t ih =>
    by_cases hx : p x = true
    · rw [List.filter_cons_of_pos hx] at hi ⊢
      cases i with
      | zero => exact ⟨hx, 0, Nat.succ_pos _, Nat.le_refl _, rfl⟩
      | succ i =>
        obtain ⟨h1, j, h2, h3, h4⟩ := ih (i := i) (by simpa using hi)
        exact ⟨h1, j + 1, Nat.succ_lt_succ h2, Nat.succ_le_succ h3, h4⟩
    · rw [List.filter_cons_of_neg hx] at hi ⊢
      obtain ⟨h1, j, h2, h3, h4⟩ := ih hi
      exact ⟨h1, j + 1, Nat.succ_lt_succ h2, Nat.le_succ_of_le h3, h4⟩
/-- two rows of what is kept, in their order -/
theorem flt_two {p : (Nat → Int) → Bool} {L : List (Nat → Int)} {i k : Nat} (hik : i < k) (hk : k < (L.filter p).length) : ∃ a b, a < b ∧ b < L.length ∧ lG (L.filter p) i = lG L a ∧ lG (L.filter p) k = lG L b := by
  induction L generalizing i k with
  | nil => cases hk
  | cons x t ih =>
    by_cases hx : p x = true
    · rw [List.filter_cons_of_pos hx] at hk ⊢
      obtain ⟨k, rfl⟩ : ∃ q, k = q + 1 := ⟨k - 1, by omega⟩
      have hk' : k < (t.filter p).length := by simpa using hk
      cases i with
      | zero =>
        obtain ⟨-, j, h2, -, h4⟩ := flt_in hk'
        exact ⟨0, j + 1, by omega, Nat.succ_lt_succ h2, rfl, h4⟩
      | succ i =>
        obtain ⟨a, b, h1, h2, h3, h4⟩ := ih (i := i) (k := k) (by omega) hk'
        exact ⟨a + 1, b + 1, by omega, Nat.succ_lt_succ h2, h3, h4⟩
    · rw [List.filter_cons_of_neg hx] at hk ⊢
      obtain ⟨a, b, h1, h2, h3, h4⟩ := ih hik hk
      exact ⟨a + 1, b + 1, by omega, Nat.succ_lt_succ h2, h3, h4⟩
theorem flt_le {p : (Nat → Int) → Bool} {L : List (Nat → Int)} : (L.filter p).length ≤ L.length := List.length_filter_le _ _
theorem lOk.flt {l : List (Nat → Int)} {p : (Nat → Int) → Bool} (hl : lOk l) : lOk (l.filter p) := by
  refine ⟨Nat.le_trans flt_le hl.1, fun i hi => ?_⟩
  obtain ⟨-, j, h2, -, h4⟩ := flt_in hi
  rw [h4]
  exact hl.2 j h2
theorem nInc.flt {l : List (Nat → Int)} {p : (Nat → Int) → Bool} (hl : nInc l) : nInc (l.filter p) := by
  intro i j hij hj
  obtain ⟨a, b, h1, h2, h3, h4⟩ := flt_two hij hj
  rw [h3, h4]
  exact hl a b h1 h2
theorem nInc.szs {l : List (Nat → Int)} {f : Nat → Int} (hl : nInc l) : nInc (szs l f) := by
  intro i j hij hj
  rw [szs_len] at hj
  rw [szs_o (by omega) (by decide), szs_o hj (by decide)]
  exact hl i j hij hj
theorem kp_pos {l : List (Nat → Int)} : ∀ j, j < (l.filter aKp).length → 0 < lG (l.filter aKp) j 4 := fun j hj => of_decide_eq_true (flt_in hj).1
/-! tops behind a sweep -/
theorem upd1_c {T : Nat → Int} {j k : Nat} {v w : Int} (h : j ≠ k) : upd1 (upd1 T j v) k w = upd1 (upd1 T k w) j v := by
  funext i
  unfold upd1
  by_cases a : i = k
  · rw [if_pos a, if_neg (by omega), if_pos a]
  · rw [if_neg a, if_neg a]
theorem aLap_2 {T : Nat → Int} {s : Nat} : aLap (aLap T s) s = aLap T s := by
  funext j
  unfold aLap upd1
  repeat' split
  all_goals first | rfl | omega
theorem aLap_c {T : Nat → Int} : aLap (aLap T 0) 1 = aLap (aLap T 1) 0 := by
  funext j
  unfold aLap upd1
  repeat' split
  all_goals first | rfl | omega
theorem aGo_comm {T a b : Nat → Int} (ha : 1 ≤ a 0) (hb : 1 ≤ b 0) (sa : a 2 = 0 ∨ a 2 = 1) (sb : b 2 = 0 ∨ b 2 = 1) : aGo (aGo T a) b = aGo (aGo T b) a := by
  have l6 : ∀ (T : Nat → Int) (s t : Nat), s < 2 → t < 2 → aLap T s (6 + t) = if t = s then -1 else T (6 + t) := by
    intro T s t hs ht
    unfold aLap
    rw [upd1_n (by omega)]
    unfold upd1
    by_cases e : t = s
    · rw [if_pos (by omega), if_pos e]
    · rw [if_neg (by omega), if_neg e]
  have qa : (a 2).toNat < 2 := by omega
  have qb : (b 2).toNat < 2 := by omega
  unfold aGo
  generalize (a 2).toNat = s at *
  generalize (b 2).toNat = t at *
  by_cases c1 : T (6 + s) = a 0
  · rw [if_pos c1]
    by_cases c2 : T (6 + t) = b 0
    · rw [if_pos c2, l6 T s t qa qb, l6 T t s qb qa]
      by_cases e : t = s
      · subst e
        rw [if_pos rfl, if_neg (by omega), if_neg (by omega)]
      · rw [if_neg e, if_pos c2, if_neg (Ne.symm e), if_pos c1]
        have h2 : (s = 0 ∧ t = 1) ∨ (s = 1 ∧ t = 0) := by omega
        rcases h2 with ⟨rfl, rfl⟩ | ⟨rfl, rfl⟩
        · exact aLap_c
        · exact aLap_c.symm
    · rw [if_neg c2, if_pos c1, l6 T s t qa qb]
      by_cases e : t = s
      · rw [if_pos e, if_neg (by omega)]
      · rw [if_neg e, if_neg c2]
  · rw [if_neg c1]
    by_cases c2 : T (6 + t) = b 0
    · rw [if_pos c2, l6 T t s qb qa]
      by_cases e : s = t
      · rw [if_pos e, if_neg (by omega)]
      · rw [if_neg e, if_neg c1]
    · rw [if_neg c2, if_neg c1]
/-- numbers and sides of orders -/
def oNs (o : Nat → Int) : Prop := 1 ≤ o 0 ∧ (o 2 = 0 ∨ o 2 = 1)
theorem oOk.ns {o : Nat → Int} (h : oOk o) : oNs o := ⟨h.1.1, h.2.2.1⟩
theorem aSw_go {a : Nat → Int} (ha : oNs a) : ∀ {L : List (Nat → Int)} {T : Nat → Int}, (∀ i, i < L.length → oNs (lG L i)) → aSw (aGo T a) L = aGo (aSw T L) a := by
  intro L
  induction L with
  | nil => intro T _; rfl
  | cons o t ih =>
    intro T h
    have h0 : oNs o := h 0 (by simp)
    have ht : ∀ i, i < t.length → oNs (lG t i) := fun i hi => h (i + 1) (by simpa using hi)
    show aSw (aSwF (aGo T a) o) t = aGo (aSw (aSwF T o) t) a
    rw [← ih ht]
    congr 1
    unfold aSwF
    split
    · rfl
    · exact aGo_comm ha.1 h0.1 ha.2 h0.2
theorem aGo_4 {T o : Nat → Int} {v : Int} : aGo T (upd1 o 4 v) = aGo T o := rfl
theorem aSw_set {L : List (Nat → Int)} {T : Nat → Int} {q : Nat} {v : Int} (hq : q < L.length) (h : ∀ i, i < L.length → oNs (lG L i)) (h0 : 0 < lG L q 4) : aSw T (L.set q (upd1 (lG L q) 4 v)) = if 0 < v then aSw T L else aGo (aSw T L) (lG L q) := by
  induction L generalizing T q with
  | nil => cases hq
  | cons o t ih =>
    have ht : ∀ i, i < t.length → oNs (lG t i) := fun i hi => h (i + 1) (by simpa using hi)
    cases q with
    | zero =>
      have ho : oNs o := h 0 (by simp)
      show aSw (aSwF T (upd1 o 4 v)) t = if 0 < v then aSw (aSwF T o) t else aGo (aSw (aSwF T o) t) o
      have e : aSwF T o = T := if_pos h0
      rw [e]
      unfold aSwF
      rw [upd1_s]
      by_cases c : 0 < v
      · rw [if_pos c, if_pos c]
      · rw [if_neg c, if_neg c, aGo_4, aSw_go ho ht]
    | succ q =>
      show aSw (aSwF T o) (t.set q (upd1 (lG t q) 4 v)) = if 0 < v then aSw (aSwF T o) t else aGo (aSw (aSwF T o) t) (lG t q)
      exact ih (by simpa using hq) ht h0
/-- tops U beside all else R -/
def mixT (U R : Nat → Int) (j : Nat) : Int := if 6 ≤ j ∧ j ≤ 9 then U j else R j
theorem mixT_u {U R : Nat → Int} {j : Nat} (h : 6 ≤ j ∧ j ≤ 9) : mixT U R j = U j := if_pos h
theorem mixT_r {U R : Nat → Int} {j : Nat} (h : ¬ (6 ≤ j ∧ j ≤ 9)) : mixT U R j = R j := if_neg h
theorem aLap_mix {U R : Nat → Int} {s : Nat} (hs : s < 2) : aLap (mixT U R) s = mixT (aLap U s) R := by
  funext j
  unfold aLap
  by_cases a : j = 8 + s
  · subst a; rw [upd1_s, mixT_u (by omega), upd1_s]
  · rw [upd1_n a]
    by_cases b : j = 6 + s
    · subst b; rw [upd1_s, mixT_u (by omega), upd1_n (by omega), upd1_s]
    · rw [upd1_n b]
      unfold mixT
      split
      · rw [upd1_n a, upd1_n b]
      · rfl
theorem aGo_mix {U R o : Nat → Int} (ho : oNs o) : aGo (mixT U R) o = mixT (aGo U o) R := by
  have hs := ho.2
  unfold aGo
  rw [mixT_u (by omega)]
  split
  · exact aLap_mix (by omega)
  · rfl
theorem aSw_mix {R : Nat → Int} : ∀ {L : List (Nat → Int)} {U : Nat → Int}, (∀ i, i < L.length → oNs (lG L i)) → aSw (mixT U R) L = mixT (aSw U L) R := by
  intro L
  induction L with
  | nil => intro U _; rfl
  | cons o t ih =>
    intro U h
    have h0 : oNs o := h 0 (by simp)
    have ht : ∀ i, i < t.length → oNs (lG t i) := fun i hi => h (i + 1) (by simpa using hi)
    show aSw (aSwF (mixT U R) o) t = mixT (aSw (aSwF U o) t) R
    rw [← ih ht]
    congr 1
    unfold aSwF
    split
    · rfl
    · exact aGo_mix h0
theorem aSw_all {T : Nat → Int} {L : List (Nat → Int)} (h : ∀ i, i < L.length → 0 < lG L i 4) : aSw T L = T := aSw_pos h
/-- two tops that agree stay so -/
theorem mixT_eq {U U' R : Nat → Int} (h : ∀ j, 6 ≤ j → j ≤ 9 → U j = U' j) : mixT U R = mixT U' R := by
  funext j
  unfold mixT
  split
  · exact h j (by omega) (by omega)
  · rfl
