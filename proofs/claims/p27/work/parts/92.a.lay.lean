/-! MACHINE: a layout and a memory out of a list of cells -/
theorem find_nd {α : Type} (k : α → Nat) : ∀ (L : List α), (L.map k).Nodup → ∀ x ∈ L, L.find? (fun y => k y == k x) = some x
  | [], _, x, hx => absurd hx List.not_mem_nil
  | y :: L, h, x, hx => by
    rw [List.map_cons, List.nodup_cons] at h
    rcases List.mem_cons.mp hx with e | e
    · subst e
      simp
    · have hne : ¬ k y = k x := fun q => h.1 (by rw [q]; exact List.mem_map_of_mem e)
      rw [List.find?_cons, show (k y == k x) = false from by simp [hne]]
      exact find_nd k L h.2 x e
theorem va_D.nd {A : Nat → Prop} {W : va_W} (h : va_D A W) : (W.map Prod.fst).Nodup := by
  unfold List.Nodup
  rw [List.pairwise_iff_getElem]
  intro i j hi hj hij e
  have hi' : i < W.length := by simpa using hi
  have hj' : j < W.length := by simpa using hj
  have := h.1 i j W[i] W[j] (List.getElem?_eq_getElem hi') (List.getElem?_eq_getElem hj') (by simpa using e)
  omega
theorem va_D.l {A : Nat → Prop} {X Y : va_W} (h : va_D A (X ++ Y)) : va_D A X := by
  have up : ∀ (k : Nat) (q : Nat × va_E), X[k]? = some q → (X ++ Y)[k]? = some q := fun k q hq => by
    rw [List.getElem?_append_left (List.getElem?_eq_some_iff.mp hq).1]; exact hq
  exact ⟨fun i j p q hp hq e => h.1 i j p q (up i p hp) (up j q hq) e, fun k q hq => h.2 k q (up k q hq)⟩
theorem va_D.r {A : Nat → Prop} {X Y : va_W} (h : va_D A (X ++ Y)) : va_D A Y := by
  have up : ∀ (k : Nat) (q : Nat × va_E), Y[k]? = some q → (X ++ Y)[X.length + k]? = some q := fun k q hq => by
    rw [List.getElem?_append_right (Nat.le_add_right _ _), Nat.add_sub_cancel_left]; exact hq
  exact ⟨fun i j p q hp hq e => by have := h.1 _ _ p q (up i p hp) (up j q hq) e; omega, fun k q hq => h.2 _ q (up k q hq)⟩
def nAt (W : va_W) (a : Nat) : Option va_E := (W.find? (fun q => q.1 == a)).map Prod.snd
theorem nAt_in {A : Nat → Prop} {W : va_W} (h : va_D A W) {a : Nat} {e : va_E} (hm : (a, e) ∈ W) : nAt W a = some e := by
  unfold nAt
  rw [find_nd Prod.fst W h.nd (a, e) hm]
  rfl
theorem nAt_of {W : va_W} {a : Nat} {e : va_E} (h : nAt W a = some e) : (a, e) ∈ W := by
  unfold nAt at h
  cases hf : W.find? (fun q => q.1 == a) with
  | none => rw [hf] at h; cases h
  | some q =>
    rw [hf] at h
    have h1 := List.find?_some hf
    have h2 := List.mem_of_find?_eq_some hf
    have h3 : q.1 = a := by simpa using h1
    have h4 : q.2 = e := Option.some.inj h
    rw [← h3, ← h4]
    exact h2
def nKe (c2 c4 : ClassId) : va_E → Nat
  | .inr (ci, _) => ci + 1
  | .inl (c, n, .inl _) => if c = c2 then 2000 + n else 1000 + n
  | .inl (_, n, .inr (.inl _)) => 3000 + n
  | .inl (c, n, .inr (.inr _)) => if c = c4 then 4000 + n else 5000 + n
def nFv (f : Nat) : va_E → Value
  | .inr (ci, fs) => match ((qF ci).zip fs).find? (fun q => q.1.2 == f) with | some q => q.2 | none => .null
  | .inl _ => .null
def vR : Value → Nat
  | .ref b => b
  | _ => 0
def vI : Value → Int
  | .int x => x.toInt
  | .long x => x.toInt
  | _ => 0
def eA : va_E → Nat → Int
  | .inl (_, _, .inl g) => fun i => (g i).toInt
  | .inl (_, _, .inr (.inl g)) => fun i => (g i).toInt
  | _ => fun _ => 0
def eQ : va_E → Nat → Option Nat
  | .inl (_, _, .inr (.inr (.inr (.inr g)))) => g
  | _ => fun _ => none
def nG (c1 c2 c3 c4 c5 : ClassId) (D : va_G) (s v : Nat → Nat) (W : va_W) : qG :=
  (fun a => match nAt W a with | some e => nKe c2 c4 e | none => 0, fun f a => match nAt W a with | some e => vR (nFv f e) | none => 0, W.map Prod.fst, D, (c1, c2, c3, c4, c5), s, v)
def nM (W : va_W) : qM :=
  (fun f a => match nAt W a with | some e => vI (nFv f e) | none => 0, fun a i => match nAt W a with | some e => eA e i | none => 0, fun a i => match nAt W a with | some e => eQ e i | none => none)
section NG
variable {A : Nat → Prop} {c1 c2 c3 c4 c5 : ClassId} {D : va_G} {s v : Nat → Nat} {W : va_W} {a : Nat} {e : va_E}
theorem nG_K (h : va_D A W) (hm : (a, e) ∈ W) : gK (nG c1 c2 c3 c4 c5 D s v W) a = nKe c2 c4 e := by
  show (match nAt W a with | some e => nKe c2 c4 e | none => 0) = _
  rw [nAt_in h hm]
theorem nG_R (h : va_D A W) (hm : (a, e) ∈ W) (f : Nat) : gR (nG c1 c2 c3 c4 c5 D s v W) f a = vR (nFv f e) := by
  show (match nAt W a with | some e => vR (nFv f e) | none => 0) = _
  rw [nAt_in h hm]
theorem nM_I (h : va_D A W) (hm : (a, e) ∈ W) (f : Nat) : gI (nM W) f a = vI (nFv f e) := by
  show (match nAt W a with | some e => vI (nFv f e) | none => 0) = _
  rw [nAt_in h hm]
theorem nM_A (h : va_D A W) (hm : (a, e) ∈ W) (i : Nat) : gA (nM W) a i = eA e i := by
  show (match nAt W a with | some e => eA e i | none => 0) = _
  rw [nAt_in h hm]
theorem nM_Q (h : va_D A W) (hm : (a, e) ∈ W) (i : Nat) : gQ (nM W) a i = eQ e i := by
  show (match nAt W a with | some e => eQ e i | none => none) = _
  rw [nAt_in h hm]
end NG
/-! which cells are well made -/
def okV (q : Nat × Nat) (v : Value) : Bool := match q.1, v with
  | 0, .int x => !(q.2 == 816) && ((!(q.2 == 207) && !(q.2 == 607)) || decide (x = 0))
  | 1, .ref _ => true
  | 2, .long _ => q.2 == 816
  | _, _ => false
def okFs : List (Nat × Nat) → List Value → Bool
  | [], [] => true
  | q :: l, v :: fs => okV q v && okFs l fs
  | _, _ => false
theorem okFs_len : ∀ {l : List (Nat × Nat)} {fs : List Value}, okFs l fs = true → l.length = fs.length
  | [], [], _ => rfl
  | _ :: l, _ :: fs, h => by
    have := okFs_len (l := l) (fs := fs) (by unfold okFs at h; exact (Bool.and_eq_true_iff.mp h).2)
    simp [this]
  | [], _ :: _, h => by cases h
  | _ :: _, [], h => by cases h
theorem okFs_at : ∀ {l : List (Nat × Nat)} {fs : List Value}, okFs l fs = true → ∀ {j : Nat} {q : Nat × Nat} {v : Value}, l[j]? = some q → fs[j]? = some v → okV q v = true
  | [], [], _, j, q, v, h1, _ => by simp at h1
  | x :: l, y :: fs, h, j, q, v, h1, h2 => by
    unfold okFs at h
    have hh := Bool.and_eq_true_iff.mp h
    cases j with
    | zero =>
      simp only [List.getElem?_cons_zero, Option.some.injEq] at h1 h2
      subst h1; subst h2
      exact hh.1
    | succ j =>
      rw [List.getElem?_cons_succ] at h1 h2
      exact okFs_at hh.2 h1 h2
  | [], _ :: _, h, _, _, _, _, _ => by cases h
  | _ :: _, [], h, _, _, _, _, _ => by cases h
def eOk (c1 c2 c3 c4 c5 : ClassId) : va_E → Prop
  | .inr (ci, fs) => ci < 9 ∧ okFs (qF ci) fs = true
  | .inl (c, n, .inl g) => n < 1000 ∧ (c = c1 ∨ (c = c2 ∧ ∀ i, -128 ≤ (g i).toInt ∧ (g i).toInt ≤ 127))
  | .inl (c, n, .inr (.inl _)) => n < 1000 ∧ c = c3
  | .inl (c, n, .inr (.inr (.inr (.inr _)))) => n < 1000 ∧ (c = c4 ∨ c = c5)
  | _ => False
/-- the references of a cell lead where they should -/
def rOk (c2 c4 : ClassId) (W : va_W) (e : va_E) : Prop := ∀ t ∈ qRefs, nKe c2 c4 e = t.1 → ∃ e', (vR (nFv t.2.1 e), e') ∈ W ∧ nKe c2 c4 e' = t.2.2
theorem rOk_arr {c2 c4 : ClassId} {W : va_W} {x : ClassId × vp_A} : rOk c2 c4 W (.inl x) := by
  intro t ht hk
  have h9 : ∀ t ∈ qRefs, t.1 < 1000 := by decide +kernel
  have := h9 t ht
  obtain ⟨c, n, g⟩ := x
  exfalso
  rcases g with g | g | g
  · have hk : (if c = c2 then 2000 + n else 1000 + n) = t.1 := hk
    split at hk <;> omega
  · have hk : 3000 + n = t.1 := hk
    omega
  · have hk : (if c = c4 then 4000 + n else 5000 + n) = t.1 := hk
    split at hk <;> omega
theorem rOk_obj {c2 c4 : ClassId} {W : va_W} {ci : Nat} {fs : List Value} {l : List (Nat × Nat × Nat)} (hl : qRefs.filter (fun t => t.1 == ci + 1) = l) (h : ∀ t ∈ l, ∃ e', (vR (nFv t.2.1 (.inr (ci, fs))), e') ∈ W ∧ nKe c2 c4 e' = t.2.2) : rOk c2 c4 W (.inr (ci, fs)) := by
  intro t ht hk
  refine h t ?_
  rw [← hl]
  exact List.mem_filter.mpr ⟨ht, by have : ci + 1 = t.1 := hk; simp [this]⟩
theorem zip_nd {l : List (Nat × Nat)} {fs : List Value} (hl : l.length = fs.length) (hn : (l.map Prod.snd).Nodup) : ((l.zip fs).map (fun q => q.1.2)).Nodup := by
  have e : (l.zip fs).map (fun q => q.1.2) = l.map Prod.snd := by
    rw [show (fun q : (Nat × Nat) × Value => q.1.2) = Prod.snd ∘ Prod.fst from rfl, ← List.map_map, List.map_fst_zip (by omega)]
  rw [e]
  exact hn
theorem nFv_at {ci : Nat} {fs : List Value} (hc : ci < 9) (hk : okFs (qF ci) fs = true) {j : Nat} {q : Nat × Nat} {v : Value} (h1 : (qF ci)[j]? = some q) (h2 : fs[j]? = some v) : nFv q.2 (.inr (ci, fs)) = v := by
  have hz : ((qF ci).zip fs)[j]? = some (q, v) := by rw [List.getElem?_zip_eq_some]; exact ⟨h1, h2⟩
  have hf := find_nd (fun x : (Nat × Nat) × Value => x.1.2) ((qF ci).zip fs) (zip_nd (okFs_len hk) (qF_nd ci hc)) (q, v) (List.mem_of_getElem? hz)
  exact congrArg (fun z : Option ((Nat × Nat) × Value) => match z with | some q => q.2 | none => Value.null) hf
theorem qrf_0 (f : Nat) : qrf f 0 := by
  unfold qrf
  split
  · exact ⟨by omega, by omega⟩
  · split
    · exact Or.inl rfl
    · split
      · exact Or.inl rfl
      · exact ⟨by omega, by omega⟩
theorem qra_0 (k : Nat) : qra k 0 := by
  unfold qra
  split
  · exact ⟨by omega, by omega⟩
  · exact ⟨by omega, by omega⟩
  · exact ⟨by omega, by omega⟩
theorem okV_qrf {q : Nat × Nat} {v : Value} (h : okV q v = true) : qrf q.2 (vI v) := by
  obtain ⟨t, f⟩ := q
  unfold okV at h
  split at h
  · rename_i x _
    simp only [Bool.and_eq_true, Bool.not_eq_true', beq_eq_false_iff_ne, Bool.or_eq_true, decide_eq_true_eq] at h
    obtain ⟨h1, h2⟩ := h
    rcases h2 with h2 | h2
    rotate_left
    · subst h2
      exact qrf_0 f
    · show qrf f x.toInt
      unfold qrf
      rw [show Nat.beq f 816 = false from by cases h9 : Nat.beq f 816 with | false => rfl | true => exact absurd (Nat.eq_of_beq_eq_true h9) h1, show Nat.beq f 207 = false from by cases h9 : Nat.beq f 207 with | false => rfl | true => exact absurd (Nat.eq_of_beq_eq_true h9) h2.1, show Nat.beq f 607 = false from by cases h9 : Nat.beq f 607 with | false => rfl | true => exact absurd (Nat.eq_of_beq_eq_true h9) h2.2]
      exact in32_of x
  · exact qrf_0 f
  · rename_i x _
    have h1 : f = 816 := by simpa using h
    subst h1
    exact in64_of x
  · cases h
section NW
variable {A : Nat → Prop} {c1 c2 c3 c4 c5 : ClassId} {D : va_G} {s v : Nat → Nat} {W : va_W} {a : Nat} {e : va_E}
theorem nE (hne : c1 ≠ c2) (hne5 : c5 ≠ c4) (h : va_D A W) (hm : (a, e) ∈ W) (he : eOk c1 c2 c3 c4 c5 e) : qE (nG c1 c2 c3 c4 c5 D s v W) (nM W) a = e := by
  have hK := nG_K (c1 := c1) (c2 := c2) (c3 := c3) (c4 := c4) (c5 := c5) (D := D) (s := s) (v := v) h hm
  match e, he with
  | .inr (ci, fs), he =>
    rw [qE_obj hK he.1]
    congr 2
    apply List.ext_getElem?
    intro j
    rw [List.getElem?_map]
    cases hq : (qF ci)[j]? with
    | none =>
      rw [List.getElem?_eq_none (by rw [← okFs_len he.2]; exact List.getElem?_eq_none_iff.mp hq)]
      rfl
    | some q =>
      have hj : j < fs.length := by rw [← okFs_len he.2]; exact (List.getElem?_eq_some_iff.mp hq).1
      have hv : fs[j]? = some fs[j] := List.getElem?_eq_getElem hj
      have hf := nFv_at he.1 he.2 hq hv
      have ho := okFs_at he.2 hq hv
      rw [hv]
      generalize fs[j] = w at hv hf ho
      show some _ = some _
      congr 1
      obtain ⟨t, f⟩ := q
      have hI : gI (nM W) f a = vI w := by rw [nM_I h hm, hf]
      have hRr : gR (nG c1 c2 c3 c4 c5 D s v W) f a = vR w := by rw [nG_R h hm, hf]
      unfold okV at ho
      split at ho
      · rename_i x ht
        have ht' : t = 0 := ht
        subst ht'
        show Value.int (iZ (gI (nM W) f a)) = _
        rw [hI]
        show Value.int (iZ x.toInt) = _
        rw [iZ_of]
      · rename_i x ht
        have ht' : t = 1 := ht
        subst ht'
        show Value.ref (gR (nG c1 c2 c3 c4 c5 D s v W) f a) = _
        rw [hRr]
        rfl
      · rename_i x ht
        have ht' : t = 2 := ht
        subst ht'
        show Value.long (lZ (gI (nM W) f a)) = _
        rw [hI]
        show Value.long (lZ x.toInt) = _
        rw [lZ_of]
      · cases ho
  | .inl (c, n, .inl g), he =>
    have hA : ∀ i, gA (nM W) a i = (g i).toInt := fun i => nM_A h hm i
    obtain ⟨hn, hc⟩ := he
    rcases hc with rfl | ⟨rfl, -⟩
    · have hK : gK (nG c c2 c3 c4 c5 D s v W) a = 1000 + n := hK.trans (if_neg hne)
      rw [qE_int hK hn]
      congr 4
      funext i
      rw [hA, iZ_of]
    · have hK : gK (nG c1 c c3 c4 c5 D s v W) a = 2000 + n := hK.trans (if_pos rfl)
      rw [qE_byte hK hn]
      congr 4
      funext i
      rw [hA, iZ_of]
  | .inl (c, n, .inr (.inl g)), he =>
    have hA : ∀ i, gA (nM W) a i = (g i).toInt := fun i => nM_A h hm i
    obtain ⟨hn, rfl⟩ := he
    have hK : gK (nG c1 c2 c c4 c5 D s v W) a = 3000 + n := hK
    rw [qE_long hK hn]
    congr 5
    funext i
    rw [hA, lZ_of]
  | .inl (c, n, .inr (.inr (.inr (.inr g)))), he =>
    have hQ : gQ (nM W) a = g := funext fun i => nM_Q h hm i
    obtain ⟨hn, hc⟩ := he
    rcases hc with rfl | rfl
    · have hK : gK (nG c1 c2 c3 c c5 D s v W) a = 4000 + n := hK.trans (if_pos rfl)
      rw [qE_ord hK hn, hQ]
      rfl
    · have hK : gK (nG c1 c2 c3 c4 c D s v W) a = 5000 + n := hK.trans (if_neg hne5)
      rw [qE_row hK hn, hQ]
      rfl
theorem nT (h : va_D A W) (hr : ∀ q ∈ W, rOk c2 c4 W q.2) : qT (nG c1 c2 c3 c4 c5 D s v W) := by
  constructor
  · intro t ht a ha
    have h0 : ∀ t ∈ qRefs, t.1 ≠ 0 := by decide +kernel
    have ha' : (match nAt W a with | some e => nKe c2 c4 e | none => 0) = t.1 := ha
    cases hq : nAt W a with
    | none => rw [hq] at ha'; exact absurd ha'.symm (h0 t ht)
    | some e =>
      rw [hq] at ha'
      have hm := nAt_of hq
      obtain ⟨e', h1, h2⟩ := hr _ hm t ht ha'
      rw [nG_R h hm, nG_K h h1]
      exact h2
  · intro a ha
    have ha' : (match nAt W a with | some e => nKe c2 c4 e | none => 0) ≠ 0 := ha
    cases hq : nAt W a with
    | none => rw [hq] at ha'; exact absurd rfl ha'
    | some e => exact List.mem_map_of_mem (nAt_of hq)
theorem nR (hne : c1 ≠ c2) (h : va_D A W) (he : ∀ q ∈ W, eOk c1 c2 c3 c4 c5 q.2) : qR (nG c1 c2 c3 c4 c5 D s v W) (nM W) := by
  constructor
  · intro f a
    show qrf f (match nAt W a with | some e => vI (nFv f e) | none => 0)
    cases hq : nAt W a with
    | none => exact qrf_0 f
    | some e =>
      have ho := he _ (nAt_of hq)
      match e, ho with
      | .inl x, _ => exact qrf_0 f
      | .inr (ci, fs), ho =>
        show qrf f (vI (match ((qF ci).zip fs).find? (fun q => q.1.2 == f) with | some q => q.2 | none => .null))
        cases hz : ((qF ci).zip fs).find? (fun q => q.1.2 == f) with
        | none => exact qrf_0 f
        | some q =>
          obtain ⟨q, w⟩ := q
          have h1 := List.find?_some hz
          have h2 := List.mem_of_find?_eq_some hz
          have h3 : q.2 = f := by simpa using h1
          obtain ⟨j, hj⟩ := List.getElem?_of_mem h2
          rw [List.getElem?_zip_eq_some] at hj
          have h4 := okV_qrf (okFs_at ho.2 hj.1 hj.2)
          rw [h3] at h4
          exact h4
  · intro a i
    show qra (match nAt W a with | some e => nKe c2 c4 e | none => 0) (match nAt W a with | some e => eA e i | none => 0)
    cases hq : nAt W a with
    | none => exact qra_0 0
    | some e =>
      have ho := he _ (nAt_of hq)
      match e, ho with
      | .inr (ci, fs), _ => exact qra_0 _
      | .inl (c, n, .inl g), ho =>
        obtain ⟨hn, hc⟩ := ho
        show qra (if c = c2 then 2000 + n else 1000 + n) (g i).toInt
        rcases hc with rfl | ⟨rfl, hb⟩
        · rw [if_neg hne]
          unfold qra
          rw [show (1000 + n) / 1000 = 1 by omega]
          exact in32_of _
        · rw [if_pos rfl]
          unfold qra
          rw [show (2000 + n) / 1000 = 2 by omega]
          exact hb i
      | .inl (c, n, .inr (.inl g)), ho =>
        show qra (3000 + n) (g i).toInt
        unfold qra
        rw [show (3000 + n) / 1000 = 3 by have := ho.1; omega]
        exact in64_of _
      | .inl (c, n, .inr (.inr (.inr (.inr g)))), ho => exact qra_0 _
theorem nWd (hne : c1 ≠ c2) (hne5 : c5 ≠ c4) (h : va_D A W) (he : ∀ q ∈ W, eOk c1 c2 c3 c4 c5 q.2) {H : Heap} (hP : va_P D vwCl W H) : qW (nG c1 c2 c3 c4 c5 D s v W) (nM W) H := by
  have e1 : va_pl (gL (nG c1 c2 c3 c4 c5 D s v W)) (qE (nG c1 c2 c3 c4 c5 D s v W) (nM W)) = W := by
    show (W.map Prod.fst).map _ = W
    rw [List.map_map]
    conv => rhs; rw [← List.map_id W]
    apply List.map_congr_left
    intro q hq
    show (q.1, qE _ _ q.1) = q
    rw [nE hne hne5 h hq (he q hq)]
  exact ⟨by rw [e1]; exact hP, by rw [e1]; exact h.weaken (fun _ _ _ _ => trivial)⟩
end NW
theorem n_role {L : List (Nat × (Nat × Nat))} (h : (L.map Prod.fst).Nodup) : ∃ ρ : Nat → Nat × Nat, ∀ q ∈ L, ρ q.1 = q.2 := by
  refine ⟨fun a => match L.find? (fun q => q.1 == a) with | some q => q.2 | none => (0, 0), fun q hq => ?_⟩
  show (match L.find? (fun y => y.1 == q.1) with | some q => q.2 | none => (0, 0)) = q.2
  rw [find_nd Prod.fst L h q hq]
