/-! MACHINE: the law from its entry: the market, and the arrays on its way -/
theorem va_D.at {A : Nat → Prop} {W : va_W} (h : va_D A W) {a : Nat} (ha : a ∈ W.map Prod.fst) : A a := by
  obtain ⟨q, hq, rfl⟩ := List.mem_map.mp ha
  obtain ⟨k, hk⟩ := List.getElem?_of_mem hq
  exact h.2 k q hk
theorem va_D.ne {A : Nat → Prop} {X Z : va_W} (h : va_D A (X ++ Z)) {a : Nat} (h1 : a ∈ X.map Prod.fst) (h2 : a ∈ Z.map Prod.fst) : False := by
  have n := h.nd
  rw [List.map_append, List.nodup_append] at n
  exact n.2.2 a h1 a h2 rfl
theorem va_D.cat {A : Nat → Prop} {X Z : va_W} (h1 : va_D A X) (h2 : va_D A Z) (h : ∀ a, a ∈ X.map Prod.fst → a ∉ Z.map Prod.fst) : va_D A (X ++ Z) := by
  have mem : ∀ {V : va_W} {k : Nat} {q : Nat × va_E}, V[k]? = some q → q.1 ∈ V.map Prod.fst := fun h => List.mem_map_of_mem (List.mem_of_getElem? h)
  refine ⟨fun i j p q hp hq e => ?_, fun k q hk => ?_⟩
  · by_cases ci : i < X.length
    · rw [List.getElem?_append_left ci] at hp
      by_cases cj : j < X.length
      · rw [List.getElem?_append_left cj] at hq
        exact h1.1 i j p q hp hq e
      · rw [List.getElem?_append_right (by omega)] at hq
        exact absurd (mem hq) (e ▸ h _ (mem hp))
    · rw [List.getElem?_append_right (by omega)] at hp
      by_cases cj : j < X.length
      · rw [List.getElem?_append_left cj] at hq
        exact absurd (mem hp) (e ▸ h _ (mem hq))
      · rw [List.getElem?_append_right (by omega)] at hq
        have := h2.1 _ _ p q hp hq e
        omega
  · by_cases c : k < X.length
    · rw [List.getElem?_append_left c] at hk
      exact h1.2 k q hk
    · rw [List.getElem?_append_right (by omega)] at hk
      exact h2.2 _ q hk
theorem k_ty {U : State} {c : ClassId} {t1 t2 : FieldType} (h1 : ArrOfT U c t1) (h2 : ArrOfT U c t2) : t1 = t2 := by
  obtain ⟨-, k1, a1, p1, b1⟩ := h1 0 (fun _ => .null)
  obtain ⟨-, k2, a2, p2, b2⟩ := h2 0 (fun _ => .null)
  have e : k1 = k2 := Option.some.inj (a1.symm.trans a2)
  rw [e] at b1
  rw [b1] at b2
  cases b2
  rfl
theorem n_len {n : Nat} (h : 1 ≤ n ∧ n ≤ 8) : ¬ iZ (n : Int) < 0 ∧ (iZ (n : Int)).toNatClampNeg = n := by
  rcases (show n = 1 ∨ n = 2 ∨ n = 3 ∨ n = 4 ∨ n = 5 ∨ n = 6 ∨ n = 7 ∨ n = 8 by omega) with rfl | rfl | rfl | rfl | rfl | rfl | rfl | rfl <;> exact ⟨by decide +kernel, by decide +kernel⟩
theorem va_pl_fst {X : List Nat} {f : Nat → va_E} : (va_pl X f).map Prod.fst = X := by
  unfold va_pl
  rw [List.map_map]
  exact (List.map_congr_left (fun _ _ => rfl)).trans (List.map_id X)
section START
variable {p : Program} {l : Launch} {e : Env} {s : State} {m : MethodId} {below : List Frame} {meth : Method} {c : Code} {b L : Nat} {xs : Nat → Int32} {ρ : Nat → Nat × Nat} {x : Nat} {sa : Nat × Nat × Nat} {G7 G8 : qG} {D : va_G} {c1 c2 c3 c4 c5 : ClassId} {N : Nat} {Ω : oB}
/-- the law's own arrays as a world -/
abbrev n8 (c1 c2 c3 c4 c5 : ClassId) (D : va_G) (W : va_W) : qG := nG c1 c2 c3 c4 c5 D (fun _ => 0) (fun _ => 0) W
theorem yF.re {W8 : va_W} (hF : yF (p, l, e, s, m, below, meth, c, b, G7, G8) L xs ρ x sa) (eD : gD G7 = D) (hK : va_K D vwCl [(c1, .int), (c2, .byte), (c3, .long), (c4, .object RX4), (c5, .array .int)] s) (hD : va_D (fun q => s.heap.size ≤ q) W8) (ok : ∀ q ∈ W8, rOk c2 c4 W8 q.2) (h78 : ∀ q, q ∈ gL G7 → q ∉ W8.map Prod.fst) :
    yF (p, l, e, s, m, below, meth, c, b, G7, n8 c1 c2 c3 c4 c5 D W8) L xs ρ x sa := by
  obtain ⟨C0, hL, hst, X7, X8, hx, d7, d8, e78⟩ := hF
  obtain ⟨a1, a2, a3, a4, a5, a6, a7, a8, a9, k, t, z⟩ := X8
  exact ⟨C0, hL, hst, X7, ⟨a1, a2, a3, a4, a5, a6, a7, a8, a9, hK, nT hD ok, z⟩, hx, fun q h => ⟨(d7 q h).1, h78 q h⟩, fun q h => hD.at h, eD⟩
abbrev row0 (c1 : ClassId) (n : Nat) : va_E := .inl (c1, (n, .inl (fun _ => 0)))
abbrev out3 (c5 : ClassId) (r : Nat → Nat) : va_E := .inl (c5, (3, .inr (.inr (.inr (.inr (fun i => if i < 3 then some (r i) else none))))))
abbrev wA3 (c1 c5 : ClassId) (n a h0 : Nat) (r : Nat → Nat) (v : Nat → Int32) : va_W := [(a, .inl (c1, (n, .inl v))), (h0, out3 c5 r), (r 0, row0 c1 n), (r 1, row0 c1 n), (r 2, row0 c1 n)]
theorem wA3_all {P : Nat × va_E → Prop} {n a h0 : Nat} {r : Nat → Nat} {v : Nat → Int32} (h1 : P (a, .inl (c1, (n, .inl v)))) (h2 : P (h0, out3 c5 r)) (h3 : ∀ i, i < 3 → P (r i, row0 c1 n)) : ∀ q ∈ wA3 c1 c5 n a h0 r v, P q :=
  List.forall_mem_cons.mpr ⟨h1, List.forall_mem_cons.mpr ⟨h2, List.forall_mem_cons.mpr ⟨h3 0 (by decide), List.forall_mem_cons.mpr ⟨h3 1 (by decide), List.forall_mem_cons.mpr ⟨h3 2 (by decide), fun _ h => absurd h List.not_mem_nil⟩⟩⟩⟩⟩
set_option maxHeartbeats 8000000 in
set_option maxRecDepth 100000 in
/-- the third stretch, from the heap as it lies -/
theorem l_C (hF : yF (p, l, e, s, m, below, meth, c, b, G7, G8) L xs ρ x sa) (hΩ : ∀ Y : lB, y7 Y = G7 → yOk Y xs L x sa Ω) (hQ : oQ N G7 ρ x Ω) (hN : 1000 < N) (eD : gD G7 = D) (hK : va_K D vwCl [(c1, .int), (c2, .byte), (c3, .long), (c4, .object RX4), (c5, .array .int)] s) (hne : c1 ≠ c2) (hne5 : c5 ≠ c4)
    {g M s1 K : Int} {n q : Nat} {pm : qM} {l' : List (Nat → Int)} {T D' : Nat → Int} {tr : Nat → Nat → Int} (hs : s1 = 0 ∨ s1 = 1) (hn : 1 ≤ n ∧ n ≤ 8) (hg : 0 ≤ g ∧ g < 40) (hM0 : 1 ≤ M ∧ M ≤ 9) (hK0 : 1 ≤ K ∧ K ≤ sumN (szL Ω) n) (h : St G7 ρ x pm l' T D' tr) (hMk : Mk l' T D' q n s1 g M (szL Ω)) (r7 : qR G7 pm)
    {a h0 : Nat} {r : Nat → Nat} {v : Nat → Int32} (hv : ∀ i, i < n → (v i).toInt = szL Ω i) {H : Heap} {locs : List Loc} {la : Array Slot}
    (hP : va_P D vwCl (va_pl (gL G7) (qE G7 pm) ++ wA3 c1 c5 n a h0 r v) H) (hD : va_D (fun q => s.heap.size ≤ q) (va_pl (gL G7) (qE G7 pm) ++ wA3 c1 c5 n a h0 r v)) (hS : va_S (fun q => s.heap.size ≤ q) s.heap H locs)
    (hl : lv_has la 21 [(0, .ref b), (1, .ref x), (2, .int (iZ g)), (3, .int (iZ M)), (4, .int (iZ s1)), (5, .int (iZ (n : Int))), (7, .int (iZ ((q : Int) + 1))), (8, .ref a), (9, .int (iZ (sumN (szL Ω) n))), (10, .int (iZ (if 0 < g then 1 else 0))), (11, .int (iZ K))]) :
    W p l e room_1 s m #[Value.ref b] below meth c H locs (1000 + 7) (60000 + 6 * 7) (lw_Z below #[Value.ref b] s) (F0 m 321 la [.ref h0]) := by
  have hy := hF.ly
  have hDl := hD.l
  have hDr := hD.r
  have okr : ∀ q ∈ wA3 c1 c5 n a h0 r v, rOk c2 c4 (wA3 c1 c5 n a h0 r v) q.2 := wA3_all rOk_arr rOk_arr (fun _ _ => rOk_arr)
  have oke : ∀ q ∈ wA3 c1 c5 n a h0 r v, eOk c1 c2 c3 c4 c5 q.2 := wA3_all ⟨by omega, Or.inl rfl⟩ ⟨by decide, Or.inr rfl⟩ (fun _ _ => ⟨by omega, Or.inl rfl⟩)
  have h78 : ∀ q, q ∈ gL G7 → q ∉ (wA3 c1 c5 n a h0 r v).map Prod.fst := fun q h1 h2 => hD.ne (by rw [va_pl_fst]; exact h1) h2
  have hF' := yF.re (c2 := c2) (c3 := c3) (c4 := c4) hF eD hK hDr okr h78
  have ma : ((a, .inl (c1, (n, .inl v))) : Nat × va_E) ∈ wA3 c1 c5 n a h0 r v := List.mem_cons_self
  have mh : (h0, out3 c5 r) ∈ wA3 c1 c5 n a h0 r v := List.mem_cons_of_mem _ List.mem_cons_self
  have mr : ∀ i, i < 3 → (r i, row0 c1 n) ∈ wA3 c1 c5 n a h0 r v := fun i hi => by
    rcases (show i = 0 ∨ i = 1 ∨ i = 2 by omega) with rfl | rfl | rfl
    · exact List.mem_cons_of_mem _ (List.mem_cons_of_mem _ List.mem_cons_self)
    · exact List.mem_cons_of_mem _ (List.mem_cons_of_mem _ (List.mem_cons_of_mem _ List.mem_cons_self))
    · exact List.mem_cons_of_mem _ (List.mem_cons_of_mem _ (List.mem_cons_of_mem _ (List.mem_cons_of_mem _ List.mem_cons_self)))
  have ka : gK (n8 c1 c2 c3 c4 c5 D (wA3 c1 c5 n a h0 r v)) a = 1000 + n := (nG_K hDr ma).trans (if_neg hne)
  have kh : gK (n8 c1 c2 c3 c4 c5 D (wA3 c1 c5 n a h0 r v)) h0 = 5003 := (nG_K hDr mh).trans (if_neg hne5)
  have kr : ∀ i, i < 3 → gK (n8 c1 c2 c3 c4 c5 D (wA3 c1 c5 n a h0 r v)) (r i) = 1000 + n := fun i hi => (nG_K hDr (mr i hi)).trans (if_neg hne)
  have nd : (a ∉ [h0, r 0, r 1, r 2]) ∧ (h0 ∉ [r 0, r 1, r 2]) ∧ (r 0 ∉ [r 1, r 2]) ∧ (r 1 ∉ [r 2]) := by
    have z := hDr.nd
    have z : [a, h0, r 0, r 1, r 2].Nodup := z
    simp only [List.nodup_cons] at z
    exact ⟨z.1, z.2.1, z.2.2.1, z.2.2.2.1⟩
  have hbd := all_bd hQ hn
  have b1 : ∀ k, 1 ≤ szL Ω k ∧ szL Ω k ≤ 200 := fun k => szL_bd hQ k
  have hA : aM (gK (n8 c1 c2 c3 c4 c5 D (wA3 c1 c5 n a h0 r v))) n (nM (wA3 c1 c5 n a h0 r v)) a h0 r (szL Ω) (fun _ => 0) (hB (szL Ω) g K M n) (hC (szL Ω) g K M n) 0 0 := by
    refine ⟨fun i hi => ⟨?_, kr i hi⟩, ⟨⟨?_, ?_, ?_⟩, ?_⟩, fun i hi => ?_, fun i hi => ?_, fun i hi => absurd hi (Nat.not_lt_zero _), fun i hi => absurd hi (Nat.not_lt_zero _)⟩
    · rw [nM_Q hDr mh]
      exact if_pos hi
    · exact fun q => nd.2.2.1 (by rw [q]; exact List.mem_cons_self)
    · exact fun q => nd.2.2.1 (by rw [q]; exact List.mem_cons_of_mem _ List.mem_cons_self)
    · exact fun q => nd.2.2.2 (by rw [q]; exact List.mem_cons_self)
    · intro i hi q
      refine nd.1 ?_
      rw [← q]
      rcases (show i = 0 ∨ i = 1 ∨ i = 2 by omega) with rfl | rfl | rfl
      · exact List.mem_cons_of_mem _ List.mem_cons_self
      · exact List.mem_cons_of_mem _ (List.mem_cons_of_mem _ List.mem_cons_self)
      · exact List.mem_cons_of_mem _ (List.mem_cons_of_mem _ (List.mem_cons_of_mem _ List.mem_cons_self))
    · rw [nM_A hDr ma]
      exact hv i hi
    · rw [nM_A hDr (mr 0 (by decide))]
      rfl
  have hf := z_Lc (KK := gK (n8 c1 c2 c3 c4 c5 D (wA3 c1 c5 n a h0 r v))) hQ hy hN hs hn hg hMk hK0 hbd.2 hM0 (fun k _ => ⟨(b1 k).1, by have := (b1 k).2; omega⟩) h hA
  have q0 := hMk.1.2.1
  have w8 := nWd (c3 := c3) (s := fun _ => 0) (v := fun _ => 0) hne hne5 hDr oke hP.r
  have hR8 := nR (D := D) (s := fun _ => 0) (v := fun _ => 0) hne hDr oke
  have k := w_Lc hF' (hΩ (p, l, e, s, m, below, meth, c, b, G7, n8 c1 c2 c3 c4 c5 D (wA3 c1 c5 n a h0 r v)) rfl) (nn := n) (by omega) (res := 1) rfl (x2 := g) (x3 := M) (x4 := s1) (x5 := (n : Int)) (x7 := (q : Int) + 1) (x8 := a) (x9 := sumN (szL Ω) n) (x10 := if 0 < g then 1 else 0) (x11 := K) (s0 := h0)
    ⟨by omega, by omega⟩ ⟨by omega, by omega⟩ ⟨by omega, by omega⟩ ⟨by omega, by omega⟩ ⟨by omega, by omega⟩ ka ⟨by omega, by omega⟩ ⟨by split <;> omega, by split <;> omega⟩ ⟨by omega, by omega⟩ kh r7 hR8 hf
  exact k (by decide) H locs la hl w8 hS hR8 ⟨by rw [eD]; exact hP.l, hDl.weaken (fun _ _ _ _ => trivial)⟩ r7
theorem rows_e {n : Nat} {f : Nat → va_E} {r : Nat → Nat} : va_pl ([] ++ (List.range 3).map r) (vr_up f ((List.range 3).map r) (row0 c1 n)) = [(r 0, row0 c1 n), (r 1, row0 c1 n), (r 2, row0 c1 n)] := by
  have e : ∀ i, i < 3 → vr_up f ((List.range 3).map r) (row0 c1 n) (r i) = row0 c1 n := fun i hi => vr_up_in (List.mem_map_of_mem (List.mem_range.mpr hi))
  show [(r 0, vr_up f ((List.range 3).map r) (row0 c1 n) (r 0)), (r 1, vr_up f ((List.range 3).map r) (row0 c1 n) (r 1)), (r 2, vr_up f ((List.range 3).map r) (row0 c1 n) (r 2))] = _
  rw [e 0 (by decide), e 1 (by decide), e 2 (by decide)]
theorem cat_e {α : Type} {X Z : List α} {u w : α} : ((X ++ [u]) ++ [w]) ++ Z = X ++ (u :: w :: Z) := by
  rw [List.append_assoc, List.append_assoc]
  rfl
set_option maxHeartbeats 8000000 in
set_option maxRecDepth 100000 in
/-- the second stretch, from the heap as it lies -/
theorem l_B (hF : yF (p, l, e, s, m, below, meth, c, b, G7, G8) L xs ρ x sa) (hΩ : ∀ Y : lB, y7 Y = G7 → yOk Y xs L x sa Ω) (hQ : oQ N G7 ρ x Ω) (hN : 1000 < N) (eD : gD G7 = D) (hK : va_K D vwCl [(c1, .int), (c2, .byte), (c3, .long), (c4, .object RX4), (c5, .array .int)] s) (hne : c1 ≠ c2) (hne5 : c5 ≠ c4) (hAO : va_AOA .int s)
    {g M s1 : Int} {n q : Nat} {pm : qM} {l' : List (Nat → Int)} {T D' : Nat → Int} {tr : Nat → Nat → Int} (hs : s1 = 0 ∨ s1 = 1) (hn : 1 ≤ n ∧ n ≤ 8) (hg : 0 ≤ g ∧ g < 40) (hM0 : 1 ≤ M ∧ M ≤ 9) (h : St G7 ρ x pm l' T D' tr) (hMk : Mk l' T D' q 0 s1 g M (szL Ω)) (r7 : qR G7 pm)
    {a : Nat} {H : Heap} {locs : List Loc} {la : Array Slot}
    (hP : va_P D vwCl (va_pl (gL G7) (qE G7 pm) ++ [(a, row0 c1 n)]) H) (hD : va_D (fun q => s.heap.size ≤ q) (va_pl (gL G7) (qE G7 pm) ++ [(a, row0 c1 n)])) (hS : va_S (fun q => s.heap.size ≤ q) s.heap H locs)
    (hl : lv_has la 21 [(0, .ref b), (1, .ref x), (2, .int (iZ g)), (3, .int (iZ M)), (4, .int (iZ s1)), (5, .int (iZ (n : Int))), (7, .int (iZ ((q : Int) + 1)))]) :
    W p l e room_1 s m #[Value.ref b] below meth c H locs (1000 + 2) (60000 + 6 * 2) (lw_Z below #[Value.ref b] s) (F0 m 150 la [.ref a]) := by
  have hy := hF.ly
  have hDl := hD.l
  have hDr := hD.r
  have okr : ∀ q ∈ ([(a, row0 c1 n)] : va_W), rOk c2 c4 ([(a, row0 c1 n)] : va_W) q.2 := List.forall_mem_cons.mpr ⟨rOk_arr, fun _ h => absurd h List.not_mem_nil⟩
  have oke : ∀ q ∈ ([(a, row0 c1 n)] : va_W), eOk c1 c2 c3 c4 c5 q.2 := List.forall_mem_cons.mpr ⟨⟨by omega, Or.inl rfl⟩, fun _ h => absurd h List.not_mem_nil⟩
  have h78 : ∀ q, q ∈ gL G7 → q ∉ ([(a, row0 c1 n)] : va_W).map Prod.fst := fun q h1 h2 => hD.ne (by rw [va_pl_fst]; exact h1) h2
  have hF' := yF.re (c2 := c2) (c3 := c3) (c4 := c4) (c1 := c1) (c5 := c5) hF eD hK hDr okr h78
  have ma : ((a, row0 c1 n) : Nat × va_E) ∈ ([(a, row0 c1 n)] : va_W) := List.mem_cons_self
  have ka : gK (n8 c1 c2 c3 c4 c5 D [(a, row0 c1 n)]) a = 1000 + n := (nG_K hDr ma).trans (if_neg hne)
  have hbd := all_bd hQ hn
  have b1 : ∀ k, 1 ≤ szL Ω k ∧ szL Ω k ≤ 200 := fun k => szL_bd hQ k
  obtain ⟨K, m', q', l2, T2, D2, tr2, hf, hK0, h2, hM2, hA2⟩ := z_Lb (KK := gK (n8 c1 c2 c3 c4 c5 D [(a, row0 c1 n)])) (q0 := nM [(a, row0 c1 n)]) (c0 := 2) (a := a) hQ hy hN hs hn hg h hMk
  have q0 := hMk.1.2.1
  have w8 := nWd (c3 := c3) (s := fun _ => 0) (v := fun _ => 0) hne hne5 hDr oke hP.r
  have hR8 := nR (D := D) (s := fun _ => 0) (v := fun _ => 0) hne hDr oke
  have k := w_Lb hF' (hΩ (p, l, e, s, m, below, meth, c, b, G7, n8 c1 c2 c3 c4 c5 D [(a, row0 c1 n)]) rfl) (nn := n) (by omega) (x2 := g) (x3 := M) (x4 := s1) (x5 := (n : Int)) (x7 := (q : Int) + 1) (s0 := a) (res := (g, M, s1, (n : Int), (q : Int) + 1, a, sumN (szL Ω) n, (if 0 < g then 1 else 0), K, m', q', 2)) (fun p1 q1 c9 x2 x3 x4 x5 x7 x8 x9 x10 x11 _ _ _ _ _ _ _ _ _ R7 R8 ee => by
      cases ee
      intro hc H1 locs1 la1 hl1 hW8 hS1 _ hW7 r71
      have e8 : va_pl (gL (n8 c1 c2 c3 c4 c5 D [(a, row0 c1 n)])) (qE (n8 c1 c2 c3 c4 c5 D [(a, row0 c1 n)]) q') = [(a, .inl (c1, (n, .inl (fun i => iZ (gA q' a i)))))] := by
        show [(a, qE (n8 c1 c2 c3 c4 c5 D [(a, row0 c1 n)]) q' a)] = _
        rw [qE_int ka (by omega)]
        rfl
      have hP8 : va_P D vwCl [(a, .inl (c1, (n, .inl (fun i => iZ (gA q' a i)))))] H1 := by rw [← e8]; exact hW8.1
      have hP7 : va_P D vwCl (va_pl (gL G7) (qE G7 m')) H1 := by rw [← eD]; exact hW7.1
      have hD7 : va_D (fun q => s.heap.size ≤ q) (va_pl (gL G7) (qE G7 m')) := va_pl_D hDl
      have hD8 : va_D (fun q => s.heap.size ≤ q) [(a, .inl (c1, (n, .inl (fun i => iZ (gA q' a i)))))] := by
        have z : va_D (fun q => s.heap.size ≤ q) (va_pl [a] (fun _ => row0 c1 n)) := hDr
        exact va_pl_D (g := fun _ => .inl (c1, (n, .inl (fun i => iZ (gA q' a i))))) z
      have hPx := hP7.app hP8
      have hDx := hD7.cat hD8 (fun z h1 h2 => h78 z (by rw [va_pl_fst] at h1; exact h1) h2)
      generalize hX : va_pl (gL G7) (qE G7 m') ++ [(a, .inl (c1, (n, .inl (fun i => iZ (gA q' a i)))))] = X at hPx hDx
      have eX : X ++ va_pl [] (fun _ => row0 c1 n) = X := List.append_nil X
      rw [← eX] at hPx hDx
      have hA : ∀ q : Nat, s.heap.size ≤ q → (fun q => s.heap.size ≤ q) q := fun _ h => h
      have hc1 : s.vm.findClass (FieldType.array .int).toString = some c1 := (hK.2 0 _ rfl).2
      have htM := hF.X7.2.2.2.2.1
      refine va_mna (ty := .int) (cy := c1) (N' := 3) (K' := n) (z := (n, .inl (fun _ => 0))) hF.e hF.b (own := RL) hF.X7.2.2.2.1 (htM (.classLink RL 40 "[[I") (by decide +kernel)) hAO (htM (.arrayClass .int) (by decide +kernel)) hc1 hK hPx hDx hS1 hA (by decide +kernel) (n_len hn).1 (by decide +kernel) (n_len hn).2 (by decide) (by show n * 4 ≤ 536870912; omega) (by omega) rfl rfl (by decide) (by show 60000 + 6 * 2 + (3 + 3 * n) ≤ 7301550; omega) (fun c => arrV_new c n (.int 0)) dL_law_317 (fun h0 r ca H2 hinj hnot hK2 hP2 hD2 hS2 => ?_)
      have eca : ca = c5 := k_uqt (n := "[" ++ (FieldType.array .int).toString) (i := 5) (j := 4) hK2 rfl rfl (fun _ h => h)
      subst eca
      rw [rows_e, ← hX, cat_e] at hP2 hD2
      refine W.widen (k := 1000 + 7) (n := 60000 + 6 * 7) (by decide) (by omega) ?_
      exact l_C hF hΩ hQ hN eD hK hne hne5 hs hn hg hM0 hK0 h2 hM2 R7 (fun i hi => by rw [hA2 i hi]; exact iZ_toInt ⟨by have := b1 i; omega, by have := b1 i; omega⟩) hP2 hD2 hS2 hl1)
    ⟨by omega, by omega⟩ ⟨by omega, by omega⟩ ⟨by omega, by omega⟩ ⟨by omega, by omega⟩ ⟨by omega, by omega⟩ ka r7 hR8 hf
  exact k (by decide) H locs la hl w8 hS hR8 ⟨by rw [eD]; exact hP.l, hDl.weaken (fun _ _ _ _ => trivial)⟩ r7
end START
