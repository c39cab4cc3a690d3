/-! PURE: trade, off, cut, call on the class's side -/
theorem fm_xor : ∀ k : Nat, k < 120 → (iXor ((k : Int) - 60) 60 < 0 ↔ k < 60) := by decide +kernel
theorem fm_div : ∀ k : Nat, k < 120 → ((k : Int) - 60).tdiv 60 = if k = 0 then -1 else 0 := by decide +kernel
theorem z_floorMod {N : Nat} {G : qG} {a : Int} {μ : qM} (h : -60 ≤ a ∧ a < 60) : f_J9_floorMod_7cf53 N G a 60 μ = some ((((a + 60).toNat % 60 : Nat) : Int), μ) := by
  obtain ⟨k, hk⟩ : ∃ k : Nat, a = (k : Int) - 60 := ⟨(a + 60).toNat, by omega⟩
  subst hk
  have h1 := fm_xor k (by omega)
  have h2 := fm_div k (by omega)
  unfold f_J9_floorMod_7cf53
  rw [ckD_p (by decide), h2]
  by_cases c : k = 0
  · subst c
    rw [if_pos rfl, ckI_p ⟨by decide, by decide⟩, kp_p, if_pos (h1.mpr (by decide))]
    rfl
  · rw [if_neg c, ckI_p ⟨by omega, by omega⟩, kp_p]
    by_cases d : k < 60
    · rw [if_pos (h1.mpr d), if_neg (by omega), ckI_p ⟨by omega, by omega⟩]
      congr 2
      omega
    · rw [if_neg (fun q => d (h1.mp q))]
      congr 2
      omega
section CR2
variable {N : Nat} {G : qG} {ρ : Nat → Nat × Nat} {x : Nat} {μ ν : qM} {l l' : List (Nat → Int)} {T T' D D' : Nat → Int} {tr tr' : Nat → Nat → Int} {n : Nat} {B : Nat → Int}
theorem z_trade7 (h : cR G ρ x μ l T D tr n B) (hT : 0 ≤ T 10 ∧ T 10 ≤ 60) (i w : Int) : f_X7_trade N G x i w μ = some (if 0 ≤ i ∧ i < T 10 ∧ 0 ≤ w ∧ w ≤ 4 then tr i.toNat w.toNat else -1, μ) := by
  obtain ⟨A, V, nx, h1, h2, h3, h4, h5, h6, h7, h8⟩ := h.1
  unfold f_X7_trade
  rw [h5.2.1]
  by_cases c : 0 ≤ i ∧ i < T 10
  · rw [if_neg (by omega), if_pos c.2]
    by_cases d : 0 ≤ w ∧ w ≤ 4
    · rw [if_neg (by omega), if_neg (by omega), if_pos ⟨c.1, c.2, d.1, d.2⟩]
      unfold f_X3_told
      have e : ((nx : Int) - 1 - i + 60).toNat % 60 = (nx + 59 - i.toNat) % 60 := by congr 1; omega
      have hb : (nx + 59 - i.toNat) % 60 < 60 := Nat.mod_lt _ (by decide)
      have fm := z_floorMod (N := N) (G := G) (μ := μ) (a := (nx : Int) - 1 - i) ⟨by omega, by omega⟩
      rw [h5.2.2.2.1, ckI_p ⟨by omega, by omega⟩, ckI_p ⟨by omega, by omega⟩, kb2_p fm, e]
      rw [rdQ_p ⟨by omega, by omega⟩ (by rw [Int.toNat_natCast]; exact (h7 _ hb).1) (h7 _ hb).2.1, rdA_p ⟨by omega, by omega⟩]
      rw [h8 i.toNat w.toNat (by omega) (by omega) (by omega)]
      rfl
    · have hne : ¬ (0 ≤ i ∧ i < T 10 ∧ 0 ≤ w ∧ w ≤ 4) := fun q => d ⟨q.2.2.1, q.2.2.2⟩
      rw [if_neg hne]
      by_cases e : w < 0
      · rw [if_pos e]
      · rw [if_neg e, if_pos (by omega)]
  · have hne : ¬ (0 ≤ i ∧ i < T 10 ∧ 0 ≤ w ∧ w ≤ 4) := fun q => c ⟨q.1, q.2.1⟩
    rw [if_neg hne]
    by_cases e : i < 0
    · rw [if_pos e]
    · rw [if_neg e, if_neg (by omega)]
/-- an order is made empty and the book swept: it goes -/
theorem filter_one {l : List (Nat → Int)} {i : Nat} (hi : i < l.length) (hp : ∀ j, j < l.length → 0 < lG l j 4) : (l.set i (upd1 (lG l i) 4 0)).filter aKp = l.eraseIdx i := by
  induction l generalizing i with
  | nil => cases hi
  | cons o t ih =>
    have h0 : 0 < o 4 := hp 0 (by simp)
    have ht : ∀ j, j < t.length → 0 < lG t j 4 := fun j hj => hp (j + 1) (by simpa using hj)
    cases i with
    | zero =>
      show ((upd1 o 4 0) :: t).filter aKp = t
      rw [List.filter_cons_of_neg (by unfold aKp; rw [upd1_s]; decide)]
      refine List.filter_eq_self.mpr (fun a ha => ?_)
      obtain ⟨j, hj, e⟩ := List.getElem_of_mem ha
      have := ht j hj
      unfold lG at this
      rw [List.getD_eq_getElem?_getD, List.getElem?_eq_getElem hj] at this
      rw [← e]
      exact decide_eq_true this
    | succ i =>
      show (o :: t.set i (upd1 (lG t i) 4 0)).filter aKp = o :: t.eraseIdx i
      rw [List.filter_cons_of_pos (show aKp o = true from decide_eq_true h0), ih (by simpa using hi) ht]
/-- the tops behind such a sweep -/
theorem aSw_pos {T : Nat → Int} : ∀ {l : List (Nat → Int)}, (∀ j, j < l.length → 0 < lG l j 4) → aSw T l = T := by
  intro l
  induction l generalizing T with
  | nil => intro _; rfl
  | cons o t ih =>
    intro h
    show aSw (aSwF T o) t = T
    have h0 : 0 < o 4 := h 0 (by simp)
    have : aSwF T o = T := if_pos h0
    rw [this]
    exact ih (fun j hj => h (j + 1) (by simpa using hj))
theorem aSw_one {T : Nat → Int} : ∀ {l : List (Nat → Int)} {i : Nat}, i < l.length → (∀ j, j < l.length → 0 < lG l j 4) → aSw T (l.set i (upd1 (lG l i) 4 0)) = aGo T (lG l i) := by
  intro l
  induction l generalizing T with
  | nil => intro i h; cases h
  | cons o t ih =>
    intro i hi hp
    have h0 : 0 < o 4 := hp 0 (by simp)
    have ht : ∀ j, j < t.length → 0 < lG t j 4 := fun j hj => hp (j + 1) (by simpa using hj)
    cases i with
    | zero =>
      show aSw (aSwF T (upd1 o 4 0)) t = aGo T o
      rw [aSw_pos ht]
      unfold aSwF
      rw [upd1_s, if_neg (by decide)]
      rfl
    | succ i =>
      show aSw (aSwF T o) (t.set i (upd1 (lG t i) 4 0)) = aGo T (lG t i)
      have : aSwF T o = T := if_pos h0
      rw [this]
      exact ih (by simpa using hi) ht
theorem aLap_o {T : Nat → Int} {s j : Nat} (hs : s < 2) (h6 : j ≠ 6) (h7 : j ≠ 7) (h8 : j ≠ 8) (h9 : j ≠ 9) : aLap T s j = T j := by
  unfold aLap
  rw [upd1_n (by omega), upd1_n (by omega)]
theorem aGo_o {T o : Nat → Int} (hs : o 2 = 0 ∨ o 2 = 1) {j : Nat} (h6 : j ≠ 6) (h7 : j ≠ 7) (h8 : j ≠ 8) (h9 : j ≠ 9) : aGo T o j = T j := by
  unfold aGo
  split
  · exact aLap_o (by omega) h6 h7 h8 h9
  · rfl
theorem lOk.set {i : Nat} {v : Int} (hl : lOk l) (hi : i < l.length) (hv : 0 ≤ v ∧ v ≤ 1000) : lOk (l.set i (upd1 (lG l i) 4 v)) := by
  refine ⟨by rw [List.length_set]; exact hl.1, fun j hj => ?_⟩
  rw [List.length_set] at hj
  rw [lG_set hi]
  by_cases c : j = i
  · subst c
    rw [if_pos rfl]
    have h := hl.2 j hj
    exact ⟨h.1, h.2.1, h.2.2.1, h.2.2.2.1, hv, h.2.2.2.2.2⟩
  · rw [if_neg c]; exact hl.2 j hj
theorem z_off7 (hy : cLY G ρ x) (h : cR G ρ x μ l T D tr n B) (hl : lOk l) (hp : ∀ j, j < l.length → 0 < lG l j 4) (hN : 100 < N) (k : Int) :
    (aPlace k l = none → f_X7_off N G x k μ = some (-1, μ)) ∧ ∀ i, aPlace k l = some i → ∃ ν, f_X7_off N G x k μ = some (lG l i 4, ν) ∧ cR G ρ x ν (l.eraseIdx i) (aGo T (lG l i)) D tr n B := by
  obtain ⟨A, V, nx, hf⟩ := h.1
  have h1 := hf.1
  unfold f_X7_off
  rw [kb2_p (z_find0 h1 hl.1 hN)]
  refine ⟨fun e => by rw [e]; rfl, fun i e => ?_⟩
  obtain ⟨-, hi, -, -⟩ := aPl_some e
  rw [Nat.zero_add] at hi
  rw [e]
  have hf1 := hf.ord (i := i) (w := 4) (v := 0) hl.1 hi (by decide)
  have hl1 : lOk (l.set i (upd1 (lG l i) 4 0)) := hl.set hi ⟨by decide, by decide⟩
  have hn : gR G 2 (gR G 200 (gR G 700 x)) ≠ gR G 3 (gR G 200 (gR G 700 x)) := hy.1.ne (j := 12) (k := 13) (by decide) (by decide) (by decide)
  obtain ⟨ν, A', e1, e2, e3, e4, e5⟩ := z_sweep0 (N := N) hn hf1.1 hf1.2.2.1 hl1 hN
  rw [filter_one hi hp] at e3
  rw [aSw_one hi hp] at e5
  show ∃ ν, (kp (sI μ 404 (A i) 0) fun m4 => kb (f_X0_sweep N G (gR G 200 (gR G 700 x)) m4) fun m5 => some (gI μ 404 (A i), m5)) = _ ∧ _
  rw [kp_p, kb_p e1, show gI μ 404 (A i) = lG l i 4 from h1.2.2.2 i 4 hi (by decide)]
  refine ⟨ν, rfl, h.flo hy ((dRole.sI (by rw [hf.2.1 i (by have := hl.1; omega)])).tr (dRole.ofB hy.1 e2)) ⟨A', V, nx, hf1.book hy.1 e2 e3 e4 e5 (fun j a b c d => aGo_o (hl.2 i hi).2.2.1 a b c d)⟩⟩
theorem z_cut7 (hy : cLY G ρ x) (h : cR G ρ x μ l T D tr n B) (hl : lOk l) (hN : 100 < N) (k z : Int) :
    ((aPlace k l = none ∨ ∃ i, aPlace k l = some i ∧ ¬ (1 ≤ z ∧ z < lG l i 4)) → f_X7_cut N G x k z μ = some (-1, μ)) ∧ ∀ i, aPlace k l = some i → 1 ≤ z ∧ z < lG l i 4 → ∃ ν, f_X7_cut N G x k z μ = some (lG l i 4, ν) ∧ cR G ρ x ν (l.set i (upd1 (lG l i) 4 z)) (aGo T (lG l i)) D tr n B := by
  obtain ⟨A, V, nx, hf⟩ := h.1
  have h1 := hf.1
  unfold f_X7_cut
  rw [kb2_p (z_find0 h1 hl.1 hN)]
  refine ⟨fun e => ?_, fun i e hz => ?_⟩
  · rcases e with e | ⟨i, e, hz⟩
    · rw [e]; rfl
    · obtain ⟨-, hi, -, -⟩ := aPl_some e
      rw [Nat.zero_add] at hi
      rw [e]
      show (if z < 1 then some ((-1 : Int), μ) else if z < gI μ 404 (A i) then _ else some (-1, μ)) = _
      rw [show gI μ 404 (A i) = lG l i 4 from h1.2.2.2 i 4 hi (by decide)]
      by_cases c : z < 1
      · rw [if_pos c]
      · rw [if_neg c, if_neg (by omega)]
  · obtain ⟨-, hi, -, -⟩ := aPl_some e
    rw [Nat.zero_add] at hi
    rw [e]
    have ho := hl.2 i hi
    have hf1 := hf.ord (i := i) (w := 4) (v := z) hl.1 hi (by decide)
    have hn : gR G 2 (gR G 200 (gR G 700 x)) ≠ gR G 3 (gR G 200 (gR G 700 x)) := hy.1.ne (j := 12) (k := 13) (by decide) (by decide) (by decide)
    obtain ⟨ν, e1, e2, e3⟩ := z_lapse0 (N := N) (o := A i) (w := lG l i) hn hf1.2.2.1 (by rw [gI_f (by decide)]; exact h1.2.2.2 i 0 hi (by decide)) (by rw [gI_f (by decide)]; exact h1.2.2.2 i 2 hi (by decide)) ho.2.2.1 ho.1.1
    show ∃ ν, (if z < 1 then some ((-1 : Int), μ) else if z < gI μ 404 (A i) then kp (sI μ 404 (A i) z) fun m6 => kb (f_X0_lapse N G (gR G 200 (gR G 700 x)) (A i) m6) fun m7 => some (gI μ 404 (A i), m7) else some (-1, μ)) = _ ∧ _
    rw [show gI μ 404 (A i) = lG l i 4 from h1.2.2.2 i 4 hi (by decide), if_neg (by omega), if_pos hz.2, kp_p, kb_p e1]
    have hb : cB G (gR G 200 (gR G 700 x)) A ν (l.set i (upd1 (lG l i) 4 z)) := ⟨by rw [e2.1]; exact hf1.1.1, fun j hj => by rw [e2.2.2]; exact hf1.1.2.1 j hj, hf1.1.2.2.1, fun j k hj hk => by rw [e2.1]; exact hf1.1.2.2.2 j k hj hk⟩
    exact ⟨ν, rfl, h.flo hy ((dRole.sI (by rw [hf.2.1 i (by have := hl.1; omega)])).tr (dRole.ofB hy.1 e2.B)) ⟨A, V, nx, hf1.book hy.1 e2.B hb (fun j hj => ⟨j, hj, rfl⟩) e3 (fun j a b c d => aGo_o ho.2.2.1 a b c d)⟩⟩
theorem z_call7 (hy : cLY G ρ x) (h : cR G ρ x μ l T D tr n B) (hT : T 2 = 0 ∨ T 2 = 1) (hN : 100 < N) : ∃ ν, f_X7_call N G x μ = some (if T 2 = 1 then 0 else 1, ν) ∧ cR G ρ x ν l (if T 2 = 1 then T else aLap (aLap (upd1 T 2 1) 0) 1) D tr n B := by
  obtain ⟨A, V, nx, h1, h2, h3, h4, h5, h6, h7, h8⟩ := h.1
  unfold f_X7_call
  rw [h4.2.2.1]
  by_cases c : T 2 = 1
  · rw [if_pos c, if_pos c, if_neg (by omega)]
    exact ⟨μ, rfl, h⟩
  · rw [if_neg c, if_neg c, if_pos (by omega), kp_p]
    have pf : (ρ (gR G 700 x)).1 = gR G 700 x := by rw [show ρ (gR G 700 x) = (gR G 700 x, 1) from hy.1 1 (by decide)]
    have hf1 : cFlx G ρ (gR G 700 x) A V nx (sI μ 207 (gR G 700 x) 1) l (upd1 T 2 1) D tr := by
      refine ⟨⟨by rw [gI_f (by decide)]; exact h1.1, h1.2.1, h1.2.2.1, fun i k hi hk => by rw [gI_f (by omega)]; exact h1.2.2.2 i k hi hk⟩, h2, fun s hs => by rw [upd1_n (by omega), upd1_n (by omega)]; exact h3 s hs, ?_, ?_, fun t ht => by rw [upd1_n (by omega)]; exact h6 t ht, h7, fun i w hi => h8 i w (by rwa [upd1_n (by decide)] at hi)⟩
      · rw [gI_s, gI_f (by decide), gI_f (by decide), gI_f (by decide), gI_f (by decide), gI_f (by decide)]
        exact ⟨h4.1, h4.2.1, rfl, h4.2.2.2⟩
      · rw [gI_f (by decide), gI_f (by decide), gI_f (by decide), gI_f (by decide)]
        exact h5
    have hn : gR G 2 (gR G 200 (gR G 700 x)) ≠ gR G 3 (gR G 200 (gR G 700 x)) := hy.1.ne (j := 12) (k := 13) (by decide) (by decide) (by decide)
    obtain ⟨ν, e1, e2, e3⟩ := z_lapseAll0 (N := N) hn hf1.2.2.1 hN
    rw [kb_p e1]
    have hb : cB G (gR G 200 (gR G 700 x)) A ν l := ⟨by rw [e2.1]; exact hf1.1.1, fun j hj => by rw [e2.2.2]; exact hf1.1.2.1 j hj, hf1.1.2.2.1, fun j k hj hk => by rw [e2.1]; exact hf1.1.2.2.2 j k hj hk⟩
    exact ⟨ν, rfl, h.flo hy ((dRole.sI pf).tr (dRole.ofB hy.1 e2.B)) ⟨A, V, nx, hf1.book hy.1 e2.B hb (fun j hj => ⟨j, hj, rfl⟩) e3 (fun j a b c d => by rw [aLap_o (by decide) a b c d, aLap_o (by decide) a b c d])⟩⟩
end CR2
