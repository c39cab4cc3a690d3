/-! PURE: the change-over, in itself -/
theorem shL_c2 {S S' g : Nat → Int} {K : Int} {c : Nat} (h : ∀ i, i < c → S i = S' i) : ∀ i, i ≤ c → shL S g K i = shL S' g K i := by
  intro i
  induction i with
  | zero => intro _; rfl
  | succ i ih =>
    intro hi
    show shL S g K i - min (shL S g K i) (min (S i) (g i)) = shL S' g K i - min (shL S' g K i) (min (S' i) (g i))
    rw [ih (by omega), h i (by omega)]
theorem shA_c2 {S S' g : Nat → Int} {K : Int} {c : Nat} (h : ∀ i, i < c → S i = S' i) {i : Nat} (hi : i < c) : shA S g K i = shA S' g K i := by
  unfold shA
  rw [shL_c2 h i (by omega), h i hi]
theorem shB_c2 {S S' g : Nat → Int} {K L : Int} {c : Nat} (h : ∀ i, i < c → S i = S' i) {i : Nat} (hi : i < c) : shB S g K L c i = shB S' g K L c i := by
  unfold shB
  have e : shZ S g K c = shZ S' g K c := sumN_congr (fun j hj => by rw [shA_c2 h hj, h j hj])
  rw [shL_c2 h c (Nat.le_refl _), shA_c2 h hi, e, h i hi]
theorem shR_c2 {S S' g : Nat → Int} {K L : Int} {c : Nat} (h : ∀ i, i < c → S i = S' i) : ∀ i, i ≤ c → shR S g K L c i = shR S' g K L c i := by
  intro i
  induction i with
  | zero =>
    intro _
    show shL S g K c - sumN (shB S g K L c) c = shL S' g K c - sumN (shB S' g K L c) c
    rw [shL_c2 h c (Nat.le_refl _), sumN_congr (fun j hj => shB_c2 h hj)]
  | succ i ih =>
    intro hi
    show shR S g K L c i - min (shR S g K L c i) (S i - shA S g K i - shB S g K L c i) = shR S' g K L c i - min (shR S' g K L c i) (S' i - shA S' g K i - shB S' g K L c i)
    rw [ih (by omega), shA_c2 h (by omega), shB_c2 h (by omega), h i (by omega)]
theorem shC_c2 {S S' g : Nat → Int} {K L : Int} {c : Nat} (h : ∀ i, i < c → S i = S' i) {i : Nat} (hi : i < c) : shC S g K L c i = shC S' g K L c i := by
  unfold shC
  rw [shR_c2 h i (by omega), shA_c2 h hi, shB_c2 h hi, h i hi]
/-- the orders at a price -/
def lvl (s p : Int) (l : List (Nat → Int)) : List (Nat → Int) := l.filter (aAt s p)
/-- sizes at a price become less, by their places there -/
def upL (s p : Int) (h : Nat → Int) : List (Nat → Int) → Nat → List (Nat → Int)
  | [], _ => []
  | o :: t, k => if aAt s p o = true then upd1 o 4 (o 4 - h k) :: upL s p h t (k + 1) else o :: upL s p h t k
def gEl (lv : List (Nat → Int)) (came p : Int) (v : Nat → Int) (kind : Int) (E : List (Nat → Int)) : Nat → List (Nat → Int)
  | 0 => E
  | k + 1 => if 0 < v k then tRow (lG lv k) came p (v k) kind :: gEl lv came p v kind E k else gEl lv came p v kind E k
section LVL
variable {s p : Int} {l : List (Nat → Int)} {h : Nat → Int}
theorem aJ_lvl : ∀ n, n ≤ l.length → (aJ s p l n).length = (lvl s p (l.take n)).length ∧ ∀ k, k < (aJ s p l n).length → lG (lvl s p (l.take n)) k = lG l (jG (aJ s p l n) k) := by
  intro n
  induction n with
  | zero => intro _; exact ⟨rfl, fun k hk => by cases hk⟩
  | succ n ih =>
    intro hn
    obtain ⟨h1, h2⟩ := ih (by omega)
    unfold lvl at h1 h2 ⊢
    rw [filter_take _ l (by omega)]
    by_cases c : aAt s p (lG l n) = true
    · rw [aJ_y c, if_pos c, List.length_append, List.length_append, h1]
      refine ⟨rfl, fun k hk => ?_⟩
      have hk' : k < ((l.take n).filter (aAt s p)).length + 1 := hk
      rw [lG_app, jG_app, h1]
      by_cases d : k = ((l.take n).filter (aAt s p)).length
      · rw [if_pos d, if_pos d]
      · rw [if_neg d, if_neg d]
        exact h2 k (by omega)
    · rw [aJ_n c, if_neg c, List.append_nil]
      exact ⟨h1, h2⟩
theorem lvl_J : (aJ s p l l.length).length = (lvl s p l).length ∧ ∀ k, k < (aJ s p l l.length).length → lG (lvl s p l) k = lG l (jG (aJ s p l l.length) k) := by
  have := aJ_lvl (s := s) (p := p) (l := l) l.length (Nat.le_refl _)
  rw [List.take_length] at this
  exact this
theorem gE_l {J : List Nat} {lv : List (Nat → Int)} {came q : Int} {v : Nat → Int} {kind : Int} {E : List (Nat → Int)} : ∀ k, (∀ j, j < k → lG lv j = lG l (jG J j)) → gE l J came q v kind E k = gEl lv came q v kind E k := by
  intro k
  induction k with
  | zero => intro _; rfl
  | succ k ih =>
    intro hh
    show (if 0 < v k then tRow (lG l (jG J k)) came q (v k) kind :: gE l J came q v kind E k else gE l J came q v kind E k) = (if 0 < v k then tRow (lG lv k) came q (v k) kind :: gEl lv came q v kind E k else gEl lv came q v kind E k)
    rw [ih (fun j hj => hh j (by omega)), hh k (by omega)]
theorem gEl_cg {lv : List (Nat → Int)} {came q : Int} {v v' : Nat → Int} {kind : Int} {E : List (Nat → Int)} : ∀ k, (∀ j, j < k → v j = v' j) → gEl lv came q v kind E k = gEl lv came q v' kind E k := by
  intro k
  induction k with
  | zero => intro _; rfl
  | succ k ih =>
    intro hh
    show (if 0 < v k then tRow (lG lv k) came q (v k) kind :: gEl lv came q v kind E k else gEl lv came q v kind E k) = (if 0 < v' k then tRow (lG lv k) came q (v' k) kind :: gEl lv came q v' kind E k else gEl lv came q v' kind E k)
    rw [ih (fun j hj => hh j (by omega)), hh k (by omega)]
theorem upL_len : ∀ (l : List (Nat → Int)) k, (upL s p h l k).length = l.length := by
  intro l
  induction l with
  | nil => intro k; rfl
  | cons o t ih =>
    intro k
    unfold upL
    split
    · rw [List.length_cons, List.length_cons, ih]
    · rw [List.length_cons, List.length_cons, ih]
theorem upL_at : ∀ (l : List (Nat → Int)) (k i : Nat), i < l.length → lG (upL s p h l k) i = if aAt s p (lG l i) = true then upd1 (lG l i) 4 (lG l i 4 - h (k + (lvl s p (l.take i)).length)) else lG l i := by
  intro l
  induction l with
  | nil => intro k i hi; cases hi
  | cons o t ih =>
    intro k i hi
    unfold upL
    cases i with
    | zero =>
      show lG (if aAt s p o = true then _ else _) 0 = if aAt s p o = true then upd1 o 4 (o 4 - h (k + 0)) else o
      split <;> rfl
    | succ i =>
      have hi' : i < t.length := by simpa using hi
      have e : lvl s p ((o :: t).take (i + 1)) = if aAt s p o = true then o :: lvl s p (t.take i) else lvl s p (t.take i) := by
        show (o :: t.take i).filter (aAt s p) = _
        by_cases c : aAt s p o = true
        · rw [List.filter_cons_of_pos c, if_pos c]; rfl
        · rw [List.filter_cons_of_neg c, if_neg c]; rfl
      have e0 : lG (o :: t) (i + 1) = lG t i := rfl
      rw [e, e0]
      by_cases c : aAt s p o = true
      · rw [if_pos c, if_pos c]
        have := ih (k + 1) i hi'
        show lG (upL s p h t (k + 1)) i = _
        rw [this, List.length_cons, show k + 1 + (lvl s p (t.take i)).length = k + ((lvl s p (t.take i)).length + 1) by omega]
      · rw [if_neg c, if_neg c]
        exact ih k i hi'
/-- the same by places -/
theorem upL_szs : szs l (fB (aJ s p l l.length) h (fun i => lG l i 4) (aJ s p l l.length).length) = upL s p h l 0 := by
  refine lG_ext (by rw [szs_len, upL_len]) (fun i hi => ?_)
  rw [szs_len] at hi
  have hinj : ∀ j k, j < (aJ s p l l.length).length → k < (aJ s p l l.length).length → jG (aJ s p l l.length) j = jG (aJ s p l l.length) k → j = k := fun j k hj hk e => aJ_inj hj hk e
  rw [szs_at hi, upL_at l 0 i hi]
  by_cases c : aAt s p (lG l i) = true
  · obtain ⟨r1, r2⟩ := aJ_rk (s := s) (p := p) (l := l) hi c
    have e := (aJ_lvl (s := s) (p := p) (l := l) i (by omega)).1
    rw [if_pos c, Nat.zero_add, ← e]
    congr 1
    have := fB_at (h := h) (f0 := fun i => lG l i 4) hinj r1 _ (Nat.le_refl _)
    rw [r2, if_pos (by omega)] at this
    exact this
  · rw [if_neg c]
    have : fB (aJ s p l l.length) h (fun i => lG l i 4) (aJ s p l l.length).length i = lG l i 4 := fB_o (fun r hr e => c (by rw [← e]; exact (aJ_in l.length r hr).2)) _ (Nat.le_refl _)
    rw [this, upd1_id]
/-- what is empty may go first, where all at the price are there -/
theorem upL_flt : ∀ (L : List (Nat → Int)) (k : Nat), (∀ i, i < L.length → aAt s p (lG L i) = true → 0 < lG L i 4) → (upL s p h (L.filter aKp) k).filter aKp = (upL s p h L k).filter aKp := by
  intro L
  induction L with
  | nil => intro k _; rfl
  | cons o t ih =>
    intro k hp
    have ht : ∀ i, i < t.length → aAt s p (lG t i) = true → 0 < lG t i 4 := fun i hi => hp (i + 1) (by simpa using hi)
    by_cases c : aAt s p o = true
    · have h0 : 0 < o 4 := hp 0 (by simp) c
      rw [List.filter_cons_of_pos (show aKp o = true from decide_eq_true h0)]
      unfold upL
      rw [if_pos c, if_pos c]
      by_cases d : aKp (upd1 o 4 (o 4 - h k)) = true
      · rw [List.filter_cons_of_pos d, List.filter_cons_of_pos d, ih _ ht]
      · rw [List.filter_cons_of_neg d, List.filter_cons_of_neg d, ih _ ht]
    · by_cases d : aKp o = true
      · rw [List.filter_cons_of_pos d]
        unfold upL
        rw [if_neg c, if_neg c, List.filter_cons_of_pos d, List.filter_cons_of_pos d, ih _ ht]
      · rw [List.filter_cons_of_neg d, ih _ ht]
        conv => rhs; unfold upL
        rw [if_neg c, List.filter_cons_of_neg d]
theorem lvl_flt : ∀ (L : List (Nat → Int)), (∀ i, i < L.length → aAt s p (lG L i) = true → 0 < lG L i 4) → lvl s p (L.filter aKp) = lvl s p L := by
  intro L
  induction L with
  | nil => intro _; rfl
  | cons o t ih =>
    intro hp
    have ht : ∀ i, i < t.length → aAt s p (lG t i) = true → 0 < lG t i 4 := fun i hi => hp (i + 1) (by simpa using hi)
    have := ih ht
    unfold lvl at this ⊢
    by_cases c : aAt s p o = true
    · have h0 : 0 < o 4 := hp 0 (by simp) c
      rw [List.filter_cons_of_pos (show aKp o = true from decide_eq_true h0), List.filter_cons_of_pos c, List.filter_cons_of_pos c, this]
    · by_cases d : aKp o = true
      · rw [List.filter_cons_of_pos d, List.filter_cons_of_neg c, List.filter_cons_of_neg c, this]
      · rw [List.filter_cons_of_neg d, List.filter_cons_of_neg c, this]
theorem aSZ_flt : ∀ (L : List (Nat → Int)), (∀ i, i < L.length → 0 ≤ lG L i 4) → aS (wZ s p) (L.filter aKp) = aS (wZ s p) L := by
  intro L
  induction L with
  | nil => intro _; rfl
  | cons o t ih =>
    intro hp
    have h0 : 0 ≤ o 4 := hp 0 (by simp)
    have := ih (fun i hi => hp (i + 1) (by simpa using hi))
    by_cases d : aKp o = true
    · rw [List.filter_cons_of_pos d, aS_cons, aS_cons, this]
    · rw [List.filter_cons_of_neg d, this, aS_cons]
      have : ¬ 0 < o 4 := fun q => d (decide_eq_true q)
      have e : wZ s p o = 0 := by unfold wZ; split <;> omega
      omega
end LVL
/-! a side's course: orders (those that are empty stay), trades, what is left, the price -/
abbrev OS : Type := List (Nat → Int) × List (Nat → Int) × Int × Int
def oS (s p : Int) (L : List (Nat → Int)) (k : Nat) : Int := lG (lvl s p L) k 4
def oB (s p L1 K : Int) (L : List (Nat → Int)) (k : Nat) : Int := shB (oS s p L) (fun _ => 0) K L1 (lvl s p L).length k
def oC (s p L1 K : Int) (L : List (Nat → Int)) (k : Nat) : Int := shC (oS s p L) (fun _ => 0) K L1 (lvl s p L).length k
def oStep (s pr L1 : Int) (X : OS) : OS :=
  if aS (wZ s X.2.2.2) X.1 ≤ X.2.2.1 then (upL s X.2.2.2 (oS s X.2.2.2 X.1) X.1 0, gEl (lvl s X.2.2.2 X.1) 0 pr (oS s X.2.2.2 X.1) 3 X.2.1 (lvl s X.2.2.2 X.1).length, X.2.2.1 - aS (wZ s X.2.2.2) X.1, aNext s X.2.2.2 X.1)
  else (upL s X.2.2.2 (fun k => oB s X.2.2.2 L1 X.2.2.1 X.1 k + oC s X.2.2.2 L1 X.2.2.1 X.1 k) X.1 0, gEl (lvl s X.2.2.2 X.1) 0 pr (oC s X.2.2.2 L1 X.2.2.1 X.1) 2 (gEl (lvl s X.2.2.2 X.1) 0 pr (oB s X.2.2.2 L1 X.2.2.1 X.1) 1 X.2.1 (lvl s X.2.2.2 X.1).length) (lvl s X.2.2.2 X.1).length, 0, aNext s X.2.2.2 X.1)
def oRun (s pr L1 : Int) : Nat → OS → OS
  | 0, X => X
  | n + 1, X => if X.2.2.1 ≤ 0 then X else oRun s pr L1 n (oStep s pr L1 X)
/-- sizes of a side together -/
def wSd (s : Int) (o : Nat → Int) : Int := if o 2 = s then o 4 else 0
/-- how many of a side aren't better than a price -/
def wNb (s p : Int) (o : Nat → Int) : Int := if o 2 = s ∧ ¬ aBet s (o 3) p = true then 1 else 0
/-- what holds in the course -/
def oIv (s : Int) (X : OS) : Prop :=
  lOk X.1 ∧ nInc X.1 ∧ 0 ≤ X.2.2.1 ∧ (0 < X.2.2.1 → X.2.2.1 ≤ aS (wSd s) X.1 ∧ X.2.2.2 ≠ 0 ∧ (∃ i, i < X.1.length ∧ aAt s X.2.2.2 (lG X.1 i) = true) ∧ (∀ i, i < X.1.length → lG X.1 i 2 = s → 0 < lG X.1 i 4 → ¬ aBet s (lG X.1 i 3) X.2.2.2 = true) ∧ (∀ i, i < X.1.length → lG X.1 i 2 = s → ¬ aBet s (lG X.1 i 3) X.2.2.2 = true → 0 < lG X.1 i 4))
section ORUN
variable {s p pr L1 : Int} {l L : List (Nat → Int)} {X : OS}
theorem aBet_as {p q : Int} (h : aBet s p q = true) : ¬ aBet s q p = true := by
  unfold aBet at *
  by_cases c : s = 0
  · simp only [if_pos c, decide_eq_true_eq] at *; omega
  · simp only [if_neg c, decide_eq_true_eq] at *; omega
theorem aBet_tot {p q : Int} (h1 : ¬ aBet s p q = true) (h2 : ¬ aBet s q p = true) : p = q := by
  unfold aBet at *
  by_cases c : s = 0
  · simp only [if_pos c, decide_eq_true_eq] at *; omega
  · simp only [if_neg c, decide_eq_true_eq] at *; omega
theorem aBet_tr2 {p q r : Int} (h1 : ¬ aBet s p q = true) (h2 : aBet s p r = true) : aBet s q r = true := by
  unfold aBet at *
  by_cases c : s = 0
  · simp only [if_pos c, decide_eq_true_eq] at *; omega
  · simp only [if_neg c, decide_eq_true_eq] at *; omega
/-- the best is the best -/
theorem aBest_max : ∀ (l : List (Nat → Int)) (b : Int), (∀ i, i < l.length → 1 ≤ lG l i 3) → (b ≠ 0 → l.foldl (aBestF s) b ≠ 0 ∧ ¬ aBet s b (l.foldl (aBestF s) b) = true) ∧ ∀ i, i < l.length → lG l i 2 = s → l.foldl (aBestF s) b ≠ 0 ∧ ¬ aBet s (lG l i 3) (l.foldl (aBestF s) b) = true := by
  intro l
  induction l with
  | nil => intro b _; exact ⟨fun h => ⟨h, by rw [show ([] : List (Nat → Int)).foldl (aBestF s) b = b from rfl, aBet_ir]; decide⟩, fun i hi => by cases hi⟩
  | cons o t ih =>
    intro b h1
    have ho : 1 ≤ o 3 := h1 0 (by simp)
    rw [List.foldl_cons]
    obtain ⟨a1, a2⟩ := ih (aBestF s b o) (fun i hi => h1 (i + 1) (by simpa using hi))
    have hf : (b ≠ 0 → aBestF s b o ≠ 0 ∧ ¬ aBet s b (aBestF s b o) = true) ∧ (o 2 = s → aBestF s b o ≠ 0 ∧ ¬ aBet s (o 3) (aBestF s b o) = true) := by
      unfold aBestF
      by_cases c : o 2 = s ∧ (b = 0 ∨ aBet s (o 3) b = true)
      · rw [if_pos c]
        refine ⟨fun hb => ⟨by omega, ?_⟩, fun _ => ⟨by omega, by rw [aBet_ir]; decide⟩⟩
        rcases c.2 with q | q
        · exact absurd q hb
        · exact aBet_as q
      · rw [if_neg c]
        refine ⟨fun hb => ⟨hb, by rw [aBet_ir]; decide⟩, fun hs => ⟨fun q => c ⟨hs, Or.inl q⟩, fun q => c ⟨hs, Or.inr q⟩⟩⟩
    refine ⟨fun hb => ?_, fun i hi hs => ?_⟩
    · obtain ⟨q1, q2⟩ := hf.1 hb
      obtain ⟨q3, q4⟩ := a1 q1
      exact ⟨q3, fun q => by have := aBet_tr2 (p := b) (q := aBestF s b o) q2 q; exact q4 this⟩
    · cases i with
      | zero =>
        obtain ⟨q1, q2⟩ := hf.2 hs
        obtain ⟨q3, q4⟩ := a1 q1
        exact ⟨q3, fun q => q4 (aBet_tr2 q2 q)⟩
      | succ i => exact a2 i (by simpa using hi) hs
theorem aBest_is (hl : lOk l) (h1 : ∃ i, i < l.length ∧ aAt s p (lG l i) = true) (h2 : ∀ i, i < l.length → lG l i 2 = s → ¬ aBet s (lG l i 3) p = true) : aBest s l = p := by
  obtain ⟨i, hi, hat⟩ := h1
  obtain ⟨a1, a2⟩ := aAt_e hat
  have mx := (aBest_max (s := s) l 0 (fun i hi => (hl.2 i hi).2.2.2.1.1)).2 i hi a1
  obtain ⟨-, j, hj, hjat⟩ := aBest_bd (s := s) hl mx.1
  obtain ⟨b1, b2⟩ := aAt_e hjat
  have e1 := mx.2
  rw [a2] at e1
  have e2 := h2 j hj b1
  rw [b2] at e2
  exact aBet_tot e2 e1
/-- the next is the best of those behind -/
theorem aNext_max : ∀ (l : List (Nat → Int)) (b : Int), (∀ i, i < l.length → 1 ≤ lG l i 3) → (b ≠ 0 → l.foldl (aNextF s p) b ≠ 0 ∧ ¬ aBet s b (l.foldl (aNextF s p) b) = true) ∧ ∀ i, i < l.length → lG l i 2 = s → aBet s p (lG l i 3) = true → l.foldl (aNextF s p) b ≠ 0 ∧ ¬ aBet s (lG l i 3) (l.foldl (aNextF s p) b) = true := by
  intro l
  induction l with
  | nil => intro b _; exact ⟨fun h => ⟨h, by rw [show ([] : List (Nat → Int)).foldl (aNextF s p) b = b from rfl, aBet_ir]; decide⟩, fun i hi => by cases hi⟩
  | cons o t ih =>
    intro b h1
    have ho : 1 ≤ o 3 := h1 0 (by simp)
    rw [List.foldl_cons]
    obtain ⟨a1, a2⟩ := ih (aNextF s p b o) (fun i hi => h1 (i + 1) (by simpa using hi))
    have hf : (b ≠ 0 → aNextF s p b o ≠ 0 ∧ ¬ aBet s b (aNextF s p b o) = true) ∧ (o 2 = s → aBet s p (o 3) = true → aNextF s p b o ≠ 0 ∧ ¬ aBet s (o 3) (aNextF s p b o) = true) := by
      unfold aNextF
      by_cases c : o 2 = s ∧ aBet s p (o 3) = true ∧ (b = 0 ∨ aBet s (o 3) b = true)
      · rw [if_pos c]
        refine ⟨fun hb => ⟨by omega, ?_⟩, fun _ _ => ⟨by omega, by rw [aBet_ir]; decide⟩⟩
        rcases c.2.2 with q | q
        · exact absurd q hb
        · exact aBet_as q
      · rw [if_neg c]
        refine ⟨fun hb => ⟨hb, by rw [aBet_ir]; decide⟩, fun hs hp => ⟨fun q => c ⟨hs, hp, Or.inl q⟩, fun q => c ⟨hs, hp, Or.inr q⟩⟩⟩
    refine ⟨fun hb => ?_, fun i hi hs hp => ?_⟩
    · obtain ⟨q1, q2⟩ := hf.1 hb
      obtain ⟨q3, q4⟩ := a1 q1
      exact ⟨q3, fun q => q4 (aBet_tr2 q2 q)⟩
    · cases i with
      | zero =>
        obtain ⟨q1, q2⟩ := hf.2 hs hp
        obtain ⟨q3, q4⟩ := a1 q1
        exact ⟨q3, fun q => q4 (aBet_tr2 q2 q)⟩
      | succ i => exact a2 i (by simpa using hi) hs hp
theorem upL_o {h : Nat → Int} {k i w : Nat} (hi : i < L.length) (hw : w ≠ 4) : lG (upL s p h L k) i w = lG L i w := by
  rw [upL_at L k i hi]
  split
  · exact upd1_n hw
  · rfl
theorem aNext_up {h : Nat → Int} {t q : Int} {k : Nat} : aNext t q (upL s p h L k) = aNext t q L := by
  unfold aNext
  have : ∀ (L : List (Nat → Int)) (k : Nat) (b : Int), (upL s p h L k).foldl (aNextF t q) b = L.foldl (aNextF t q) b := by
    intro L
    induction L with
    | nil => intro k b; rfl
    | cons o L ih =>
      intro k b
      unfold upL
      split
      · rw [List.foldl_cons, List.foldl_cons, ih]
        rfl
      · rw [List.foldl_cons, List.foldl_cons, ih]
  exact this L k 0
/-- bounds of what goes at a price -/
theorem oOk' (hl : lOk L) (hK : 0 ≤ X.2.2.1 ∧ X.2.2.1 ≤ 60000) (hL1 : 1 ≤ L1 ∧ L1 ≤ 50) : shOk (oS s p L) (fun _ => 0) X.2.2.1 L1 (lvl s p L).length := by
  have h60 := hl.1
  have hle : (lvl s p L).length ≤ L.length := flt_le
  refine ⟨by omega, fun i hi => ?_, fun i _ => ⟨Int.le_refl _, (show (0 : Int) ≤ 1000 by decide)⟩, hK, hL1⟩
  obtain ⟨-, j, h2, -, h4⟩ := flt_in (p := aAt s p) (L := L) hi
  have e : oS s p L i = lG L j 4 := by
    show lG (lvl s p L) i 4 = _
    unfold lvl
    rw [h4]
  rw [e]
  exact (hl.2 j h2).2.2.2.2.1
theorem oS_sum : sumN (oS s p L) (lvl s p L).length = aS (wZ s p) L := by
  rw [← sumZ (l := L) (s := s) (p := p), ← (lvl_J (s := s) (p := p) (l := L)).1]
  refine sumN_congr (fun i hi => ?_)
  unfold oS jS
  rw [lvl_J.2 i hi]
theorem aS_sd_up {h : Nat → Int} : ∀ (L : List (Nat → Int)) (k : Nat), aS (wSd s) (upL s p h L k) = aS (wSd s) L - (sumN h (k + (lvl s p L).length) - sumN h k) := by
  intro L
  induction L with
  | nil => intro k; show 0 = 0 - (sumN h (k + 0) - sumN h k); rw [Nat.add_zero]; omega
  | cons o t ih =>
    intro k
    unfold upL lvl
    by_cases c : aAt s p o = true
    · have i1 := ih (k + 1)
      have e2 : wSd s o = o 4 := if_pos (aAt_e c).1
      have e3 : wSd s (upd1 o 4 (o 4 - h k)) = o 4 - h k := by
        unfold wSd
        rw [upd1_n (show (2 : Nat) ≠ 4 by decide), if_pos (aAt_e c).1, upd1_s]
      rw [if_pos c, List.filter_cons_of_pos c, List.length_cons, aS_cons, aS_cons, i1, e2, e3]
      have e1 : sumN h (k + 1) = sumN h k + h k := rfl
      have e4 : k + 1 + (lvl s p t).length = k + ((List.filter (aAt s p) t).length + 1) := by unfold lvl; omega
      rw [e4]
      omega
    · have i1 := ih k
      rw [if_neg c, List.filter_cons_of_neg c, aS_cons, aS_cons, i1]
      unfold lvl
      omega
end ORUN
