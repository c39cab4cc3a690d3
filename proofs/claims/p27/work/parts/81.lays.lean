/-! PURE: the reference lays out, and finds its top there -/
def dRf (G : qG) (m : Nat) (fs as : Nat → Prop) (μ ν : qM) : Prop := (∀ g a, ¬ (a = m ∧ fs g) → gI ν g a = gI μ g a) ∧ (∀ a i, (∀ f, as f → a ≠ gR G f m) → gA ν a i = gA μ a i) ∧ ∀ a i, gQ ν a i = gQ μ a i
theorem dRf.rf {G : qG} {m : Nat} {fs as : Nat → Prop} {μ : qM} : dRf G m fs as μ μ := ⟨fun _ _ _ => rfl, fun _ _ _ => rfl, fun _ _ => rfl⟩
theorem dRf.tr {G : qG} {m : Nat} {fs as : Nat → Prop} {μ ν ξ : qM} (h1 : dRf G m fs as μ ν) (h2 : dRf G m fs as ν ξ) : dRf G m fs as μ ξ := ⟨fun f a h => (h2.1 f a h).trans (h1.1 f a h), fun a i h => (h2.2.1 a i h).trans (h1.2.1 a i h), fun a i => (h2.2.2 a i).trans (h1.2.2 a i)⟩
theorem dRf.mono {G : qG} {m : Nat} {fs as fs' as' : Nat → Prop} {μ ν : qM} (h : dRf G m fs as μ ν) (h1 : ∀ g, fs g → fs' g) (h2 : ∀ g, as g → as' g) : dRf G m fs' as' μ ν := ⟨fun g a x => h.1 g a (fun y => x ⟨y.1, h1 _ y.2⟩), fun a i x => h.2.1 a i (fun f hf => x f (h2 f hf)), h.2.2⟩
theorem dRf.sI {G : qG} {m : Nat} {fs as : Nat → Prop} {μ : qM} {g : Nat} {v : Int} (h : fs g) : dRf G m fs as μ (sI μ g m v) := ⟨fun g' a x => by rw [gI_sI, if_neg (fun e => x ⟨e.2, by rw [e.1]; exact h⟩)], fun _ _ _ => rfl, fun _ _ => rfl⟩
theorem dRf.sA {G : qG} {m : Nat} {fs as : Nat → Prop} {μ : qM} {g i : Nat} {v : Int} (h : as g) : dRf G m fs as μ (sA μ (gR G g m) i v) := ⟨fun _ _ _ => rfl, fun a i x => gA_a (x g h), fun _ _ => rfl⟩
theorem dX.rfm {G : qG} {m : Nat} {fs as : Nat → Prop} {μ ν : qM} (h : dX G m μ ν) (h0 : as 800) : dRf G m fs as μ ν := ⟨fun g a _ => h.1 g a, fun a i x => h.2.1 a i (x 800 h0), h.2.2⟩
/-- the fields and arrays in which the reference only works -/
def wF (g : Nat) : Prop := g = 804 ∨ g = 805
def wA (g : Nat) : Prop := 806 ≤ g ∧ g ≤ 810
theorem dSh.rfm {G : qG} {m : Nat} {μ ν : qM} (h : dSh G m μ ν) : dRf G m wF wA μ ν := ⟨fun g a _ => h.1 g a, fun a i x => h.2.1 a i (x 808 (by unfold wA; omega)) (x 809 (by unfold wA; omega)) (x 810 (by unfold wA; omega)), h.2.2⟩
section LAY
variable {N : Nat} {G : qG} {m : Nat} {μ ν : qM} {l : List (Nat → Int)} {T D : Nat → Int} {tr : Nat → Nat → Int} {n : Nat} {B : Nat → Int}
theorem mR.frm (hL : mL G m) (h : mR G m μ l T D tr n B) (hd : dRf G m wF wA μ ν) : mR G m ν l T D tr n B := by
  have e : ∀ g, (g = 800 ∨ g = 802 ∨ g = 821) → ∀ i, gA ν (gR G g m) i = gA μ (gR G g m) i := by
    intro g hg i
    refine hd.2.1 _ _ (fun f hf => ?_)
    unfold wA at hf
    have hf' : f = 806 ∨ f = 807 ∨ f = 808 ∨ f = 809 ∨ f = 810 := by omega
    rcases hg with rfl | rfl | rfl <;> rcases hf' with rfl | rfl | rfl | rfl | rfl <;> exact hL.ne (by decide) (by decide) (by decide)
  have e0 := e 800 (Or.inl rfl)
  have e2 := e 802 (Or.inr (Or.inl rfl))
  have e21 := e 821 (Or.inr (Or.inr rfl))
  exact ⟨⟨by rw [e0]; exact h.1.1, fun i k hi hk => by rw [e0]; exact h.1.2 i k hi hk⟩, fun j a1 a2 => by rw [e0]; exact h.2.1 j a1 a2, fun t ht => by rw [e2]; exact h.2.2.1 t ht, fun i w hi hw => by rw [e0]; exact h.2.2.2.1 i w hi hw, by rw [hd.1 _ _ (fun x => by have := x.2; unfold wF at this; omega)]; exact h.2.2.2.2.1, h.2.2.2.2.2.1, fun i hi => by rw [e21]; exact h.2.2.2.2.2.2 i hi⟩
def mHas (G : qG) (m : Nat) (μ : qM) (l : List (Nat → Int)) (J : List Nat) : Prop :=
  gI μ 805 m = (J.length : Int) ∧ ∀ k, k < J.length → gA μ (gR G 806 m) k = (jG J k : Int) ∧ gA μ (gR G 807 m) k = jS l J k
theorem z_lays8 (hL : mL G m) (h : mR G m μ l T D tr n B) (hn : l.length ≤ 60) (hN : 100 < N) (s p : Int) :
    ∃ ν, f_X8_lays N G m s p μ = some ν ∧ dRf G m wF wA μ ν ∧ mHas G m ν l (aJ s p l l.length) := by
  have n67 : gR G 806 m ≠ gR G 807 m := hL.ne (by decide) (by decide) (by decide)
  unfold f_X8_lays f_X8_lays_L7
  rw [kp_p]
  refine qLoop_inv
    (fun i st => ∃ mem, st = (m, s, p, (i : Int), mem) ∧ dRf G m wF wA μ mem ∧ mHas G m mem l (aJ s p l i))
    (fun r => ∃ ν, r = some ν ∧ dRf G m wF wA μ ν ∧ mHas G m ν l (aJ s p l l.length))
    l.length ?_ ?_ l.length 0 N _ (by omega) (by omega) ?_
  · rintro i st hi ⟨mem, rfl, hd, h5, hr⟩
    refine Or.inr ?_
    have hm := h.frm hL hd
    have hb := hm.1
    have jl := aJ_len (s := s) (p := p) (l := l) i
    by_cases c : aAt s p (lG l i) = true
    · refine ⟨_, ⟨sI (sA (sA mem (gR G 806 m) (aJ s p l i).length i) (gR G 807 m) (aJ s p l i).length (lG l i 4)) 805 m (((aJ s p l i).length + 1 : Nat) : Int), rfl, hd.tr (((dRf.sA (by unfold wA; omega)).tr (dRf.sA (by unfold wA; omega))).tr (dRf.sI (by unfold wF; omega))), ?_⟩, fun k => ?_⟩
      · rw [aJ_y c]
        refine ⟨by rw [gI_s, List.length_append]; rfl, fun k hk => ?_⟩
        rw [List.length_append] at hk
        have hk' : k < (aJ s p l i).length + 1 := hk
        unfold jS
        rw [jG_app]
        show gA (sA (sA mem (gR G 806 m) (aJ s p l i).length i) (gR G 807 m) (aJ s p l i).length (lG l i 4)) _ k = _ ∧ gA (sA (sA mem (gR G 806 m) (aJ s p l i).length i) (gR G 807 m) (aJ s p l i).length (lG l i 4)) _ k = _
        by_cases d : k = (aJ s p l i).length
        · subst d
          rw [if_pos rfl, gA_a n67, gA_s, gA_s]
          exact ⟨rfl, rfl⟩
        · rw [if_neg d, gA_i d, gA_i d, gA_i d, gA_i d]
          exact hr k (by omega)
      · show f_X8_lays_7 N G _ m s p (i : Int) mem = _
        have hm2 : mR G m (sA mem (gR G 806 m) (aJ s p l i).length (i : Int)) l T D tr n B := hm.frm hL (dRf.sA (by unfold wA; omega))
        unfold f_X8_lays_7 f_X8_lays_65
        rw [hb.1, if_pos (by omega), kb2_p (z_isAt8 hb hn hi), b01_ite, if_pos c, h5, wrA_p ⟨by omega, by omega⟩, Int.toNat_natCast, kb2_p (z8_4 hm2.1 hn hi), gI_sA, h5, wrA_p ⟨by omega, by omega⟩, gI_sA, gI_sA, h5, ckI_p ⟨by omega, by omega⟩, kp_p, ckI_p ⟨by omega, by omega⟩, cast1, Int.toNat_natCast, cast1]
    · refine ⟨_, ⟨mem, rfl, hd, by rw [aJ_n c]; exact ⟨h5, hr⟩⟩, fun k => ?_⟩
      show f_X8_lays_7 N G _ m s p (i : Int) mem = _
      unfold f_X8_lays_7 f_X8_lays_65
      rw [hb.1, if_pos (by omega), kb2_p (z_isAt8 hb hn hi), b01_ite, if_neg c, ckI_p ⟨by omega, by omega⟩, cast1]
  · rintro st ⟨mem, rfl, hd, hh⟩
    refine ⟨_, ⟨mem, rfl, hd, hh⟩, fun k => ?_⟩
    have hb := (h.frm hL hd).1
    show f_X8_lays_7 N G _ m s p (l.length : Int) mem = _
    unfold f_X8_lays_7
    rw [hb.1, if_neg (by omega)]
  · exact ⟨_, rfl, dRf.sI (by unfold wF; omega), by rw [gI_s]; rfl, fun k hk => by cases hk⟩
theorem z_laidInAll8 {S : Nat → Int} {c : Nat} (h5 : gI μ 805 m = (c : Int)) (hS : ∀ k, k < c → gA μ (gR G 807 m) k = S k) (hb : ∀ k, k < c → 0 ≤ S k ∧ S k ≤ 1000) (hc : c ≤ 60) (hN : 100 < N) : f_X8_laidInAll N G m μ = some (sumN S c, μ) := by
  unfold f_X8_laidInAll f_X8_laidInAll_L4
  refine qLoop_end (fun j => (m, sumN S j, (j : Int), μ)) c N (by omega) (fun j hj k => ?_) (fun k => ?_)
  · show f_X8_laidInAll_4 N G _ m (sumN S j) (j : Int) μ = k (m, sumN S j + S j, ((j + 1 : Nat) : Int), μ)
    have b1 := sumN_bd (f := S) (M := 1000) (c := j) (fun i hi => hb i (by omega))
    have b2 := hb j hj
    unfold f_X8_laidInAll_4
    rw [h5, if_pos (by omega), rdA_p ⟨by omega, by omega⟩, Int.toNat_natCast, hS j hj, ckI_p ⟨by omega, by omega⟩, ckI_p ⟨by omega, by omega⟩, cast1]
  · show f_X8_laidInAll_4 N G _ m (sumN S c) (c : Int) μ = _
    unfold f_X8_laidInAll_4
    rw [h5, if_neg (by omega)]
/-- numbers rise by time -/
def nInc (l : List (Nat → Int)) : Prop := ∀ i j, i < j → j < l.length → lG l i 0 < lG l j 0
theorem nInc.inj {l : List (Nat → Int)} (h : nInc l) {i j : Nat} (hi : i < l.length) (hj : j < l.length) (e : lG l i 0 = lG l j 0) : i = j := by
  rcases Nat.lt_trichotomy i j with q | q | q
  · have := h i j q hj; omega
  · exact q
  · have := h j i q hi; omega
/-- the top's place in the row: its grant alone counts there -/
theorem z_topLaid8 (h : mR G m μ l T D tr n B) (hl : lOk l) (hi : nInc l) (hN : 100 < N) {s p : Int} (hs : s = 0 ∨ s = 1) (hh : mHas G m μ l (aJ s p l l.length)) :
    ∃ t, f_X8_topLaid N G m s μ = some (t, μ) ∧ (t = -1 ∨ (0 ≤ t ∧ t < ((aJ s p l l.length).length : Int))) ∧ (∀ k, k < (aJ s p l l.length).length → topG t (T (8 + s.toNat)) k = jGr T l (aJ s p l l.length) k) ∧
      (∀ q : Nat, t = (q : Int) → lG l (jG (aJ s p l l.length) q) 0 = T (6 + s.toNat)) ∧ (t = -1 → ∀ k, k < (aJ s p l l.length).length → lG l (jG (aJ s p l l.length) k) 0 ≠ T (6 + s.toNat)) := by
  have hn := hl.1
  have hc := aJ_len (s := s) (p := p) (l := l) l.length
  have hjl : ∀ k, k < (aJ s p l l.length).length → jG (aJ s p l l.length) k < l.length := fun k hk => (aJ_in _ k hk).1
  have h2 : ∀ k, k < (aJ s p l l.length).length → lG l (jG (aJ s p l l.length) k) 2 = s := fun k hk => (aAt_e (aJ_in _ k hk).2).1
  have hg : ∀ k, k < (aJ s p l l.length).length → jGr T l (aJ s p l l.length) k = if T (6 + s.toNat) = lG l (jG (aJ s p l l.length) k) 0 then T (8 + s.toNat) else 0 := fun k hk => by unfold jGr oGr; rw [h2 k hk]
  have hinj : ∀ j k, j < (aJ s p l l.length).length → k < (aJ s p l l.length).length → lG l (jG (aJ s p l l.length) j) 0 = lG l (jG (aJ s p l l.length) k) 0 → j = k := fun j k hj hk e => aJ_inj hj hk (hi.inj (hjl j hj) (hjl k hk) e)
  generalize aJ s p l l.length = J at *
  unfold f_X8_topLaid f_X8_topLaid_L2
  refine qLoop_inv (fun i st => st = (m, s, (i : Int), μ) ∧ ∀ k, k < i → lG l (jG J k) 0 ≠ T (6 + s.toNat))
    (fun r => ∃ t, r = some (t, μ) ∧ (t = -1 ∨ (0 ≤ t ∧ t < (J.length : Int))) ∧ (∀ k, k < J.length → topG t (T (8 + s.toNat)) k = jGr T l J k) ∧ (∀ q : Nat, t = (q : Int) → lG l (jG J q) 0 = T (6 + s.toNat)) ∧ (t = -1 → ∀ k, k < J.length → lG l (jG J k) 0 ≠ T (6 + s.toNat)))
    J.length ?_ ?_ J.length 0 N _ (by omega) (by omega) ?_
  · rintro i st hii ⟨rfl, hne⟩
    have e1 := (hh.2 i hii).1
    have e6 := h.x (j := 6 + s.toNat) (i := 6 + s) (by omega) (by omega) (by omega)
    have stp : ∀ k, f_X8_topLaid_2 N G k m s (i : Int) μ = if lG l (jG J i) 0 = T (6 + s.toNat) then some ((i : Int), μ) else f_X8_topLaid_44 N G k m s (i : Int) μ := by
      intro k
      unfold f_X8_topLaid_2
      rw [hh.1, if_pos (by omega), rdA_p ⟨by omega, by omega⟩, Int.toNat_natCast, e1, if_neg (by omega), rdA_p ⟨by omega, by omega⟩, Int.toNat_natCast, e1, kb2_p (z8_0 h.1 hn (hjl i hii)), ckI_p ⟨by omega, by omega⟩, rdA_p ⟨by omega, by omega⟩, e6]
    by_cases c : lG l (jG J i) 0 = T (6 + s.toNat)
    · refine Or.inl ⟨some ((i : Int), μ), ⟨(i : Int), rfl, Or.inr ⟨by omega, by omega⟩, fun k hk => ?_, fun q hq => ?_, fun hq => by omega⟩, fun k => ?_⟩
      · rw [hg k hk]
        unfold topG
        by_cases d : k = i
        · subst d; rw [if_pos rfl, if_pos c.symm]
        · rw [if_neg (by omega), if_neg (fun e => d (hinj k i hk hii (by rw [c, ← e])))]
      · have : i = q := by omega
        subst this; exact c
      · exact (stp _).trans (if_pos c)
    · refine Or.inr ⟨_, ⟨rfl, fun k hk => ?_⟩, fun k => ?_⟩
      · by_cases d : k = i
        · subst d; exact c
        · exact hne k (by omega)
      · refine ((stp _).trans (if_neg c)).trans ?_
        unfold f_X8_topLaid_44
        rw [ckI_p ⟨by omega, by omega⟩, cast1]
  · rintro st ⟨rfl, hne⟩
    refine ⟨_, ⟨-1, rfl, Or.inl rfl, fun k hk => ?_, fun q hq => by omega, fun _ => hne⟩, fun k => ?_⟩
    · rw [hg k hk]
      unfold topG
      rw [if_neg (by omega), if_neg (fun e => hne k hk e.symm)]
    · show f_X8_topLaid_2 N G _ m s (J.length : Int) μ = _
      unfold f_X8_topLaid_2
      rw [hh.1, if_neg (by omega)]
  · exact ⟨rfl, fun k hk => by omega⟩
end LAY
/-- sharing depends on the grants of its rows alone -/
theorem shL_congr {S g g' : Nat → Int} {K : Int} {c : Nat} (h : ∀ i, i < c → g i = g' i) : ∀ i, i ≤ c → shL S g K i = shL S g' K i := by
  intro i
  induction i with
  | zero => intro _; rfl
  | succ i ih =>
    intro hi
    show shL S g K i - min (shL S g K i) (min (S i) (g i)) = shL S g' K i - min (shL S g' K i) (min (S i) (g' i))
    rw [ih (by omega), h i (by omega)]
theorem sumN_congr {f f' : Nat → Int} : ∀ {c : Nat}, (∀ i, i < c → f i = f' i) → sumN f c = sumN f' c := by
  intro c
  induction c with
  | zero => intro _; rfl
  | succ c ih =>
    intro h
    show sumN f c + f c = sumN f' c + f' c
    rw [ih (fun i hi => h i (by omega)), h c (by omega)]
theorem shA_congr {S g g' : Nat → Int} {K : Int} {c : Nat} (h : ∀ i, i < c → g i = g' i) {i : Nat} (hi : i < c) : shA S g K i = shA S g' K i := by
  unfold shA
  rw [shL_congr h i (by omega), h i hi]
theorem shB_congr {S g g' : Nat → Int} {K L : Int} {c : Nat} (h : ∀ i, i < c → g i = g' i) {i : Nat} (hi : i < c) : shB S g K L c i = shB S g' K L c i := by
  unfold shB
  have e : shZ S g K c = shZ S g' K c := sumN_congr (fun j hj => by rw [shA_congr h hj])
  rw [shL_congr h c (Nat.le_refl _), shA_congr h hi, e]
theorem shR_congr {S g g' : Nat → Int} {K L : Int} {c : Nat} (h : ∀ i, i < c → g i = g' i) : ∀ i, i ≤ c → shR S g K L c i = shR S g' K L c i := by
  intro i
  induction i with
  | zero =>
    intro _
    show shL S g K c - sumN (shB S g K L c) c = shL S g' K c - sumN (shB S g' K L c) c
    rw [shL_congr h c (Nat.le_refl _), sumN_congr (fun j hj => shB_congr h hj)]
  | succ i ih =>
    intro hi
    show shR S g K L c i - min (shR S g K L c i) (S i - shA S g K i - shB S g K L c i) = shR S g' K L c i - min (shR S g' K L c i) (S i - shA S g' K i - shB S g' K L c i)
    rw [ih (by omega), shA_congr h (by omega), shB_congr h (by omega)]
theorem shC_congr {S g g' : Nat → Int} {K L : Int} {c : Nat} (h : ∀ i, i < c → g i = g' i) {i : Nat} (hi : i < c) : shC S g K L c i = shC S g' K L c i := by
  unfold shC
  rw [shR_congr h i (by omega), shA_congr h hi, shB_congr h hi]
theorem shOk.congr {S g g' : Nat → Int} {K L : Int} {c : Nat} (h : ∀ i, i < c → g i = g' i) (ho : shOk S g K L c) : shOk S g' K L c := ⟨ho.1, ho.2.1, fun i hi => by rw [← h i hi]; exact ho.2.2.1 i hi, ho.2.2.2.1, ho.2.2.2.2⟩
