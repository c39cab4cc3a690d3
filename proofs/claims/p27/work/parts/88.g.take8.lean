/-! PURE: a take at a price, in itself; and as the reference does it -/
def pOf (x : Int) : List (Nat → Int) → Int
  | [] => x
  | e :: _ => e 2
def sumW (E : List (Nat → Int)) : Int := aS (fun e => e 3) E
def sumY (E : List (Nat → Int)) : Int := aS (fun e => e 2 * e 3) E
theorem gP_of {l : List (Nat → Int)} {J : List Nat} {came p : Int} {v : Nat → Int} {kind x : Int} {E : List (Nat → Int)} : ∀ k, gP p v (pOf x E) k = pOf x (gE l J came p v kind E k) := by
  intro k
  induction k with
  | zero => rfl
  | succ k ih =>
    show (if 0 < v k then p else gP p v (pOf x E) k) = pOf x (if 0 < v k then tRow (lG l (jG J k)) came p (v k) kind :: gE l J came p v kind E k else gE l J came p v kind E k)
    by_cases c : 0 < v k
    · rw [if_pos c, if_pos c]; rfl
    · rw [if_neg c, if_neg c]; exact ih
theorem gE_W {l : List (Nat → Int)} {J : List Nat} {came p : Int} {v : Nat → Int} {kind : Int} {E : List (Nat → Int)} : ∀ k, (∀ j, j < k → 0 ≤ v j) → sumW (gE l J came p v kind E k) = sumW E + sumN v k ∧ sumY (gE l J came p v kind E k) = sumY E + p * sumN v k := by
  intro k
  induction k with
  | zero => intro _; exact ⟨by show sumW E = sumW E + 0; omega, by show sumY E = sumY E + p * 0; omega⟩
  | succ k ih =>
    intro h
    obtain ⟨h1, h2⟩ := ih (fun j hj => h j (by omega))
    have hk := h k (by omega)
    show sumW (if 0 < v k then tRow (lG l (jG J k)) came p (v k) kind :: gE l J came p v kind E k else gE l J came p v kind E k) = sumW E + (sumN v k + v k) ∧ sumY (if 0 < v k then tRow (lG l (jG J k)) came p (v k) kind :: gE l J came p v kind E k else gE l J came p v kind E k) = sumY E + p * (sumN v k + v k)
    rw [Int.mul_add]
    by_cases c : 0 < v k
    · rw [if_pos c]
      have e1 : sumW (tRow (lG l (jG J k)) came p (v k) kind :: gE l J came p v kind E k) = v k + sumW (gE l J came p v kind E k) := rfl
      have e2 : sumY (tRow (lG l (jG J k)) came p (v k) kind :: gE l J came p v kind E k) = p * v k + sumY (gE l J came p v kind E k) := rfl
      exact ⟨by omega, by omega⟩
    · rw [if_neg c]
      have : v k = 0 := by omega
      rw [this, Int.mul_zero]
      exact ⟨by omega, by omega⟩
/-- where the top lies in the row; its length: nowhere -/
def tpQ (l : List (Nat → Int)) (J : List Nat) (n : Int) : Nat → Nat
  | 0 => J.length
  | k + 1 => if lG l (jG J k) 0 = n then k else tpQ l J n k
theorem tpQ_sp {l : List (Nat → Int)} {J : List Nat} {n : Int} : ∀ k, k ≤ J.length → (tpQ l J n k = J.length ∧ ∀ j, j < k → lG l (jG J j) 0 ≠ n) ∨ (tpQ l J n k < k ∧ lG l (jG J (tpQ l J n k)) 0 = n) := by
  intro k
  induction k with
  | zero => intro _; exact Or.inl ⟨rfl, fun j hj => by omega⟩
  | succ k ih =>
    intro hk
    show ((if lG l (jG J k) 0 = n then k else tpQ l J n k) = _ ∧ _) ∨ ((if lG l (jG J k) 0 = n then k else tpQ l J n k) < k + 1 ∧ lG l (jG J (if lG l (jG J k) 0 = n then k else tpQ l J n k)) 0 = n)
    by_cases c : lG l (jG J k) 0 = n
    · rw [if_pos c]; exact Or.inr ⟨by omega, c⟩
    · rw [if_neg c]
      rcases ih (by omega) with h | h
      · refine Or.inl ⟨h.1, fun j hj => ?_⟩
        by_cases d : j = k
        · subst d; exact c
        · exact h.2 j (by omega)
      · exact Or.inr ⟨by omega, h.2⟩
/-- a market's numbers, as far as sharing needs them -/
def mkT (U : Nat → Int) (L1 : Int) (j : Nat) : Int := if 6 ≤ j ∧ j ≤ 9 then U j else if j = 1 then L1 else if j = 4 then 2000000000 else 0
def uOk (l : List (Nat → Int)) (U : Nat → Int) (L1 : Int) : Prop := mOk l (mkT U L1)
theorem mkT_u {U : Nat → Int} {L1 : Int} {j : Nat} (h : 6 ≤ j ∧ j ≤ 9) : mkT U L1 j = U j := if_pos h
section UOK
variable {l : List (Nat → Int)} {U T : Nat → Int} {L1 : Int}
theorem uOk.lo (h : uOk l U L1) : lOk l := mOk.lo h
theorem uOk.pos (h : uOk l U L1) : ∀ j, j < l.length → 0 < lG l j 4 := mOk.pos h
theorem uOk.inc (h : uOk l U L1) : nInc l := mOk.inc h
theorem uOk.l1 (h : uOk l U L1) : 1 ≤ L1 ∧ L1 ≤ 50 := mOk.t1 h
theorem uOk.top (h : uOk l U L1) : ∀ s, s < 2 → (U (6 + s) = -1 ∧ U (8 + s) = 0) ∨ (1 ≤ U (6 + s) ∧ 1 ≤ U (8 + s) ∧ U (8 + s) ≤ 1000) := by
  intro s hs
  have := mOk.top h s hs
  rw [mkT_u (by omega), mkT_u (by omega)] at this
  exact this
theorem uOk.mk (h1 : lOk l) (h2 : ∀ j, j < l.length → 0 < lG l j 4) (h3 : nInc l) (h4 : 1 ≤ L1 ∧ L1 ≤ 50) (h5 : ∀ s, s < 2 → (U (6 + s) = -1 ∧ U (8 + s) = 0) ∨ (1 ≤ U (6 + s) ∧ 1 ≤ U (8 + s) ∧ U (8 + s) ≤ 1000)) : uOk l U L1 :=
  ⟨h1, h2, h3, fun j hj => (h1.2 j hj).1.2, (show (0 : Int) ≤ 0 ∧ (0 : Int) ≤ 1000 by decide), h4, Or.inl rfl, (show (0 : Int) ≤ 0 ∧ (0 : Int) ≤ 9999999 by decide), (show (0 : Int) ≤ 2000000000 by decide), (show (0 : Int) ≤ 0 ∧ (0 : Int) ≤ 60 by decide), fun s hs => by rw [mkT_u (by omega), mkT_u (by omega)]; exact h5 s hs, fun h => by cases h⟩
theorem uOk.of (h : mOk l T) : uOk l T (T 1) := uOk.mk h.lo h.pos h.inc h.t1 h.top
theorem jGr_mk {J : List Nat} (hl : lOk l) (hJ : ∀ k, k < J.length → jG J k < l.length) {T : Nat → Int} (hT : ∀ j, 6 ≤ j → j ≤ 9 → T j = U j) {k : Nat} (hk : k < J.length) : jGr T l J k = jGr U l J k := by
  have hs := (hl.2 _ (hJ k hk)).2.2.1
  unfold jGr oGr
  rw [hT _ (by omega) (by omega), hT _ (by omega) (by omega)]
theorem ujOk {s p K : Int} (h : uOk l U L1) (hK : 0 ≤ K ∧ K ≤ 60000) : shOk (jS l (aJ s p l l.length)) (jGr U l (aJ s p l l.length)) K L1 (aJ s p l l.length).length :=
  (jOk (s := s) (p := p) (K := K) h hK l.length (Nat.le_refl _)).congr (fun k hk => jGr_mk h.lo (fun k hk => (aJ_in _ k hk).1) (fun j h6 h9 => mkT_u ⟨h6, h9⟩) hk)
theorem aLap_top {s : Nat} (hs : s < 2) (h : ∀ s, s < 2 → (U (6 + s) = -1 ∧ U (8 + s) = 0) ∨ (1 ≤ U (6 + s) ∧ 1 ≤ U (8 + s) ∧ U (8 + s) ≤ 1000)) : ∀ t, t < 2 → (aLap U s (6 + t) = -1 ∧ aLap U s (8 + t) = 0) ∨ (1 ≤ aLap U s (6 + t) ∧ 1 ≤ aLap U s (8 + t) ∧ aLap U s (8 + t) ≤ 1000) := by
  intro t ht
  have h1 := h t ht
  unfold aLap
  by_cases c : t = s
  · subst c
    rw [upd1_n (by omega), upd1_s, upd1_s]
    exact Or.inl ⟨rfl, rfl⟩
  · rw [upd1_n (by omega), upd1_n (by omega), upd1_n (by omega), upd1_n (by omega)]
    exact h1
theorem aSw_top : ∀ {L : List (Nat → Int)} {U : Nat → Int}, (∀ i, i < L.length → oNs (lG L i)) → (∀ s, s < 2 → (U (6 + s) = -1 ∧ U (8 + s) = 0) ∨ (1 ≤ U (6 + s) ∧ 1 ≤ U (8 + s) ∧ U (8 + s) ≤ 1000)) → ∀ s, s < 2 → (aSw U L (6 + s) = -1 ∧ aSw U L (8 + s) = 0) ∨ (1 ≤ aSw U L (6 + s) ∧ 1 ≤ aSw U L (8 + s) ∧ aSw U L (8 + s) ≤ 1000) := by
  intro L
  induction L with
  | nil => intro U _ h; exact h
  | cons o t ih =>
    intro U hn h
    refine ih (U := aSwF U o) (fun i hi => hn (i + 1) (by simpa using hi)) ?_
    have ho : oNs o := hn 0 (by simp)
    have h2 := ho.2
    unfold aSwF
    split
    · exact h
    · unfold aGo
      split
      · exact aLap_top (by omega) h
      · exact h
theorem uG_top {s : Nat} {g : Int} (hs : s < 2) (hg : 0 ≤ g ∧ g ≤ U (8 + s)) (hU : 1 ≤ U (8 + s)) (h : ∀ s, s < 2 → (U (6 + s) = -1 ∧ U (8 + s) = 0) ∨ (1 ≤ U (6 + s) ∧ 1 ≤ U (8 + s) ∧ U (8 + s) ≤ 1000)) : ∀ t, t < 2 → (uG U s g (6 + t) = -1 ∧ uG U s g (8 + t) = 0) ∨ (1 ≤ uG U s g (6 + t) ∧ 1 ≤ uG U s g (8 + t) ∧ uG U s g (8 + t) ≤ 1000) := by
  intro t ht
  unfold uG
  split
  · exact aLap_top hs h t ht
  · rename_i c
    have h1 := h t ht
    have h2 := h s hs
    rw [upd1_n (by omega)]
    by_cases e : t = s
    · subst e; rw [upd1_s]; omega
    · rw [upd1_n (by omega)]; exact h1
end UOK
/-- what becomes of the market by a take of K at price p of side so: orders, tops, trades -/
def kA (l : List (Nat → Int)) (U : Nat → Int) (so p K : Int) (k : Nat) : Int := shA (jS l (aJ so p l l.length)) (jGr U l (aJ so p l l.length)) K k
def kB (l : List (Nat → Int)) (U : Nat → Int) (L1 so p K : Int) (k : Nat) : Int := shB (jS l (aJ so p l l.length)) (jGr U l (aJ so p l l.length)) K L1 (aJ so p l l.length).length k
def kC (l : List (Nat → Int)) (U : Nat → Int) (L1 so p K : Int) (k : Nat) : Int := shC (jS l (aJ so p l l.length)) (jGr U l (aJ so p l l.length)) K L1 (aJ so p l l.length).length k
def kE (l : List (Nat → Int)) (U : Nat → Int) (L1 num so p K : Int) (E : List (Nat → Int)) : List (Nat → Int) :=
  gE l (aJ so p l l.length) num p (kC l U L1 so p K) 2 (gE l (aJ so p l l.length) num p (kB l U L1 so p K) 1 (gE l (aJ so p l l.length) num p (kA l U so p K) 0 E (aJ so p l l.length).length) (aJ so p l l.length).length) (aJ so p l l.length).length
def kL (l : List (Nat → Int)) (U : Nat → Int) (L1 so p K : Int) : List (Nat → Int) := szs l (fB (aJ so p l l.length) (fun k => kA l U so p K k + kB l U L1 so p K k + kC l U L1 so p K k) (fun i => lG l i 4) (aJ so p l l.length).length)
def kQ (l : List (Nat → Int)) (U : Nat → Int) (so p : Int) : Nat := tpQ l (aJ so p l l.length) (U (6 + so.toNat)) (aJ so p l l.length).length
def kU1 (l : List (Nat → Int)) (U : Nat → Int) (so p K : Int) : Nat → Int := if kQ l U so p < (aJ so p l l.length).length then uG U so.toNat (kA l U so p K (kQ l U so p)) else U
def kU (l : List (Nat → Int)) (U : Nat → Int) (L1 so p K : Int) : Nat → Int := aSw (kU1 l U so p K) (kL l U L1 so p K)
section KF
variable {l : List (Nat → Int)} {U : Nat → Int} {L1 so p K : Int}
theorem kJ {k : Nat} (hk : k < (aJ so p l l.length).length) : jG (aJ so p l l.length) k < l.length := (aJ_in l.length k hk).1
theorem kS2 {k : Nat} (hk : k < (aJ so p l l.length).length) : lG l (jG (aJ so p l l.length) k) 2 = so := (aAt_e (aJ_in l.length k hk).2).1
theorem kInj {j k : Nat} (hj : j < (aJ so p l l.length).length) (hk : k < (aJ so p l l.length).length) (e : jG (aJ so p l l.length) j = jG (aJ so p l l.length) k) : j = k := aJ_inj hj hk e
/-- the bounds of what each has -/
theorem kBd (h : uOk l U L1) (hK : 0 ≤ K ∧ K ≤ aS (wZ so p) l) {k : Nat} (hk : k < (aJ so p l l.length).length) : 0 ≤ kA l U so p K k ∧ 0 ≤ kB l U L1 so p K k ∧ 0 ≤ kC l U L1 so p K k ∧ kA l U so p K k + kB l U L1 so p K k + kC l U L1 so p K k ≤ lG l (jG (aJ so p l l.length) k) 4 := by
  have hb := aS_bd (w := wZ so p) (wZ_bd h.lo)
  have h60 := h.lo.1
  have oo := ujOk (s := so) (p := p) (K := K) h ⟨hK.1, by omega⟩
  have hK' : K ≤ sumN (jS l (aJ so p l l.length)) (aJ so p l l.length).length := by rw [sumZ]; exact hK.2
  have a := shA_bd oo hk
  have b := shB_le oo hK' hk
  have c := shC_le oo hK' hk
  have e : jS l (aJ so p l l.length) k = lG l (jG (aJ so p l l.length) k) 4 := rfl
  unfold kA kB kC
  exact ⟨a.1, b.1, c.1, by omega⟩
theorem kAll (h : uOk l U L1) (hK : 0 ≤ K ∧ K ≤ aS (wZ so p) l) : sumN (kA l U so p K) (aJ so p l l.length).length + sumN (kB l U L1 so p K) (aJ so p l l.length).length + sumN (kC l U L1 so p K) (aJ so p l l.length).length = K := by
  have hb := aS_bd (w := wZ so p) (wZ_bd h.lo)
  have h60 := h.lo.1
  have oo := ujOk (s := so) (p := p) (K := K) h ⟨hK.1, by omega⟩
  exact sh_all oo (by rw [sumZ]; exact hK.2)
/-- the top alone has something by its grant -/
theorem kTop (h : uOk l U L1) (hs : so = 0 ∨ so = 1) (hK : 0 ≤ K ∧ K ≤ aS (wZ so p) l) : (∀ k, k < (aJ so p l l.length).length → k ≠ kQ l U so p → kA l U so p K k = 0) ∧ (∀ k, k < (aJ so p l l.length).length → 0 < kA l U so p K k → kA l U so p K k ≤ U (8 + so.toNat) ∧ U (8 + so.toNat) ≤ 1000) ∧ (kQ l U so p < (aJ so p l l.length).length → lG l (jG (aJ so p l l.length) (kQ l U so p)) 0 = U (6 + so.toNat) ∧ 1 ≤ U (8 + so.toNat)) := by
  have hb := aS_bd (w := wZ so p) (wZ_bd h.lo)
  have h60 := h.lo.1
  have oo := ujOk (s := so) (p := p) (K := K) h ⟨hK.1, by omega⟩
  have sp := tpQ_sp (l := l) (J := aJ so p l l.length) (n := U (6 + so.toNat)) (aJ so p l l.length).length (Nat.le_refl _)
  have g0 : ∀ k, k < (aJ so p l l.length).length → lG l (jG (aJ so p l l.length) k) 0 ≠ U (6 + so.toNat) → kA l U so p K k = 0 := by
    intro k hk hne
    have a := shA_bd oo hk
    have : jGr U l (aJ so p l l.length) k = 0 := by unfold jGr oGr; rw [kS2 hk, if_neg (fun e => hne e.symm)]
    unfold kA
    omega
  refine ⟨fun k hk hne => ?_, fun k hk hp => ?_, fun hq => ?_⟩
  · refine g0 k hk (fun e => ?_)
    rcases sp with sp | sp
    · exact sp.2 k hk e
    · exact hne (kInj hk sp.1 (h.inc.inj (kJ hk) (kJ sp.1) (by rw [e]; exact sp.2.symm)))
  · have a := shA_bd oo hk
    have ht := h.top so.toNat (by omega)
    have : jGr U l (aJ so p l l.length) k = U (8 + so.toNat) := by
      unfold jGr oGr
      rw [kS2 hk]
      by_cases c : lG l (jG (aJ so p l l.length) k) 0 = U (6 + so.toNat)
      · rw [if_pos c.symm]
      · have := g0 k hk c; omega
    unfold kA
    omega
  · rcases sp with sp | sp
    · have e : kQ l U so p = (aJ so p l l.length).length := sp.1
      omega
    · have ht := h.top so.toNat (by omega)
      have h1 := (h.lo.2 _ (kJ (so := so) (p := p) sp.1)).1.1
      have e : lG l (jG (aJ so p l l.length) (kQ l U so p)) 0 = U (6 + so.toNat) := sp.2
      have e' : lG l (jG (aJ so p l l.length) (kQ l U so p)) 0 = lG l (jG (aJ so p l l.length) (tpQ l (aJ so p l l.length) (U (6 + so.toNat)) (aJ so p l l.length).length)) 0 := rfl
      exact ⟨e, by omega⟩
/-- the orders behind a take, before the sweep -/
theorem kL_at (h : uOk l U L1) (hK : 0 ≤ K ∧ K ≤ aS (wZ so p) l) : ∀ i, i < l.length → 0 ≤ lG (kL l U L1 so p K) i 4 ∧ lG (kL l U L1 so p K) i 4 ≤ lG l i 4 := by
  intro i hi
  unfold kL
  rw [szs_4 hi]
  by_cases c : ∃ k, k < (aJ so p l l.length).length ∧ jG (aJ so p l l.length) k = i
  · obtain ⟨k, hk, rfl⟩ := c
    have := kBd h hK hk
    rw [fB_at (fun j k hj hk e => kInj hj hk e) hk _ (Nat.le_refl _), if_pos (by omega)]
    omega
  · rw [fB_o (fun k hk e => c ⟨k, hk, e⟩) _ (Nat.le_refl _)]
    have := h.pos i hi
    omega
theorem kL_lOk (h : uOk l U L1) (hK : 0 ≤ K ∧ K ≤ aS (wZ so p) l) : lOk (kL l U L1 so p K) := by
  refine szs_lOk h.lo (fun i hi => ?_)
  have h1 := kL_at h hK i hi
  have h2 := (h.lo.2 i hi).2.2.2.2.1
  unfold kL at h1
  rw [szs_4 hi] at h1
  omega
theorem kU1_top (h : uOk l U L1) (hs : so = 0 ∨ so = 1) (hK : 0 ≤ K ∧ K ≤ aS (wZ so p) l) : ∀ s, s < 2 → (kU1 l U so p K (6 + s) = -1 ∧ kU1 l U so p K (8 + s) = 0) ∨ (1 ≤ kU1 l U so p K (6 + s) ∧ 1 ≤ kU1 l U so p K (8 + s) ∧ kU1 l U so p K (8 + s) ≤ 1000) := by
  unfold kU1
  split
  · rename_i hq
    obtain ⟨a, b, c⟩ := kTop h hs hK
    have hc := c hq
    have hb := kBd h hK hq
    refine uG_top (by omega) ⟨hb.1, ?_⟩ hc.2 h.top
    by_cases z : 0 < kA l U so p K (kQ l U so p)
    · exact (b _ hq z).1
    · omega
  · exact h.top
/-- behind a take all is in order again -/
theorem uOk.take (h : uOk l U L1) (hs : so = 0 ∨ so = 1) (hK : 0 ≤ K ∧ K ≤ aS (wZ so p) l) : uOk ((kL l U L1 so p K).filter aKp) (kU l U L1 so p K) L1 :=
  uOk.mk (kL_lOk h hK).flt kp_pos (h.inc.szs.flt) h.l1 (aSw_top (fun i hi => ((kL_lOk h hK).2 i hi).ns) (kU1_top h hs hK))
end KF
