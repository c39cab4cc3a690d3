/-! PURE: the law's market behind the take -/
section AFT
variable {l : List (Nat → Int)} {T D U : Nat → Int} {tr : Nat → Nat → Int} {q n : Nat} {s g L K num : Int} {sz : Nat → Int}
abbrev hA (sz : Nat → Int) (g K : Int) (k : Nat) : Int := shA sz (gOne g) K k
abbrev hB (sz : Nat → Int) (g K L : Int) (n k : Nat) : Int := shB sz (gOne g) K L n k
abbrev hC (sz : Nat → Int) (g K L : Int) (n k : Nat) : Int := shC sz (gOne g) K L n k
theorem k_h (hr : Rw l q n s sz) (hs : s = 0 ∨ s = 1) (h6 : U (6 + s.toNat) = (if g = 0 then -1 else (q : Int) + 1)) (h8 : U (8 + s.toNat) = (if g = 0 then 0 else g)) {k : Nat} (hk : k < n) :
    kA l U s 100 K k = hA sz g K k ∧ kB l U L s 100 K k = hB sz g K L n k ∧ kC l U L s 100 K k = hC sz g K L n k := by
  have hc := hr.cg hs h6 h8
  unfold kA kB kC
  rw [hr.len]
  exact ⟨shA_cg hc hk, shB_cg hc hk, shC_cg hc hk⟩
theorem h_bd (h : Mk l T D q n s g L sz) (hs : s = 0 ∨ s = 1) (hn : 1 ≤ n ∧ n ≤ 8) (hK : 1 ≤ K ∧ K ≤ sumN sz n) :
    (∀ k, k < n → 0 ≤ hA sz g K k ∧ 0 ≤ hB sz g K L n k ∧ 0 ≤ hC sz g K L n k ∧ hA sz g K k + hB sz g K L n k + hC sz g K L n k ≤ sz k) ∧
    sumN (hA sz g K) n + sumN (hB sz g K L n) n + sumN (hC sz g K L n) n = K := by
  obtain ⟨u6, u8⟩ := h.uu hs hn.1
  have hr := h.1
  have hL : T 1 = L := h.2.2.2.1.2.1
  have hu : uOk l (tps T) L := by rw [← hL]; exact tps_uOk h.2.1.1
  have hK' : 0 ≤ K ∧ K ≤ aS (wZ s 100) l := by rw [hr.all]; omega
  refine ⟨fun k hk => ?_, ?_⟩
  · obtain ⟨e1, e2, e3⟩ := k_h (L := L) (K := K) hr hs u6 u8 hk
    have b := kBd hu hK' (k := k) (by rw [hr.len]; exact hk)
    rw [e1, e2, e3, hr.jGa hk, hr.2.2.2 k hk] at b
    exact b
  · have b := kAll hu hK'
    rw [hr.len, sN_cg (fun k hk => (k_h (L := L) (K := K) hr hs u6 u8 hk).1), sN_cg (fun k hk => (k_h (L := L) (K := K) hr hs u6 u8 hk).2.1), sN_cg (fun k hk => (k_h (L := L) (K := K) hr hs u6 u8 hk).2.2)] at b
    exact b
/-- a suffix of the trades -/
def sufx (E : List (Nat → Int)) (t : Nat) (R : List (Nat → Int)) : Prop := ∃ P, E = P ++ R ∧ P.length = t
theorem sufx.nil {E : List (Nat → Int)} {t : Nat} (h : sufx E t []) : t = E.length := by
  obtain ⟨P, rfl, rfl⟩ := h
  simp
theorem sufx.cons {E R : List (Nat → Int)} {e : Nat → Int} {t : Nat} (h : sufx E t (e :: R)) : t < E.length ∧ lG E t = e ∧ sufx E (t + 1) R := by
  obtain ⟨P, rfl, rfl⟩ := h
  refine ⟨by simp, ?_, P ++ [e], by simp, by simp⟩
  unfold lG
  rw [List.getD_eq_getElem?_getD, List.getElem?_append_right (Nat.le_refl _), Nat.sub_self]
  rfl
theorem gE_row {E E0 : List (Nat → Int)} {J : List Nat} {v : Nat → Int} {kind p : Int} {k t : Nat} (h : sufx E t (gE l J num p v kind E0 (k + 1))) :
    (0 < v k → t < E.length ∧ lG E t = tRow (lG l (jG J k)) num p (v k) kind ∧ sufx E (t + 1) (gE l J num p v kind E0 k)) ∧ (¬ 0 < v k → sufx E t (gE l J num p v kind E0 k)) := by
  have e : gE l J num p v kind E0 (k + 1) = if 0 < v k then tRow (lG l (jG J k)) num p (v k) kind :: gE l J num p v kind E0 k else gE l J num p v kind E0 k := rfl
  rw [e] at h
  refine ⟨fun c => ?_, fun c => ?_⟩
  · rw [if_pos c] at h; exact h.cons
  · rw [if_neg c] at h; exact h
theorem gE_len {E0 : List (Nat → Int)} {J : List Nat} {v : Nat → Int} {kind p : Int} : ∀ k, (gE l J num p v kind E0 k).length ≤ E0.length + k := by
  intro k
  induction k with
  | zero => exact Nat.le_refl _
  | succ k ih =>
    show (if 0 < v k then tRow (lG l (jG J k)) num p (v k) kind :: gE l J num p v kind E0 k else gE l J num p v kind E0 k).length ≤ E0.length + (k + 1)
    split
    · rw [List.length_cons]; omega
    · omega
theorem gE_2 {E0 : List (Nat → Int)} {J : List Nat} {v : Nat → Int} {kind p : Int} (h0 : ∀ i, i < E0.length → lG E0 i 2 = p) : ∀ k, ∀ i, i < (gE l J num p v kind E0 k).length → lG (gE l J num p v kind E0 k) i 2 = p := by
  intro k
  induction k with
  | zero => exact h0
  | succ k ih =>
    show ∀ i, i < (if 0 < v k then tRow (lG l (jG J k)) num p (v k) kind :: gE l J num p v kind E0 k else gE l J num p v kind E0 k).length → lG (if 0 < v k then tRow (lG l (jG J k)) num p (v k) kind :: gE l J num p v kind E0 k else gE l J num p v kind E0 k) i 2 = p
    split
    · intro i hi
      cases i with
      | zero => rfl
      | succ i => exact ih i (by simpa using hi)
    · exact ih
theorem sP_0 {t : Nat} : ∀ {E : List (Nat → Int)}, (∀ i, i < E.length → lG E i 5 ≠ (t : Int)) → sP E t = 0 := by
  intro E
  induction E with
  | nil => intro _; rfl
  | cons e E ih =>
    intro h
    have h0 : e 5 ≠ (t : Int) := h 0 (by simp)
    have h1 := ih (fun i hi => h (i + 1) (by simpa using hi))
    show (if e 5 = (t : Int) then sg (e 6) (e 3) else 0) + sP E t = 0
    rw [if_neg h0, h1]
    rfl
/-- what the trades are, together -/
theorem E_all (h : Mk l T D q n s g L sz) (hs : s = 0 ∨ s = 1) (hn : 1 ≤ n ∧ n ≤ 8) (hK : 1 ≤ K ∧ K ≤ sumN sz n) {x : Int} :
    sumW (kE l (tps T) L num s 100 K []) = K ∧ (kE l (tps T) L num s 100 K []).length ≤ 24 ∧ pOf x (kE l (tps T) L num s 100 K []) = 100 ∧ sP (kE l (tps T) L num s 100 K []) 9 = 0 := by
  obtain ⟨u6, u8⟩ := h.uu hs hn.1
  have hr := h.1
  obtain ⟨bd, tot⟩ := h_bd h hs hn hK
  have kk := fun {k : Nat} (hk : k < n) => k_h (L := L) (K := K) hr hs u6 u8 hk
  have eW : sumW (kE l (tps T) L num s 100 K []) = K := by
    unfold kE
    rw [hr.len, (gE_W n (fun j hj => by rw [(kk hj).2.2]; exact (bd j hj).2.2.1)).1, (gE_W n (fun j hj => by rw [(kk hj).2.1]; exact (bd j hj).2.1)).1, (gE_W n (fun j hj => by rw [(kk hj).1]; exact (bd j hj).1)).1, sN_cg (fun k hk => (kk hk).1), sN_cg (fun k hk => (kk hk).2.1), sN_cg (fun k hk => (kk hk).2.2)]
    show (0 : Int) + _ + _ + _ = K
    omega
  have e2 : ∀ i, i < (kE l (tps T) L num s 100 K []).length → lG (kE l (tps T) L num s 100 K []) i 2 = 100 := by
    unfold kE
    exact gE_2 (gE_2 (gE_2 (fun i hi => absurd hi (Nat.not_lt_zero _)) _) _) _
  have h1 : ∀ j, j < n → lG l (jG (aJ s 100 l l.length) j) 1 ≠ 9 := fun j hj => by
    rw [hr.jGa hj, hr.2.2.2 j hj]
    show (j : Int) ≠ 9
    omega
  have e5 : ∀ i, i < (kE l (tps T) L num s 100 K []).length → lG (kE l (tps T) L num s 100 K []) i 5 ≠ ((9 : Nat) : Int) := by
    unfold kE
    rw [hr.len]
    exact gE_5 (gE_5 (gE_5 (fun i hi => absurd hi (Nat.not_lt_zero _)) _ h1) _ h1) _ h1
  refine ⟨eW, ?_, ?_, sP_0 e5⟩
  · unfold kE
    rw [hr.len]
    have a1 := gE_len (l := l) (num := num) (E0 := []) (J := aJ s 100 l l.length) (v := kA l (tps T) s 100 K) (kind := 0) (p := 100) n
    have a2 := gE_len (l := l) (num := num) (E0 := gE l (aJ s 100 l l.length) num 100 (kA l (tps T) s 100 K) 0 [] n) (J := aJ s 100 l l.length) (v := kB l (tps T) L s 100 K) (kind := 1) (p := 100) n
    have a3 := gE_len (l := l) (num := num) (E0 := gE l (aJ s 100 l l.length) num 100 (kB l (tps T) L s 100 K) 1 (gE l (aJ s 100 l l.length) num 100 (kA l (tps T) s 100 K) 0 [] n) n) (J := aJ s 100 l l.length) (v := kC l (tps T) L s 100 K) (kind := 2) (p := 100) n
    have a0 : ([] : List (Nat → Int)).length = 0 := rfl
    omega
  · generalize kE l (tps T) L num s 100 K [] = E at *
    cases E with
    | nil =>
      have : (0 : Int) = K := eW
      omega
    | cons e E => exact e2 0 (by simp)
/-! the orders that are left -/
theorem left_at (h : Mk l T D q n s g L sz) (hs : s = 0 ∨ s = 1) (hn : 1 ≤ n ∧ n ≤ 8) {k : Nat} (hk : k < n) :
    lG (kL l (tps T) L s 100 K) (q + k) 4 = sz k - (hA sz g K k + hB sz g K L n k + hC sz g K L n k) := by
  obtain ⟨u6, u8⟩ := h.uu hs hn.1
  have hr := h.1
  obtain ⟨e1, e2, e3⟩ := k_h (L := L) (K := K) hr hs u6 u8 hk
  unfold kL
  rw [szs_4 (by rw [hr.1]; omega)]
  have e := fB_at (J := aJ s 100 l l.length) (h := fun k => kA l (tps T) s 100 K k + kB l (tps T) L s 100 K k + kC l (tps T) L s 100 K k) (f0 := fun i => lG l i 4) (fun j k hj hk e => kInj hj hk e) (r := k) (by rw [hr.len]; exact hk) (aJ s 100 l l.length).length (Nat.le_refl _)
  rw [hr.jGa hk, if_pos (by omega)] at e
  rw [e]
  show lG l (q + k) 4 - (kA l (tps T) s 100 K k + kB l (tps T) L s 100 K k + kC l (tps T) L s 100 K k) = _
  rw [e1, e2, e3, hr.2.2.2 k hk]
  rfl
theorem kL_len : (kL l U L s 100 K).length = l.length := szs_len
theorem kL_o (hr : Rw l q n s sz) {i : Nat} (hi : i < l.length) : lG (kL l U L s 100 K) i 0 = (i : Int) + 1 ∧ lG (kL l U L s 100 K) i 2 = s := by
  unfold kL
  rw [szs_o hi (by decide), szs_o hi (by decide)]
  exact ⟨(hr.o i hi).2, (hr.o i hi).1⟩
theorem left_in (hr : Rw l q n s sz) {k : Nat} (hk : k < n) {m : Int} (hm : m = (q : Int) + 1 + (k : Int)) {i : Nat} (hp : aPlace m ((kL l U L s 100 K).filter aKp) = some i) :
    i < ((kL l U L s 100 K).filter aKp).length ∧ lG ((kL l U L s 100 K).filter aKp) i = lG (kL l U L s 100 K) (q + k) ∧ 0 < lG (kL l U L s 100 K) (q + k) 4 := by
  obtain ⟨-, h2, h3, -⟩ := aPl_some hp
  rw [Nat.zero_add] at h2
  rw [Nat.sub_zero] at h3
  have e0 : lG ((kL l U L s 100 K).filter aKp) i 0 = m := of_decide_eq_true h3
  obtain ⟨g1, j, g2, -, g3⟩ := flt_in h2
  rw [kL_len] at g2
  rw [g3, (kL_o hr g2).1] at e0
  have ej : j = q + k := by omega
  subst ej
  rw [g3] at g1
  exact ⟨h2, g3, of_decide_eq_true g1⟩
theorem left_some (hr : Rw l q n s sz) {k : Nat} (hk : k < n) {m : Int} (hm : m = (q : Int) + 1 + (k : Int)) (h : 0 < lG (kL l U L s 100 K) (q + k) 4) :
    ∃ i, aPlace m ((kL l U L s 100 K).filter aKp) = some i := by
  have hi : q + k < (kL l U L s 100 K).length := by rw [kL_len, hr.1]; omega
  obtain ⟨f1, f2, -⟩ := flt_gen (p := aKp) hi (decide_eq_true h)
  cases hp : aPlace m ((kL l U L s 100 K).filter aKp) with
  | some i => exact ⟨i, rfl⟩
  | none =>
    have e := aPl_none hp _ f1
    rw [f2, (kL_o hr (by rw [hr.1]; omega)).1] at e
    have e := of_decide_eq_false e
    omega
/-! the top behind it -/
theorem aSw_keep : ∀ {L : List (Nat → Int)} {T : Nat → Int}, (∀ i, i < L.length → lG L i 2 = s ∧ (0 < lG L i 4 ∨ lG L i 0 ≠ T (6 + s.toNat))) → aSw T L = T := by
  intro L
  induction L with
  | nil => intro T _; rfl
  | cons o t ih =>
    intro T h
    have h0 : o 2 = s ∧ (0 < o 4 ∨ o 0 ≠ T (6 + s.toNat)) := h 0 (by simp)
    have e : aSwF T o = T := by
      unfold aSwF aGo
      by_cases c : 0 < o 4
      · rw [if_pos c]
      · rw [if_neg c, h0.1, if_neg (fun e => h0.2.elim (fun z => c z) (fun z => z e.symm))]
    show aSw (aSwF T o) t = T
    rw [e]
    exact ih (fun i hi => h (i + 1) (by simpa using hi))
theorem aLap_6 {T : Nat → Int} {k : Nat} : aLap T k (6 + k) = -1 := by
  unfold aLap
  rw [upd1_n (by omega), upd1_s]
theorem aSw_drop : ∀ {L : List (Nat → Int)} {T : Nat → Int}, (∀ i, i < L.length → lG L i 2 = s ∧ 1 ≤ lG L i 0) → (T (6 + s.toNat) = -1 ∨ ∃ i, i < L.length ∧ ¬ 0 < lG L i 4 ∧ lG L i 0 = T (6 + s.toNat)) → aSw T L (6 + s.toNat) = -1 := by
  intro L
  induction L with
  | nil =>
    intro T _ h
    rcases h with h | ⟨i, hi, -⟩
    · exact h
    · exact absurd hi (Nat.not_lt_zero _)
  | cons o t ih =>
    intro T h hd
    have h0 : o 2 = s ∧ 1 ≤ o 0 := h 0 (by simp)
    have ht : ∀ i, i < t.length → lG t i 2 = s ∧ 1 ≤ lG t i 0 := fun i hi => h (i + 1) (by simpa using hi)
    show aSw (aSwF T o) t (6 + s.toNat) = -1
    have eF : aSwF T o = if 0 < o 4 then T else if T (6 + s.toNat) = o 0 then aLap T s.toNat else T := by
      unfold aSwF aGo
      rw [h0.1]
    rw [eF]
    by_cases c : 0 < o 4
    · rw [if_pos c]
      refine ih ht ?_
      rcases hd with hd | ⟨i, hi, h1, h2⟩
      · exact Or.inl hd
      · cases i with
        | zero => exact absurd c h1
        | succ i => exact Or.inr ⟨i, by simpa using hi, h1, h2⟩
    · rw [if_neg c]
      by_cases d : T (6 + s.toNat) = o 0
      · rw [if_pos d]
        exact ih ht (Or.inl aLap_6)
      · rw [if_neg d]
        refine ih ht ?_
        rcases hd with hd | ⟨i, hi, h1, h2⟩
        · exact Or.inl hd
        · cases i with
          | zero => exact absurd h2.symm d
          | succ i => exact Or.inr ⟨i, by simpa using hi, h1, h2⟩
theorem top_after (h : Mk l T D q n s g L sz) (hs : s = 0 ∨ s = 1) (hn : 1 ≤ n ∧ n ≤ 8) :
    ((0 < g ∧ 0 < lG (kL l (tps T) L s 100 K) q 4 ∧ hA sz g K 0 < g) → kU l (tps T) L s 100 K (6 + s.toNat) = (q : Int) + 1 ∧ kU l (tps T) L s 100 K (8 + s.toNat) = g - hA sz g K 0) ∧
    (¬ (0 < g ∧ 0 < lG (kL l (tps T) L s 100 K) q 4 ∧ hA sz g K 0 < g) → hA sz g K 0 ≤ g → kU l (tps T) L s 100 K (6 + s.toNat) = -1) := by
  obtain ⟨u6, u8⟩ := h.uu hs hn.1
  have hr := h.1
  have hg := h.2.1.1.t0
  rw [h.2.2.2.1.1] at hg
  have e0 := (k_h (L := L) (K := K) hr hs u6 u8 (show 0 < n by omega)).1
  have hall : ∀ i, i < (kL l (tps T) L s 100 K).length → lG (kL l (tps T) L s 100 K) i 2 = s ∧ 1 ≤ lG (kL l (tps T) L s 100 K) i 0 := fun i hi => by
    rw [kL_len] at hi
    have := kL_o (U := tps T) (L := L) (K := K) hr hi
    exact ⟨this.2, by omega⟩
  have hj : ∀ j, j < n → lG l (jG (aJ s 100 l l.length) j) 0 = (q : Int) + 1 + (j : Int) := fun j hj => by
    rw [hr.jGa hj, hr.2.2.2 j hj]; rfl
  by_cases c : g = 0
  · rw [if_pos c] at u6
    refine ⟨fun e => absurd e.1 (by omega), fun _ _ => ?_⟩
    have eQ : ¬ kQ l (tps T) s 100 < (aJ s 100 l l.length).length := by
      unfold kQ
      rw [u6]
      rcases tpQ_sp (l := l) (J := aJ s 100 l l.length) (n := -1) _ (Nat.le_refl _) with e | ⟨e1, e2⟩
      · rw [e.1]; omega
      · rw [hj _ (Nat.lt_of_lt_of_eq e1 hr.len)] at e2; omega
    unfold kU kU1
    rw [if_neg eQ]
    exact aSw_drop hall (Or.inl u6)
  · rw [if_neg c] at u6 u8
    have eQ : kQ l (tps T) s 100 = 0 := by
      unfold kQ
      rw [u6]
      rcases tpQ_sp (l := l) (J := aJ s 100 l l.length) (n := (q : Int) + 1) _ (Nat.le_refl _) with e | ⟨e1, e2⟩
      · exact absurd (by have := hj 0 (by omega); omega) (e.2 0 (by rw [hr.len]; omega))
      · rw [hj _ (Nat.lt_of_lt_of_eq e1 hr.len)] at e2; omega
    have e1 : kU1 l (tps T) s 100 K = uG (tps T) s.toNat (hA sz g K 0) := by
      unfold kU1
      rw [eQ, if_pos (by rw [hr.len]; omega), e0]
    have eU : kU l (tps T) L s 100 K = aSw (uG (tps T) s.toNat (hA sz g K 0)) (kL l (tps T) L s 100 K) := by unfold kU; rw [e1]
    rw [eU]
    have n0 : lG (kL l (tps T) L s 100 K) q 0 = (q : Int) + 1 := (kL_o hr (by rw [hr.1]; omega)).1
    refine ⟨fun ⟨a1, a2, a3⟩ => ?_, fun a b => ?_⟩
    · have eG : uG (tps T) s.toNat (hA sz g K 0) = upd1 (tps T) (8 + s.toNat) (g - hA sz g K 0) := by
        unfold uG
        rw [u8, if_neg (by omega)]
      rw [eG]
      have k6 : upd1 (tps T) (8 + s.toNat) (g - hA sz g K 0) (6 + s.toNat) = (q : Int) + 1 := by rw [upd1_n (by omega), u6]
      rw [aSw_keep (s := s) (fun i hi => ?_)]
      · exact ⟨k6, upd1_s⟩
      · refine ⟨(hall i hi).1, ?_⟩
        rw [k6]
        rw [kL_len] at hi
        by_cases d : i = q
        · subst d; exact Or.inl a2
        · exact Or.inr (by rw [(kL_o hr hi).1]; omega)
    · refine aSw_drop hall ?_
      by_cases d : hA sz g K 0 = g
      · refine Or.inl ?_
        unfold uG
        rw [u8, if_pos (by omega)]
        exact aLap_6
      · have eG : uG (tps T) s.toNat (hA sz g K 0) = upd1 (tps T) (8 + s.toNat) (g - hA sz g K 0) := by
          unfold uG
          rw [u8, if_neg (by omega)]
        have k6 : upd1 (tps T) (8 + s.toNat) (g - hA sz g K 0) (6 + s.toNat) = (q : Int) + 1 := by rw [upd1_n (by omega), u6]
        rw [eG]
        exact Or.inr ⟨q, by rw [kL_len, hr.1]; omega, fun z => a ⟨by omega, z, by omega⟩, by rw [k6, n0]⟩
end AFT
