/-! PURE: 'splits', class -/
section SPL7
variable {N : Nat} {G : qG} {ρ : Nat → Nat × Nat} {f : Nat} {A V : Nat → Nat} {nx : Nat} {μ ν : qM} {l : List (Nat → Int)} {T D : Nat → Int} {tr : Nat → Nat → Int} {s p K L : Int} {i n : Nat}
/-- n parts are put behind those that lie there -/
theorem z_putParts5 (hy : cLay G ρ f) {S g : Nat → Int} {O : Nat → Nat} {c0 : Nat} {all z : Int} {o : Nat} (hc : c0 + n ≤ 68) (hn : 1 ≤ n ∧ n ≤ 9 ∧ (n : Int) ≤ z) (hz : z ≤ 1000) (h4 : gI μ 404 o = z) (h6 : gI μ 506 (gR G 202 f) = (c0 : Int)) (h7 : gI μ 507 (gR G 202 f) = all) (ha : 0 ≤ all ∧ all ≤ 100000)
    (hr : ∀ k, k < c0 → gQ μ (gR G 500 (gR G 202 f)) k = some (O k) ∧ gA μ (gR G 501 (gR G 202 f)) k = S k ∧ gA μ (gR G 502 (gR G 202 f)) k = g k) (hN : 100 < N) :
    ∃ ν, f_X5_putParts N G (gR G 202 f) o (n : Int) μ = some ν ∧ dP ρ (pSh f) μ ν ∧ gI ν 506 (gR G 202 f) = ((c0 + n : Nat) : Int) ∧ gI ν 507 (gR G 202 f) = all + z ∧
      ∀ k, k < c0 + n → gQ ν (gR G 500 (gR G 202 f)) k = some (if k < c0 then O k else o) ∧ gA ν (gR G 501 (gR G 202 f)) k = (if k < c0 then S k else spP z n (k - c0)) ∧ gA ν (gR G 502 (gR G 202 f)) k = if k < c0 then g k else 0 := by
  have t := tdn (z := z) (n := n) (by omega) hn.1
  have sm : sumN (spP z n) n = z := spP_sum (by omega) hn.1
  have pb : ∀ j, 0 ≤ spP z n j ∧ spP z n j ≤ 1000 := fun j => spP_bd ⟨by omega, hz⟩ ⟨hn.1, hn.2.2⟩
  unfold f_X5_putParts
  rw [if_neg (by omega), h4, ckD_p (by omega), ckI_p ⟨by omega, by omega⟩, ckD_p (by omega), ckI_p ⟨by omega, by omega⟩]
  unfold f_X5_putParts_L24
  refine qLoop_inv
    (fun j st => ∃ mem, st = (gR G 202 f, o, (n : Int), z.tdiv (n : Int), z - z.tdiv (n : Int) * (n : Int), (j : Int), mem) ∧ dP ρ (pSh f) μ mem ∧ gI mem 506 (gR G 202 f) = ((c0 + j : Nat) : Int) ∧ gI mem 507 (gR G 202 f) = all + sumN (spP z n) j ∧ ∀ k, k < c0 + j → gQ mem (gR G 500 (gR G 202 f)) k = some (if k < c0 then O k else o) ∧ gA mem (gR G 501 (gR G 202 f)) k = (if k < c0 then S k else spP z n (k - c0)) ∧ gA mem (gR G 502 (gR G 202 f)) k = if k < c0 then g k else 0)
    (fun r => ∃ ν, r = some ν ∧ dP ρ (pSh f) μ ν ∧ gI ν 506 (gR G 202 f) = ((c0 + n : Nat) : Int) ∧ gI ν 507 (gR G 202 f) = all + z ∧ ∀ k, k < c0 + n → gQ ν (gR G 500 (gR G 202 f)) k = some (if k < c0 then O k else o) ∧ gA ν (gR G 501 (gR G 202 f)) k = (if k < c0 then S k else spP z n (k - c0)) ∧ gA ν (gR G 502 (gR G 202 f)) k = if k < c0 then g k else 0)
    n ?_ ?_ n 0 N _ (by omega) (by omega) ⟨μ, rfl, dP.rf, h6, by rw [h7]; show all = all + 0; omega, fun k hk => by have hk' : k < c0 := hk; rw [if_pos hk', if_pos hk', if_pos hk']; exact hr k hk'⟩
  · rintro j st hj ⟨mem, rfl, hd, g6, g7, gr⟩
    refine Or.inr ?_
    have sb := sumN_bd (f := spP z n) (M := 1000) (c := j) (fun i _ => pb i)
    have sj : sumN (spP z n) (j + 1) = sumN (spP z n) j + spP z n j := rfl
    obtain ⟨mem', e1, e2, e3, e4, e5⟩ := z_put5 (N := N) (μ := mem) hy (S := fun k => if k < c0 then S k else spP z n (k - c0)) (g := fun k => if k < c0 then g k else 0) (O := fun k => if k < c0 then O k else o) (c := c0 + j) (o := o) (v := spP z n j) (w := 0) (by omega) g6 g7 ⟨by omega, by omega⟩ (pb j) gr
    refine ⟨_, ⟨mem', rfl, hd.tr e2, e3, by rw [e4, sj]; omega, fun k hk => ?_⟩, fun kk => ?_⟩
    · obtain ⟨a1, a2, a3⟩ := e5 k hk
      rw [a1, a2, a3]
      by_cases c : k = c0 + j
      · subst c
        rw [if_pos rfl, if_pos rfl, if_pos rfl, if_neg (by omega), if_neg (by omega), if_neg (by omega), show c0 + j - c0 = j by omega]
        exact ⟨rfl, rfl, rfl⟩
      · rw [if_neg c, if_neg c, if_neg c]
        exact ⟨rfl, rfl, rfl⟩
    · show f_X5_putParts_24 N G _ (gR G 202 f) o (n : Int) (z.tdiv (n : Int)) (z - z.tdiv (n : Int) * (n : Int)) (j : Int) mem = _
      have pj : spP z n j = z.tdiv (n : Int) + (if (j : Int) < z - z.tdiv (n : Int) * (n : Int) then 1 else 0) := rfl
      unfold f_X5_putParts_24 f_X5_putParts_46
      rw [if_pos (by omega)]
      by_cases c : (j : Int) < z - z.tdiv (n : Int) * (n : Int)
      · rw [if_pos c] at pj
        rw [if_pos c, ckI_p ⟨by omega, by omega⟩, ← pj, kb_p e1, ckI_p ⟨by omega, by omega⟩, cast1]
      · rw [if_neg c, Int.add_zero] at pj
        rw [if_neg c]
        have e1' : f_X5_put N G (gR G 202 f) o (z.tdiv (n : Int)) 0 mem = some mem' := by rw [← pj]; exact e1
        rw [kb_p e1', ckI_p ⟨by omega, by omega⟩, cast1]
  · rintro st ⟨mem, rfl, hd, g6, g7, gr⟩
    refine ⟨_, ⟨mem, rfl, hd, g6, by rw [g7, sm], gr⟩, fun k => ?_⟩
    show f_X5_putParts_24 N G _ (gR G 202 f) o (n : Int) (z.tdiv (n : Int)) (z - z.tdiv (n : Int) * (n : Int)) (n : Int) mem = _
    unfold f_X5_putParts_24
    rw [if_neg (by omega)]
/-- rows behind i' orders -/
def spC (s p : Int) (l : List (Nat → Int)) (i n j : Nat) : Nat := if j ≤ i then (aJ s p l j).length else (aJ s p l j).length + n - 1
/-- what lies there, i being in n parts -/
def spHas (G : qG) (h : Nat) (μ : qM) (A : Nat → Nat) (l : List (Nat → Int)) (T : Nat → Int) (s p : Int) (i n c : Nat) : Prop :=
  gI μ 506 h = (c : Int) ∧ gI μ 507 h = sumN (spS (jS l (aJ s p l l.length)) (aJ s p l i).length n) c ∧ ∀ k, k < c → gQ μ (gR G 500 h) k = some (A (jG (aJ s p l l.length) (spI (aJ s p l i).length n k))) ∧ gA μ (gR G 501 h) k = spS (jS l (aJ s p l l.length)) (aJ s p l i).length n k ∧ gA μ (gR G 502 h) k = spG (jGr T l (aJ s p l l.length)) (aJ s p l i).length n k
theorem z_loadParts5 (hy : cLay G ρ f) (hf : cFlx G ρ f A V nx μ l T D tr) (hl : lOk l) (hN : 100 < N) (hi : i < l.length) (hs : lG l i 2 = s) (hp : lG l i 3 = p) (hn : 1 ≤ n ∧ n ≤ 9 ∧ (n : Int) ≤ lG l i 4) :
    ∃ ν, f_X5_loadInParts N G (gR G 202 f) (gR G 200 f) (A i) (n : Int) μ = some ν ∧ dP ρ (pSh f) μ ν ∧ spHas G (gR G 202 f) ν A l T s p i n ((aJ s p l l.length).length + n - 1) := by
  have hl60 := hl.1
  have hat : aAt s p (lG l i) = true := decide_eq_true ⟨hs, hp⟩
  obtain ⟨rk1, rk2⟩ := aJ_rk (n := l.length) hi hat
  have hc := aJ_len (s := s) (p := p) (l := l) l.length
  obtain ⟨q0, q1, q2, q3, -, -, -⟩ := hy.sh
  have pre : ∀ j, j ≤ l.length → (aJ s p l j).length ≤ (aJ s p l l.length).length := fun j hj => by
    have := (aJ_pre (s := s) (p := p) (l := l) (i := j) (l.length - j)).1
    rw [show j + (l.length - j) = l.length by omega] at this
    exact this
  have pre2 : ∀ j k, j ≤ k → (aJ s p l j).length ≤ (aJ s p l k).length := fun j k hj => by
    have := (aJ_pre (s := s) (p := p) (l := l) (i := j) (k - j)).1
    rw [show j + (k - j) = k by omega] at this
    exact this
  have li1 : (aJ s p l (i + 1)).length = (aJ s p l i).length + 1 := by rw [aJ_y hat, List.length_append]; rfl
  have Sb : ∀ k, k < (aJ s p l l.length).length → 0 ≤ jS l (aJ s p l l.length) k ∧ jS l (aJ s p l l.length) k ≤ 1000 := fun k hk => (hl.2 _ (aJ_in l.length k hk).1).2.2.2.2.1
  have hSr : jS l (aJ s p l l.length) (aJ s p l i).length = lG l i 4 := by unfold jS; rw [rk2]
  have sb : ∀ k, k < (aJ s p l l.length).length + n - 1 → 0 ≤ spS (jS l (aJ s p l l.length)) (aJ s p l i).length n k ∧ spS (jS l (aJ s p l l.length)) (aJ s p l i).length n k ≤ 1000 := fun k hk => spS_bd Sb rk1 ⟨hn.1, by rw [hSr]; exact hn.2.2⟩ hk
  have fin : spC s p l i n l.length = (aJ s p l l.length).length + n - 1 := by unfold spC; rw [if_neg (by omega)]
  unfold f_X5_loadInParts f_X5_loadInParts_L13
  rw [kp_p, kp_p]
  refine qLoop_inv
    (fun j st => ∃ mem, st = (gR G 202 f, gR G 200 f, A i, (n : Int), (j : Int), mem) ∧ dP ρ (pSh f) μ mem ∧ spHas G (gR G 202 f) mem A l T s p i n (spC s p l i n j))
    (fun r => ∃ ν, r = some ν ∧ dP ρ (pSh f) μ ν ∧ spHas G (gR G 202 f) ν A l T s p i n ((aJ s p l l.length).length + n - 1))
    l.length ?_ ?_ l.length 0 N _ (by omega) (by omega) ?_
  · rintro j st hj ⟨mem, rfl, hd, h6, h7, hr⟩
    refine Or.inr ?_
    have hf' := hf.frm hy hl60 hd pSh_mk
    have hb := hf'.1
    have ho := hl.2 j hj
    have pj := pre j (by omega)
    have pj1 := pre (j + 1) (by omega)
    have cb : spC s p l i n j ≤ (aJ s p l l.length).length + n - 1 := by
      unfold spC
      split <;> omega
    have s7 := sumN_bd (f := spS (jS l (aJ s p l l.length)) (aJ s p l i).length n) (M := 1000) (c := spC s p l i n j) (fun k hk => sb k (by omega))
    by_cases e : j = i
    · subst e
      have c0 : spC s p l j n j = (aJ s p l j).length := if_pos (Nat.le_refl _)
      have c1 : spC s p l j n (j + 1) = (aJ s p l j).length + n := by unfold spC; rw [if_neg (by omega), li1]; omega
      rw [c0] at h6 h7 hr s7
      have f4 : gI mem 404 (A j) = lG l j 4 := z_f0 hb hj 4 (by decide)
      obtain ⟨mem', e1, e2, e3, e4, e5⟩ := z_putParts5 (N := N) (μ := mem) (n := n) hy (S := spS (jS l (aJ s p l l.length)) (aJ s p l j).length n) (g := spG (jGr T l (aJ s p l l.length)) (aJ s p l j).length n) (O := fun k => A (jG (aJ s p l l.length) (spI (aJ s p l j).length n k))) (c0 := (aJ s p l j).length) (o := A j) (by omega) hn ho.2.2.2.2.1.2 f4 h6 h7 ⟨by omega, by omega⟩ hr hN
      refine ⟨_, ⟨mem', rfl, hd.tr e2, ?_⟩, fun k => ?_⟩
      · rw [c1]
        refine ⟨e3, ?_, fun k hk => ?_⟩
        · rw [e4, sumN_app]
          have : sumN (fun j_1 => spS (jS l (aJ s p l l.length)) (aJ s p l j).length n ((aJ s p l j).length + j_1)) n = lG l j 4 := by
            rw [← hSr, ← spP_sum (z := jS l (aJ s p l l.length) (aJ s p l j).length) (n := n) (by rw [hSr]; omega) hn.1]
            exact sumN_congr (fun i' hi' => by unfold spS; rw [if_pos ⟨by omega, by omega⟩, show (aJ s p l j).length + i' - (aJ s p l j).length = i' by omega])
          rw [this]
        · obtain ⟨a1, a2, a3⟩ := e5 k hk
          rw [a1, a2, a3]
          by_cases d : k < (aJ s p l j).length
          · rw [if_pos d, if_pos d, if_pos d]; exact ⟨rfl, rfl, rfl⟩
          · rw [if_neg d, if_neg d, if_neg d]
            have x1 : spI (aJ s p l j).length n k = (aJ s p l j).length := by unfold spI; rw [if_neg d, if_pos (by omega)]
            refine ⟨by rw [x1, rk2], ?_, ?_⟩
            · unfold spS; rw [if_pos ⟨by omega, by omega⟩, hSr]
            · unfold spG; rw [if_pos ⟨by omega, by omega⟩]
      · show f_X5_loadInParts_13 N G _ (gR G 202 f) (gR G 200 f) (A j) (n : Int) (j : Int) mem = _
        unfold f_X5_loadInParts_13 f_X5_loadInParts_81
        rw [hb.1, if_pos (by omega), z_row0 hb (by omega), if_pos rfl, kb_p e1, ckI_p ⟨by omega, by omega⟩, cast1]
    · have nA : ¬ A j = A i := fun q => e (hb.2.2.1 j i (by omega) (by omega) q)
      have f2 : gI mem 402 (A i) = s := by rw [← hs]; exact z_f0 hb hi 2 (by decide)
      have f3 : gI mem 403 (A i) = p := by rw [← hp]; exact z_f0 hb hi 3 (by decide)
      have f4 : gI mem 404 (A j) = lG l j 4 := z_f0 hb hj 4 (by decide)
      by_cases c : aAt s p (lG l j) = true
      · obtain ⟨b1, b2⟩ := aJ_rk (n := l.length) hj c
        have lj1 : (aJ s p l (j + 1)).length = (aJ s p l j).length + 1 := by rw [aJ_y c, List.length_append]; rfl
        have x0 : spC s p l i n (j + 1) = spC s p l i n j + 1 := by
          unfold spC
          by_cases d : j + 1 ≤ i
          · rw [if_pos d, if_pos (by omega), lj1]
          · rw [if_neg d, if_neg (by omega), lj1]; omega
        have x1 : spI (aJ s p l i).length n (spC s p l i n j) = (aJ s p l j).length ∧ ¬ ((aJ s p l i).length ≤ spC s p l i n j ∧ spC s p l i n j < (aJ s p l i).length + n) := by
          unfold spI spC
          by_cases d : j ≤ i
          · have := pre2 (j + 1) i (by omega)
            rw [if_pos d, if_pos (by omega)]
            exact ⟨rfl, by omega⟩
          · have := pre2 (i + 1) j (by omega)
            rw [if_neg d, if_neg (by omega), if_neg (by omega)]
            exact ⟨by omega, by omega⟩
        have xS : spS (jS l (aJ s p l l.length)) (aJ s p l i).length n (spC s p l i n j) = lG l j 4 := by unfold spS; rw [if_neg x1.2, x1.1]; unfold jS; rw [b2]
        have xG : spG (jGr T l (aJ s p l l.length)) (aJ s p l i).length n (spC s p l i n j) = oGr T (lG l j) := by unfold spG; rw [if_neg x1.2, x1.1]; unfold jGr; rw [b2]
        have cb1 : spC s p l i n j < 68 := by
          have : spC s p l i n (j + 1) ≤ (aJ s p l l.length).length + n - 1 := by unfold spC; split <;> omega
          omega
        obtain ⟨mem', e1, e2, e3, e4, e5⟩ := z_put5 (N := N) (μ := mem) hy (S := spS (jS l (aJ s p l l.length)) (aJ s p l i).length n) (g := spG (jGr T l (aJ s p l l.length)) (aJ s p l i).length n) (O := fun k => A (jG (aJ s p l l.length) (spI (aJ s p l i).length n k))) (c := spC s p l i n j) (o := A j) (v := lG l j 4) (w := oGr T (lG l j)) cb1 h6 h7 ⟨by omega, by omega⟩ ho.2.2.2.2.1 hr
        refine ⟨_, ⟨mem', rfl, hd.tr e2, ?_⟩, fun k => ?_⟩
        · rw [x0]
          refine ⟨e3, ?_, fun k hk => ?_⟩
          · rw [e4]
            show _ = sumN _ (spC s p l i n j) + spS _ _ n (spC s p l i n j)
            rw [xS]
          · obtain ⟨a1, a2, a3⟩ := e5 k hk
            rw [a1, a2, a3]
            by_cases d : k = spC s p l i n j
            · subst d
              rw [if_pos rfl, if_pos rfl, if_pos rfl, xS, xG, x1.1, b2]
              exact ⟨rfl, rfl, rfl⟩
            · rw [if_neg d, if_neg d, if_neg d]; exact ⟨rfl, rfl, rfl⟩
        · show f_X5_loadInParts_13 N G _ (gR G 202 f) (gR G 200 f) (A i) (n : Int) (j : Int) mem = _
          unfold f_X5_loadInParts_13 f_X5_loadInParts_81
          rw [hb.1, if_pos (by omega), z_row0 hb (by omega), if_neg nA, f2, f3, kb2_p (z_isAt0 hb hl60 hj), b01_ite, if_pos c, kb2_p (z_grantOf0 (w := lG l j) hf'.2.2.1 (z_f0 hb hj 0 (by decide)) (z_f0 hb hj 2 (by decide)) ho.2.2.1 ho.1.1), f4]
          unfold oGr at e1
          rw [kb_p e1, ckI_p ⟨by omega, by omega⟩, cast1]
      · have x0 : spC s p l i n (j + 1) = spC s p l i n j := by
          unfold spC
          rw [aJ_n c]
          by_cases d : j + 1 ≤ i
          · rw [if_pos d, if_pos (by omega)]
          · rw [if_neg d, if_neg (by omega)]
        refine ⟨_, ⟨mem, rfl, hd, by rw [x0]; exact ⟨h6, h7, hr⟩⟩, fun k => ?_⟩
        show f_X5_loadInParts_13 N G _ (gR G 202 f) (gR G 200 f) (A i) (n : Int) (j : Int) mem = _
        unfold f_X5_loadInParts_13 f_X5_loadInParts_81
        rw [hb.1, if_pos (by omega), z_row0 hb (by omega), if_neg nA, f2, f3, kb2_p (z_isAt0 hb hl60 hj), b01_ite, if_neg c, ckI_p ⟨by omega, by omega⟩, cast1]
  · rintro st ⟨mem, rfl, hd, hh⟩
    rw [fin] at hh
    refine ⟨_, ⟨mem, rfl, hd, hh⟩, fun k => ?_⟩
    have hb := (hf.frm hy hl60 hd pSh_mk).1
    show f_X5_loadInParts_13 N G _ (gR G 202 f) (gR G 200 f) (A i) (n : Int) (l.length : Int) mem = _
    unfold f_X5_loadInParts_13
    rw [hb.1, if_neg (by omega)]
  · have c0 : spC s p l i n 0 = 0 := if_pos (Nat.zero_le _)
    refine ⟨_, rfl, (dP.sI q0).tr (dP.sI q0), ?_⟩
    rw [c0]
    refine ⟨?_, ?_, fun k hk => by cases hk⟩
    · rw [gI_f (by decide), gI_s]; rfl
    · rw [gI_s]; rfl
/-- the parts deal; what they have -/
theorem z_parts7 (hy : cLay G ρ f) (hf : cFlx G ρ f A V nx μ l T D tr) (ho : mOk l T) (hN : 100 < N) (hi : i < l.length) (hs : lG l i 2 = s) (hp : lG l i 3 = p) (hn : 1 ≤ n ∧ n ≤ 9 ∧ (n : Int) ≤ lG l i 4) (hK : 1 ≤ K ∧ K ≤ aS (wZ s p) l) (hh : spHas G (gR G 202 f) μ A l T s p i n ((aJ s p l l.length).length + n - 1)) :
    ∃ ν, f_X5_deal N G (gR G 202 f) K (T 1) μ = some ν ∧ dP ρ (pSh f) μ ν ∧ f_X5_partOf N G (gR G 202 f) (A i) 0 ν = some (spD (jS l (aJ s p l l.length)) (jGr T l (aJ s p l l.length)) K (T 1) (aJ s p l l.length).length (aJ s p l i).length n, ν) := by
  have hl := ho.lo
  have hl60 := hl.1
  have hat : aAt s p (lG l i) = true := decide_eq_true ⟨hs, hp⟩
  obtain ⟨rk1, rk2⟩ := aJ_rk (n := l.length) hi hat
  have hc := aJ_len (s := s) (p := p) (l := l) l.length
  have hb := aS_bd (w := wZ s p) (wZ_bd hl)
  have oo := jOk (s := s) (p := p) (K := K) ho ⟨by omega, by omega⟩ l.length (Nat.le_refl _)
  have hSr : jS l (aJ s p l l.length) (aJ s p l i).length = lG l i 4 := by unfold jS; rw [rk2]
  have hn' : 1 ≤ n ∧ n ≤ 9 ∧ (n : Int) ≤ jS l (aJ s p l l.length) (aJ s p l i).length := by rw [hSr]; exact hn
  have hK' : K ≤ sumN (jS l (aJ s p l l.length)) (aJ s p l l.length).length := by rw [sumZ]; exact hK.2
  have o2 := spOk oo (by omega) rk1 hn'
  obtain ⟨h6, h7, hr⟩ := hh
  obtain ⟨ν, d1, d2, d3, d4, d5, d6, d7⟩ := z_deal (N := N) (μ := μ) hy h6 (fun k hk => (hr k hk).2) o2 hN
  have hbd := fun k hk => spH_bd (k := k) oo (by omega) hK' rk1 hn' hk
  have inA : ∀ k, k < (aJ s p l l.length).length + n - 1 → (A (jG (aJ s p l l.length) (spI (aJ s p l i).length n k)) = A i ↔ (aJ s p l i).length ≤ k ∧ k < (aJ s p l i).length + n) := by
    intro k hk
    have lt := spI_lt (r := (aJ s p l i).length) (n := n) rk1 hn.1 hk
    constructor
    · intro q
      have q1 := hf.1.2.2.1 _ _ (by have := (aJ_in l.length _ lt).1; omega) (by omega) q
      have q2 := aJ_inj lt rk1 (by rw [q1, rk2])
      revert q2
      unfold spI
      split
      · intro q2; omega
      · split
        · intro _; omega
        · intro q2; omega
    · intro q
      have : spI (aJ s p l i).length n k = (aJ s p l i).length := by unfold spI; rw [if_neg (by omega), if_pos q.2]
      rw [this, rk2]
  refine ⟨ν, d1, d2, ?_⟩
  have key := z_partOf5 (N := N) (G := G) (μ := ν) (h := gR G 202 f) (a := shA (spS (jS l (aJ s p l l.length)) (aJ s p l i).length n) (spG (jGr T l (aJ s p l l.length)) (aJ s p l i).length n) K) (b := shB (spS (jS l (aJ s p l l.length)) (aJ s p l i).length n) (spG (jGr T l (aJ s p l l.length)) (aJ s p l i).length n) K (T 1) ((aJ s p l l.length).length + n - 1)) (d := shC (spS (jS l (aJ s p l l.length)) (aJ s p l i).length n) (spG (jGr T l (aJ s p l l.length)) (aJ s p l i).length n) K (T 1) ((aJ s p l l.length).length + n - 1))
    (O := fun k => A (jG (aJ s p l l.length) (spI (aJ s p l i).length n k))) (c := (aJ s p l l.length).length + n - 1) (o := A i) (w := 0)
    (F := sumN (fun k => if A (jG (aJ s p l l.length) (spI (aJ s p l i).length n k)) = A i then jP (shA (spS (jS l (aJ s p l l.length)) (aJ s p l i).length n) (spG (jGr T l (aJ s p l l.length)) (aJ s p l i).length n) K k) (shB (spS (jS l (aJ s p l l.length)) (aJ s p l i).length n) (spG (jGr T l (aJ s p l l.length)) (aJ s p l i).length n) K (T 1) ((aJ s p l l.length).length + n - 1) k) (shC (spS (jS l (aJ s p l l.length)) (aJ s p l i).length n) (spG (jGr T l (aJ s p l l.length)) (aJ s p l i).length n) K (T 1) ((aJ s p l l.length).length + n - 1) k) 0 else 0))
    (by omega) (by rw [d3]; exact h6) (fun k hk => ⟨by rw [d4]; exact (hr k hk).1, (hf.1.2.1 _ (by have := (aJ_in l.length _ (spI_lt (r := (aJ s p l i).length) (n := n) rk1 hn.1 hk)).1; omega)).2⟩) d7 (jABC_bd o2) (by decide) rfl (fun k hk => rfl) (fun k hk => ?_) hN
  · rw [key]
    unfold spD
    rw [← spF (h := spH (jS l (aJ s p l l.length)) (jGr T l (aJ s p l l.length)) K (T 1) (aJ s p l l.length).length (aJ s p l i).length n) (show (aJ s p l i).length + n ≤ (aJ s p l l.length).length + n - 1 by omega)]
    congr 2
    refine sumN_congr (fun k hk => ?_)
    by_cases q : (aJ s p l i).length ≤ k ∧ k < (aJ s p l i).length + n
    · rw [if_pos ((inA k hk).mpr q), if_pos q]
      rfl
    · rw [if_neg (fun y => q ((inA k hk).mp y)), if_neg q]
  · have := sumN_bd (f := fun k => if A (jG (aJ s p l l.length) (spI (aJ s p l i).length n k)) = A i then jP (shA (spS (jS l (aJ s p l l.length)) (aJ s p l i).length n) (spG (jGr T l (aJ s p l l.length)) (aJ s p l i).length n) K k) (shB (spS (jS l (aJ s p l l.length)) (aJ s p l i).length n) (spG (jGr T l (aJ s p l l.length)) (aJ s p l i).length n) K (T 1) ((aJ s p l l.length).length + n - 1) k) (shC (spS (jS l (aJ s p l l.length)) (aJ s p l i).length n) (spG (jGr T l (aJ s p l l.length)) (aJ s p l i).length n) K (T 1) ((aJ s p l l.length).length + n - 1) k) 0 else 0) (M := 1000) (c := k) (fun j hj => by
      obtain ⟨⟨u1, u2, u3⟩, u4⟩ := hbd j (by omega)
      have u5 : spH (jS l (aJ s p l l.length)) (jGr T l (aJ s p l l.length)) K (T 1) (aJ s p l l.length).length (aJ s p l i).length n j = shA (spS (jS l (aJ s p l l.length)) (aJ s p l i).length n) (spG (jGr T l (aJ s p l l.length)) (aJ s p l i).length n) K j + shB (spS (jS l (aJ s p l l.length)) (aJ s p l i).length n) (spG (jGr T l (aJ s p l l.length)) (aJ s p l i).length n) K (T 1) ((aJ s p l l.length).length + n - 1) j + shC (spS (jS l (aJ s p l l.length)) (aJ s p l i).length n) (spG (jGr T l (aJ s p l l.length)) (aJ s p l i).length n) K (T 1) ((aJ s p l l.length).length + n - 1) j := rfl
      split
      · show 0 ≤ jP _ _ _ 0 ∧ jP _ _ _ 0 ≤ 1000
        unfold jP
        rw [if_pos rfl]
        omega
      · omega)
    constructor <;> omega
/-- the parts together have no more than K -/
theorem spD_bd (ho : mOk l T) (hi : i < l.length) (hs : lG l i 2 = s) (hp : lG l i 3 = p) (hn : 1 ≤ n ∧ n ≤ 9 ∧ (n : Int) ≤ lG l i 4) (hK : 1 ≤ K ∧ K ≤ aS (wZ s p) l) : 0 ≤ spD (jS l (aJ s p l l.length)) (jGr T l (aJ s p l l.length)) K (T 1) (aJ s p l l.length).length (aJ s p l i).length n ∧ spD (jS l (aJ s p l l.length)) (jGr T l (aJ s p l l.length)) K (T 1) (aJ s p l l.length).length (aJ s p l i).length n ≤ 9000 := by
  have hl := ho.lo
  have hl60 := hl.1
  have hat : aAt s p (lG l i) = true := decide_eq_true ⟨hs, hp⟩
  obtain ⟨rk1, rk2⟩ := aJ_rk (n := l.length) hi hat
  have hc := aJ_len (s := s) (p := p) (l := l) l.length
  have hb := aS_bd (w := wZ s p) (wZ_bd hl)
  have oo := jOk (s := s) (p := p) (K := K) ho ⟨by omega, by omega⟩ l.length (Nat.le_refl _)
  have hSr : jS l (aJ s p l l.length) (aJ s p l i).length = lG l i 4 := by unfold jS; rw [rk2]
  have hn' : 1 ≤ n ∧ n ≤ 9 ∧ (n : Int) ≤ jS l (aJ s p l l.length) (aJ s p l i).length := by rw [hSr]; exact hn
  have hK' : K ≤ sumN (jS l (aJ s p l l.length)) (aJ s p l l.length).length := by rw [sumZ]; exact hK.2
  have := sumN_bd (f := fun j => spH (jS l (aJ s p l l.length)) (jGr T l (aJ s p l l.length)) K (T 1) (aJ s p l l.length).length (aJ s p l i).length n ((aJ s p l i).length + j)) (M := 1000) (c := n) (fun j hj => by
    obtain ⟨⟨u1, u2, u3⟩, u4⟩ := spH_bd (k := (aJ s p l i).length + j) oo (by omega) hK' rk1 hn' (by omega)
    exact ⟨by unfold spH; omega, u4⟩)
  unfold spD
  omega
theorem z_splits7 {x : Nat} {n0 : Nat} {B : Nat → Int} (hy : cLY G ρ x) (h : cR G ρ x μ l T D tr n0 B) (ho : mOk l T) (hN : 100 < N) (k q K : Int) : ∃ ν, f_X7_splits N G x k q K μ = some (aSplits l T k q K, ν) ∧ cR G ρ x ν l T D tr n0 B := by
  obtain ⟨A, V, nx, hf⟩ := h.1
  have hl := ho.lo
  have h60 := hl.1
  unfold f_X7_splits aSplits
  rw [kb2_p (z_find0 hf.1 hl.1 hN)]
  cases hpl : aPlace k l with
  | none => exact ⟨μ, rfl, h⟩
  | some i =>
    obtain ⟨-, hi, -, -⟩ := aPl_some hpl
    rw [Nat.zero_add] at hi
    have hz := (hl.2 i hi).2.2.2.2.1
    have hpos := ho.pos i hi
    have f4 : gI μ 404 (A i) = lG l i 4 := z_f0 hf.1 hi 4 (by decide)
    have no : (q < 2 ∨ 9 < q ∨ lG l i 4 < q ∨ K < 1 ∨ aS (wZ (lG l i 2) (lG l i 3)) l < K) → aSpl l T i q K = -2000000 := fun y => if_pos y
    show ∃ ν, (if q < 2 then some ((-2000000 : Int), μ) else if 9 < q then some ((-2000000 : Int), μ) else if gI μ 404 (A i) < q then some ((-2000000 : Int), μ) else kb (f_X5_loadInParts N G (gR G 202 (gR G 700 x)) (gR G 200 (gR G 700 x)) (A i) 1 μ) fun m7 => if K < 1 then some ((-2000000 : Int), m7) else if gI m7 507 (gR G 202 (gR G 700 x)) < K then some ((-2000000 : Int), m7) else kb (f_X5_deal N G (gR G 202 (gR G 700 x)) K (gI m7 206 (gR G 700 x)) m7) fun m11 => kb2 (f_X5_partOf N G (gR G 202 (gR G 700 x)) (A i) 0 m11) fun v14 m13 => kb (f_X5_loadInParts N G (gR G 202 (gR G 700 x)) (gR G 200 (gR G 700 x)) (A i) q m13) fun m15 => kb (f_X5_deal N G (gR G 202 (gR G 700 x)) K (gI m15 206 (gR G 700 x)) m15) fun m17 => kb2 (f_X5_partOf N G (gR G 202 (gR G 700 x)) (A i) 0 m17) fun v20 m19 => ckI (v20 - v14) fun v21 => some (v21, m19)) = some (aSpl l T i q K, ν) ∧ cR G ρ x ν l T D tr n0 B
    by_cases c1 : q < 2
    · rw [if_pos c1, no (Or.inl c1)]; exact ⟨μ, rfl, h⟩
    · rw [if_neg c1]
      by_cases c2 : 9 < q
      · rw [if_pos c2, no (Or.inr (Or.inl c2))]; exact ⟨μ, rfl, h⟩
      · rw [if_neg c2, f4]
        by_cases c3 : lG l i 4 < q
        · rw [if_pos c3, no (Or.inr (Or.inr (Or.inl c3)))]; exact ⟨μ, rfl, h⟩
        · rw [if_neg c3]
          obtain ⟨μ1, e1, e2, e3⟩ := z_loadParts5 (N := N) (n := 1) hy.1 hf hl hN hi rfl rfl ⟨by omega, by omega, by show (1 : Int) ≤ _; omega⟩
          have hf1 := hf.frm hy.1 h60 e2 pSh_mk
          have h1 : cR G ρ x μ1 l T D tr n0 B := h.flo hy (e2.role pSh_1) ⟨A, V, nx, hf1⟩
          have hat : aAt (lG l i 2) (lG l i 3) (lG l i) = true := aAt_self
          obtain ⟨rk1, rk2⟩ := aJ_rk (n := l.length) hi hat
          have Sb : ∀ k, k < (aJ (lG l i 2) (lG l i 3) l l.length).length → 0 ≤ jS l (aJ (lG l i 2) (lG l i 3) l l.length) k ∧ jS l (aJ (lG l i 2) (lG l i 3) l l.length) k ≤ 1000 := fun k hk => (hl.2 _ (aJ_in l.length k hk).1).2.2.2.2.1
          have all : gI μ1 507 (gR G 202 (gR G 700 x)) = aS (wZ (lG l i 2) (lG l i 3)) l := by rw [e3.2.1, spS_sum Sb rk1 (Nat.le_refl _), sumZ]
          have e1' : f_X5_loadInParts N G (gR G 202 (gR G 700 x)) (gR G 200 (gR G 700 x)) (A i) 1 μ = some μ1 := e1
          rw [kb_p e1', all]
          by_cases c4 : K < 1
          · rw [if_pos c4, no (Or.inr (Or.inr (Or.inr (Or.inl c4))))]; exact ⟨μ1, rfl, h1⟩
          · rw [if_neg c4]
            by_cases c5 : aS (wZ (lG l i 2) (lG l i 3)) l < K
            · rw [if_pos c5, no (Or.inr (Or.inr (Or.inr (Or.inr c5))))]; exact ⟨μ1, rfl, h1⟩
            · rw [if_neg c5]
              obtain ⟨qn, hqn⟩ : ∃ qn : Nat, q = (qn : Int) := ⟨q.toNat, by omega⟩
              subst hqn
              have hK : 1 ≤ K ∧ K ≤ aS (wZ (lG l i 2) (lG l i 3)) l := ⟨by omega, by omega⟩
              have n1 : 1 ≤ 1 ∧ 1 ≤ 9 ∧ ((1 : Nat) : Int) ≤ lG l i 4 := ⟨by omega, by omega, by omega⟩
              have nq : 1 ≤ qn ∧ qn ≤ 9 ∧ (qn : Int) ≤ lG l i 4 := ⟨by omega, by omega, by omega⟩
              obtain ⟨μ2, d1, d2, d3⟩ := z_parts7 (N := N) hy.1 hf1 ho hN hi rfl rfl n1 hK e3
              have hf2 := hf1.frm hy.1 h60 d2 pSh_mk
              obtain ⟨μ3, g1, g2, g3⟩ := z_loadParts5 (N := N) (n := qn) hy.1 hf2 hl hN hi rfl rfl nq
              have hf3 := hf2.frm hy.1 h60 g2 pSh_mk
              obtain ⟨μ4, b1, b2, b3⟩ := z_parts7 (N := N) hy.1 hf3 ho hN hi rfl rfl nq hK g3
              have hf4 := hf3.frm hy.1 h60 b2 pSh_mk
              have bd1 := spD_bd (n := 1) ho hi rfl rfl n1 hK
              have bd2 := spD_bd (n := qn) ho hi rfl rfl nq hK
              rw [hf1.2.2.2.1.2.1, kb_p d1, kb2_p d3, kb_p g1, hf3.2.2.2.1.2.1, kb_p b1, kb2_p b3, ckI_p ⟨by omega, by omega⟩]
              refine ⟨μ4, ?_, h1.flo hy (((d2.tr g2).tr b2).role pSh_1) ⟨A, V, nx, hf4⟩⟩
              unfold aSpl
              rw [if_neg (by omega), Int.toNat_natCast]
end SPL7
