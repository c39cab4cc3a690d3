/-! PURE: 'splits', reference -/
section SPL8
variable {N : Nat} {G : qG} {m : Nat} {μ ν : qM} {l : List (Nat → Int)} {T D : Nat → Int} {tr : Nat → Nat → Int} {n0 : Nat} {B : Nat → Int} {S g : Nat → Int} {c r n i : Nat} {K side t had size L gr : Int}
theorem z_shift8 (hL : mL G m) (h : mR G m μ l T D tr n0 B) (hc : c + n ≤ 70) (hn : 2 ≤ n) (hr : r < c) (h5 : gI μ 805 m = (c : Int)) (h7 : ∀ k, k < c → gA μ (gR G 807 m) k = S k) (hN : 100 < N) :
    ∃ mem, dRf G m wF wA μ mem ∧ (gI mem 805 m = (c : Int) ∧ (∀ k, k < r → gA mem (gR G 807 m) k = S k) ∧ ∀ k, r + n ≤ k → k < c + n - 1 → gA mem (gR G 807 m) k = S (k + 1 - n)) ∧ f_X8_splits_L127 N G m (n : Int) K (r : Int) side t had size ((c : Int) - 1) μ = f_X8_splits_L179 N G m (n : Int) K (r : Int) side t had size 0 mem := by
  have n67 : gR G 807 m ≠ gR G 806 m := hL.ne (by decide) (by decide) (by decide)
  unfold f_X8_splits_L127
  refine qLoop_inv
    (fun e st => ∃ mem, st = (m, (n : Int), K, (r : Int), side, t, had, size, (c : Int) - 1 - (e : Int), mem) ∧ dRf G m wF wA μ mem ∧ gI mem 805 m = (c : Int) ∧ (∀ k, k + e < c → gA mem (gR G 807 m) k = S k) ∧ ∀ k, c + n ≤ k + e + 1 → k < c + n - 1 → gA mem (gR G 807 m) k = S (k + 1 - n))
    (fun q => ∃ mem, dRf G m wF wA μ mem ∧ (gI mem 805 m = (c : Int) ∧ (∀ k, k < r → gA mem (gR G 807 m) k = S k) ∧ ∀ k, r + n ≤ k → k < c + n - 1 → gA mem (gR G 807 m) k = S (k + 1 - n)) ∧ q = f_X8_splits_L179 N G m (n : Int) K (r : Int) side t had size 0 mem)
    (c - 1 - r) ?_ ?_ (c - 1 - r) 0 N _ (by omega) (by omega) ⟨μ, by show _ = (m, (n : Int), K, (r : Int), side, t, had, size, (c : Int) - 1 - 0, μ); rw [Int.sub_zero], dRf.rf, h5, fun k hk => h7 k (by omega), fun k h1 h2 => by omega⟩
  · rintro e st he ⟨mem, rfl, hd, g5, g7, g8⟩
    refine Or.inr ?_
    obtain ⟨y, hy⟩ : ∃ y : Nat, y + e + 1 = c := ⟨c - 1 - e, by omega⟩
    have ey : (c : Int) - 1 - (e : Int) = (y : Int) := by omega
    refine ⟨_, ⟨sA (sA mem (gR G 807 m) (y + n - 1) (S y)) (gR G 806 m) (y + n - 1) (gA (sA mem (gR G 807 m) (y + n - 1) (S y)) (gR G 806 m) y), rfl, (hd.tr (dRf.sA (by unfold wA; omega))).tr (dRf.sA (by unfold wA; omega)), by rw [gI_sA, gI_sA]; exact g5, fun k hk => ?_, fun k h1 h2 => ?_⟩, fun kk => ?_⟩
    · rw [gA_a n67, gA_i (by omega)]; exact g7 k (by omega)
    · rw [gA_a n67]
      by_cases q : k = y + n - 1
      · subst q
        rw [gA_s]
        congr 1
        omega
      · rw [gA_i q]; exact g8 k (by omega) h2
    · show f_X8_splits_127 N G _ m (n : Int) K (r : Int) side t had size ((c : Int) - 1 - (e : Int)) mem = _
      unfold f_X8_splits_127
      rw [ey, if_pos (by omega), ckI_p ⟨by omega, by omega⟩, ckI_p ⟨by omega, by omega⟩, rdA_p ⟨by omega, by omega⟩, wrA_p ⟨by omega, by omega⟩, ckI_p ⟨by omega, by omega⟩, ckI_p ⟨by omega, by omega⟩, rdA_p ⟨by omega, by omega⟩, wrA_p ⟨by omega, by omega⟩, ckI_p ⟨by omega, by omega⟩, Int.toNat_natCast, g7 y (by omega), show ((y : Int) + (n : Int) - 1).toNat = y + n - 1 by omega, show (y : Int) + (-1) = (c : Int) - 1 - ((e + 1 : Nat) : Int) by omega]
  · rintro st ⟨mem, rfl, hd, g5, g7, g8⟩
    refine ⟨_, ⟨mem, hd, ⟨g5, fun k hk => g7 k (by omega), fun k h1 h2 => g8 k (by omega) h2⟩, rfl⟩, fun kk => ?_⟩
    show f_X8_splits_127 N G _ m (n : Int) K (r : Int) side t had size ((c : Int) - 1 - ((c - 1 - r : Nat) : Int)) mem = _
    unfold f_X8_splits_127
    rw [if_neg (by omega)]
def spT (t : Int) (r n : Nat) : Int := if t = (r : Int) then -1 else if (r : Int) < t then t + (n : Int) - 1 else t
theorem z_spl8c (hL : mL G m) (hc : c + n ≤ 70) (hn : 2 ≤ n ∧ n ≤ 9 ∧ (n : Int) ≤ S r) (hS : S r ≤ 1000) (hr : r < c) (ht : t = -1 ∨ (0 ≤ t ∧ t < (c : Int))) (h : gI μ 805 m = (c : Int) ∧ (∀ k, k < r → gA μ (gR G 807 m) k = S k) ∧ ∀ k, r + n ≤ k → k < c + n - 1 → gA μ (gR G 807 m) k = S (k + 1 - n)) (hN : 100 < N) :
    ∃ mem, dRf G m wF wA μ mem ∧ gI mem 805 m = ((c + n - 1 : Nat) : Int) ∧ (∀ k, k < c + n - 1 → gA mem (gR G 807 m) k = spS S r n k) ∧ f_X8_splits_L179 N G m (n : Int) K (r : Int) side t had (S r) 0 μ = f_X8_splits_274 N G m (n : Int) (r : Int) side had m K (spT t r n) mem := by
  have n67 : gR G 807 m ≠ gR G 806 m := hL.ne (by decide) (by decide) (by decide)
  obtain ⟨h5, h7, h8⟩ := h
  have tt := tdn (z := S r) (n := n) (by omega) (by omega)
  have pb : ∀ j, 0 ≤ spP (S r) n j ∧ spP (S r) n j ≤ 1000 := fun j => spP_bd ⟨by omega, hS⟩ ⟨by omega, hn.2.2⟩
  unfold f_X8_splits_L179
  refine qLoop_inv
    (fun j st => ∃ mem, st = (m, (n : Int), K, (r : Int), side, t, had, S r, (j : Int), mem) ∧ dRf G m wF wA μ mem ∧ gI mem 805 m = (c : Int) ∧ (∀ k, k < r → gA mem (gR G 807 m) k = S k) ∧ (∀ k, r + n ≤ k → k < c + n - 1 → gA mem (gR G 807 m) k = S (k + 1 - n)) ∧ ∀ k, r ≤ k → k < r + j → gA mem (gR G 807 m) k = spP (S r) n (k - r))
    (fun q => ∃ mem, dRf G m wF wA μ mem ∧ gI mem 805 m = ((c + n - 1 : Nat) : Int) ∧ (∀ k, k < c + n - 1 → gA mem (gR G 807 m) k = spS S r n k) ∧ q = f_X8_splits_274 N G m (n : Int) (r : Int) side had m K (spT t r n) mem)
    n ?_ ?_ n 0 N _ (by omega) (by omega) ⟨μ, rfl, dRf.rf, h5, h7, h8, fun k h1 h2 => by omega⟩
  · rintro j st hj ⟨mem, rfl, hd, g5, g7, g8, g9⟩
    refine Or.inr ?_
    refine ⟨_, ⟨sA (sA mem (gR G 807 m) (r + j) (spP (S r) n j)) (gR G 806 m) (r + j) (-1), rfl, (hd.tr (dRf.sA (by unfold wA; omega))).tr (dRf.sA (by unfold wA; omega)), by rw [gI_sA, gI_sA]; exact g5, fun k hk => by rw [gA_a n67, gA_i (by omega)]; exact g7 k hk, fun k h1 h2 => by rw [gA_a n67, gA_i (by omega)]; exact g8 k h1 h2, fun k h1 h2 => ?_⟩, fun kk => ?_⟩
    · rw [gA_a n67]
      by_cases q : k = r + j
      · subst q
        rw [gA_s, show r + j - r = j by omega]
      · rw [gA_i q]; exact g9 k h1 (by omega)
    · show f_X8_splits_179 N G _ m (n : Int) K (r : Int) side t had (S r) (j : Int) mem = _
      have pj : spP (S r) n j = (S r).tdiv (n : Int) + (if (j : Int) < S r - (S r).tdiv (n : Int) * (n : Int) then 1 else 0) := rfl
      unfold f_X8_splits_179 f_X8_splits_212
      rw [if_pos (by omega), ckI_p ⟨by omega, by omega⟩, ckD_p (by omega), ckI_p ⟨by omega, by omega⟩, ckD_p (by omega), ckI_p ⟨by omega, by omega⟩]
      have er : ((r : Int) + (j : Int)).toNat = r + j := by omega
      by_cases q : (j : Int) < S r - (S r).tdiv (n : Int) * (n : Int)
      · rw [if_pos q] at pj
        rw [if_pos q, ckI_p ⟨by omega, by omega⟩, wrA_p ⟨by omega, by omega⟩, ckI_p ⟨by omega, by omega⟩, wrA_p ⟨by omega, by omega⟩, ckI_p ⟨by omega, by omega⟩, er, pj, cast1]
      · rw [if_neg q] at pj
        rw [if_neg q, ckI_p ⟨by omega, by omega⟩, wrA_p ⟨by omega, by omega⟩, ckI_p ⟨by omega, by omega⟩, wrA_p ⟨by omega, by omega⟩, ckI_p ⟨by omega, by omega⟩, er, pj, cast1]
  · rintro st ⟨mem, rfl, hd, g5, g7, g8, g9⟩
    have e5 : (c : Int) + ((n : Int) - 1) = ((c + n - 1 : Nat) : Int) := by omega
    refine ⟨_, ⟨sI mem 805 m ((c + n - 1 : Nat) : Int), hd.tr (dRf.sI (Or.inr rfl)), gI_s, fun k hk => ?_, rfl⟩, fun kk => ?_⟩
    · rw [gA_sI]
      unfold spS spI
      by_cases q : r ≤ k ∧ k < r + n
      · rw [if_pos q]; exact g9 k q.1 q.2
      · rw [if_neg q]
        by_cases d : k < r
        · rw [if_pos d]; exact g7 k d
        · rw [if_neg d, if_neg (by omega)]; exact g8 k (by omega) hk
    · show f_X8_splits_179 N G _ m (n : Int) K (r : Int) side t had (S r) (n : Int) mem = _
      unfold f_X8_splits_179 spT
      rw [if_neg (by omega), ckI_p ⟨by omega, by omega⟩, g5, ckI_p ⟨by omega, by omega⟩, kp_p, e5]
      by_cases d1 : t = (r : Int)
      · rw [if_pos d1, if_pos d1]
      · rw [if_neg d1, if_neg d1]
        by_cases d2 : (r : Int) < t
        · rw [if_pos d2, if_pos d2, ckI_p ⟨by omega, by omega⟩, ckI_p ⟨by omega, by omega⟩]
        · rw [if_neg d2, if_neg d2]
theorem spT_g (ht : t = -1 ∨ (0 ≤ t ∧ t < (c : Int))) (hn : 1 ≤ n) (hr : r < c) (hg : ∀ k, k < c → topG t gr k = g k) : (∀ k, k < c + n - 1 → topG (spT t r n) gr k = spG g r n k) ∧ (spT t r n = -1 ∨ (0 ≤ spT t r n ∧ spT t r n < ((c + n - 1 : Nat) : Int))) := by
  have bd : spT t r n = -1 ∨ (0 ≤ spT t r n ∧ spT t r n < ((c + n - 1 : Nat) : Int)) := by
    unfold spT
    split
    · exact Or.inl rfl
    · split
      · right; omega
      · rcases ht with h | h
        · exact Or.inl h
        · right; omega
  refine ⟨fun k hk => ?_, bd⟩
  unfold spG
  by_cases q : r ≤ k ∧ k < r + n
  · rw [if_pos q]
    unfold topG spT
    rw [if_neg]
    split
    · omega
    · split <;> omega
  · rw [if_neg q, ← hg _ (spI_lt hr hn hk)]
    have key : ((k : Int) = spT t r n) ↔ (((spI r n k : Nat) : Int) = t) := by
      unfold spT spI
      by_cases d : k < r
      · rw [if_pos d]
        split
        · omega
        · split <;> omega
      · rw [if_neg d, if_neg (show ¬ k < r + n from fun y => q ⟨by omega, y⟩)]
        have e : ((k + 1 - n : Nat) : Int) = (k : Int) + 1 - (n : Int) := by omega
        rw [e]
        split
        · omega
        · split <;> omega
    unfold topG
    by_cases d : (k : Int) = spT t r n
    · rw [if_pos d, if_pos (key.mp d)]
    · rw [if_neg d, if_neg (fun y => d (key.mpr y))]
/-- the shares of the parts, added -/
theorem z_add8 (hL : mL G m) (h : mR G m μ l T D tr n0 B) (ho : shOk S g K (T 1) c) (hc60 : c ≤ 60) (hK : K ≤ sumN S c) (hr : r < c) (hn : 1 ≤ n ∧ n ≤ 9 ∧ (n : Int) ≤ S r) (hs : side = 0 ∨ side = 1) (hgr : T (8 + side.toNat) = gr) (hgb : 0 ≤ gr ∧ gr ≤ 1000) (ht : t = -1 ∨ (0 ≤ t ∧ t < (c : Int))) (hg : ∀ k, k < c → topG t gr k = g k)
    (h5 : gI μ 805 m = ((c + n - 1 : Nat) : Int)) (h7 : ∀ k, k < c + n - 1 → gA μ (gR G 807 m) k = spS S r n k) (hh : 0 ≤ had ∧ had ≤ 100000) (hN : 100 < N) :
    ∃ ν, f_X8_splits_274 N G m (n : Int) (r : Int) side had m K (spT t r n) μ = some (spD S g K (T 1) c r n - had, ν) ∧ mR G m ν l T D tr n0 B := by
  obtain ⟨tg, tb⟩ := spT_g (n := n) ht hn.1 hr hg
  have o2 := spOk ho hc60 hr hn
  obtain ⟨μ2, d1, d2, d3⟩ := z_shr8 (N := N) hL h h5 h7 tb hgb tg o2 hN
  have hm2 := h.frm hL d2.rfm
  have e8 : (8 + side).toNat = 8 + side.toNat := by omega
  have s8 : in32 (8 + side) ∧ 0 ≤ 8 + side ∧ 8 + side < 684 := by omega
  unfold f_X8_splits_274
  rw [ckI_p s8.1, rdA_p s8.2, e8, h.2.1 (8 + side.toNat) (by omega) (by omega), hgr, kb_p d1]
  refine ⟨μ2, ?_, hm2⟩
  unfold f_X8_splits_L293
  have bd : ∀ j, j < n → 0 ≤ spH S g K (T 1) c r n (r + j) ∧ spH S g K (T 1) c r n (r + j) ≤ 1000 := fun j hj => by
    obtain ⟨⟨u1, u2, u3⟩, u4⟩ := spH_bd (k := r + j) ho hc60 hK hr hn (by omega)
    exact ⟨by unfold spH; omega, u4⟩
  refine qLoop_end (step := fun k p => f_X8_splits_293 N G (fun x0 x2 x4 x7 x9 x10 m0 => k (x0, x2, x4, x7, x9, x10, m0)) p.1 p.2.1 p.2.2.1 p.2.2.2.1 p.2.2.2.2.1 p.2.2.2.2.2.1 p.2.2.2.2.2.2) (fun j => (m, (n : Int), (r : Int), had, sumN (fun j => spH S g K (T 1) c r n (r + j)) j, (j : Int), μ2)) n N (by omega) (fun j hj k => ?_) (fun k => ?_)
  · show f_X8_splits_293 N G _ m (n : Int) (r : Int) had (sumN (fun j => spH S g K (T 1) c r n (r + j)) j) (j : Int) μ2 = k (m, (n : Int), (r : Int), had, sumN (fun j => spH S g K (T 1) c r n (r + j)) j + spH S g K (T 1) c r n (r + j), ((j + 1 : Nat) : Int), μ2)
    have sb := sumN_bd (f := fun j => spH S g K (T 1) c r n (r + j)) (M := 1000) (c := j) (fun i hi => bd i (by omega))
    have b1 := bd j hj
    have erj : (r : Int) + (j : Int) = ((r + j : Nat) : Int) := by omega
    obtain ⟨w1, w2, w3⟩ := d3 (r + j) (by omega)
    unfold f_X8_splits_293
    rw [if_pos (by omega), ckI_p ⟨by omega, by omega⟩, erj, kb2_p (z_has8 (by omega) w1 w2 w3 (jABC_bd o2 (r + j) (by omega)))]
    have eh : shA (spS S r n) (spG g r n) K (r + j) + shB (spS S r n) (spG g r n) K (T 1) (c + n - 1) (r + j) + shC (spS S r n) (spG g r n) K (T 1) (c + n - 1) (r + j) = spH S g K (T 1) c r n (r + j) := rfl
    rw [eh, ckI_p ⟨by omega, by omega⟩, ckI_p ⟨by omega, by omega⟩, cast1]
  · show f_X8_splits_293 N G _ m (n : Int) (r : Int) had (sumN (fun j => spH S g K (T 1) c r n (r + j)) n) (n : Int) μ2 = _
    have sb := sumN_bd (f := fun j => spH S g K (T 1) c r n (r + j)) (M := 1000) (c := n) (fun i hi => bd i hi)
    unfold f_X8_splits_293
    rw [if_neg (by omega), ckI_p ⟨by omega, by omega⟩]
    rfl
theorem z_splits8 (hL : mL G m) (h : mR G m μ l T D tr n0 B) (ho : mOk l T) (hN : 100 < N) (k q K : Int) : ∃ ν, f_X8_splits N G m k q K μ = some (aSplits l T k q K, ν) ∧ mR G m ν l T D tr n0 B := by
  have hl := ho.lo
  have h60 := hl.1
  have h1 := h.fld (f := 804) (a := m) (v := 0) (by decide)
  obtain ⟨a1, a2⟩ := z_laysFor8 (N := N) hL h1 h60 hN k
  unfold f_X8_splits aSplits
  rw [kp_p]
  cases hpl : aPlace k l with
  | none =>
    rw [kb2_p (a1 hpl), if_pos (by decide)]
    exact ⟨_, rfl, h1⟩
  | some i =>
    obtain ⟨-, hi, -, -⟩ := aPl_some hpl
    rw [Nat.zero_add] at hi
    obtain ⟨μ1, e1, e2, e3⟩ := a2 i hpl
    have hm1 := h1.frm hL e2
    have hz := (hl.2 i hi).2.2.2.2.1
    have hsd := (hl.2 i hi).2.2.1
    have hpos := ho.pos i hi
    have hat : aAt (lG l i 2) (lG l i 3) (lG l i) = true := aAt_self
    obtain ⟨rk1, rk2⟩ := aJ_rk (n := l.length) hi hat
    have hc := aJ_len (s := lG l i 2) (p := lG l i 3) (l := l) l.length
    have hSr : jS l (aJ (lG l i 2) (lG l i 3) l l.length) (aJ (lG l i 2) (lG l i 3) l i).length = lG l i 4 := by unfold jS; rw [rk2]
    have no : (q < 2 ∨ 9 < q ∨ lG l i 4 < q ∨ K < 1 ∨ aS (wZ (lG l i 2) (lG l i 3)) l < K) → aSpl l T i q K = -2000000 := fun y => if_pos y
    have Sb : ∀ k, k < (aJ (lG l i 2) (lG l i 3) l l.length).length → 0 ≤ jS l (aJ (lG l i 2) (lG l i 3) l l.length) k ∧ jS l (aJ (lG l i 2) (lG l i 3) l l.length) k ≤ 1000 := fun k hk => (hl.2 _ (aJ_in l.length k hk).1).2.2.2.2.1
    rw [kb2_p e1, if_neg (by omega), kb2_p z_within8, b01_ite]
    show ∃ ν, _ = some (aSpl l T i q K, ν) ∧ _
    by_cases c1 : aIn q 2 9 = true
    · have c1' : 2 ≤ q ∧ q ≤ 9 := of_decide_eq_true c1
      rw [if_pos c1, rdA_p ⟨by omega, by omega⟩, Int.toNat_natCast, (e3.2 _ rk1).2, hSr]
      by_cases c2 : lG l i 4 < q
      · rw [if_pos c2, no (Or.inr (Or.inr (Or.inl c2)))]
        exact ⟨μ1, rfl, hm1⟩
      · rw [if_neg c2, kb2_p (z_laidInAll8 (N := N) e3.1 (fun k hk => (e3.2 k hk).2) Sb (by omega) hN), sumZ, kb2_p z_within8, b01_ite]
        by_cases c3 : aIn K 1 (aS (wZ (lG l i 2) (lG l i 3)) l) = true
        · have hK : 1 ≤ K ∧ K ≤ aS (wZ (lG l i 2) (lG l i 3)) l := of_decide_eq_true c3
          obtain ⟨qn, hqn⟩ : ∃ qn : Nat, q = (qn : Int) := ⟨q.toNat, by omega⟩
          subst hqn
          have hb := aS_bd (w := wZ (lG l i 2) (lG l i 3)) (wZ_bd hl)
          have oo := jOk (s := lG l i 2) (p := lG l i 3) (K := K) ho ⟨by omega, by omega⟩ l.length (Nat.le_refl _)
          have hK' : K ≤ sumN (jS l (aJ (lG l i 2) (lG l i 3) l l.length)) (aJ (lG l i 2) (lG l i 3) l l.length).length := by rw [sumZ]; exact hK.2
          obtain ⟨t, t1, t2, t3, -, -⟩ := z_topLaid8 (N := N) hm1 hl ho.inc hN hsd e3
          have tb := topBd ho hsd
          rw [if_pos c3, kb2_p (z_sideOf8 hm1.1 h60 hN hpl), kb2_p t1]
          have n1 : 1 ≤ 1 ∧ 1 ≤ 9 ∧ ((1 : Nat) : Int) ≤ jS l (aJ (lG l i 2) (lG l i 3) l l.length) (aJ (lG l i 2) (lG l i 3) l i).length := ⟨by omega, by omega, by rw [hSr]; omega⟩
          have nq : 1 ≤ qn ∧ qn ≤ 9 ∧ (qn : Int) ≤ jS l (aJ (lG l i 2) (lG l i 3) l l.length) (aJ (lG l i 2) (lG l i 3) l i).length := ⟨by omega, by omega, by rw [hSr]; omega⟩
          -- with one part
          have oth : ∀ x : Int, (if t = ((aJ (lG l i 2) (lG l i 3) l i).length : Int) then -1 else t) = x → ∃ ν, f_X8_splits_89 N G m (qn : Int) K ((aJ (lG l i 2) (lG l i 3) l i).length : Int) (lG l i 2) t m K x μ1 = some (aSpl l T i (qn : Int) K, ν) ∧ mR G m ν l T D tr n0 B := by
            intro x hx
            obtain ⟨tg, tbd⟩ := spT_g (n := 1) (r := (aJ (lG l i 2) (lG l i 3) l i).length) t2 (Nat.le_refl _) rk1 t3
            have ex : spT t (aJ (lG l i 2) (lG l i 3) l i).length 1 = x := by
              rw [← hx]
              unfold spT
              by_cases d : t = ((aJ (lG l i 2) (lG l i 3) l i).length : Int)
              · rw [if_pos d, if_pos d]
              · rw [if_neg d, if_neg d]
                split
                · show t + 1 - 1 = t; omega
                · rfl
            rw [ex] at tg tbd
            have o1 := spOk oo (by omega) rk1 n1
            have ec : (aJ (lG l i 2) (lG l i 3) l l.length).length + 1 - 1 = (aJ (lG l i 2) (lG l i 3) l l.length).length := by omega
            obtain ⟨μ2, d1, d2, d3⟩ := z_shr8 (N := N) (c := (aJ (lG l i 2) (lG l i 3) l l.length).length + 1 - 1) hL hm1 (by rw [ec]; exact e3.1) (fun k hk => by rw [spS_1]; exact (e3.2 k (by omega)).2) tbd tb tg o1 hN
            have hm2 := hm1.frm hL d2.rfm
            have m8 := d2.m8 hL
            have e8 : (8 + lG l i 2).toNat = 8 + (lG l i 2).toNat := by omega
            have s8 : in32 (8 + lG l i 2) ∧ 0 ≤ 8 + lG l i 2 ∧ 8 + lG l i 2 < 684 := by omega
            obtain ⟨w1, w2, w3⟩ := d3 (aJ (lG l i 2) (lG l i 3) l i).length (by omega)
            have v7 : ∀ k, k < (aJ (lG l i 2) (lG l i 3) l l.length).length → gA μ2 (gR G 807 m) k = jS l (aJ (lG l i 2) (lG l i 3) l l.length) k := fun k hk => by rw [m8.2]; exact (e3.2 k hk).2
            have v5 : gI μ2 805 m = ((aJ (lG l i 2) (lG l i 3) l l.length).length : Int) := by rw [d2.1]; exact e3.1
            have hD1 : spD (jS l (aJ (lG l i 2) (lG l i 3) l l.length)) (jGr T l (aJ (lG l i 2) (lG l i 3) l l.length)) K (T 1) (aJ (lG l i 2) (lG l i 3) l l.length).length (aJ (lG l i 2) (lG l i 3) l i).length 1 = spH (jS l (aJ (lG l i 2) (lG l i 3) l l.length)) (jGr T l (aJ (lG l i 2) (lG l i 3) l l.length)) K (T 1) (aJ (lG l i 2) (lG l i 3) l l.length).length (aJ (lG l i 2) (lG l i 3) l i).length 1 (aJ (lG l i 2) (lG l i 3) l i).length := by
              unfold spD
              show 0 + spH _ _ _ _ _ _ _ ((aJ (lG l i 2) (lG l i 3) l i).length + 0) = _
              rw [Nat.add_zero]; omega
            have hb1 := spD_bd (n := 1) ho hi rfl rfl ⟨by omega, by omega, by omega⟩ hK
            have eh : shA (spS (jS l (aJ (lG l i 2) (lG l i 3) l l.length)) (aJ (lG l i 2) (lG l i 3) l i).length 1) (spG (jGr T l (aJ (lG l i 2) (lG l i 3) l l.length)) (aJ (lG l i 2) (lG l i 3) l i).length 1) K (aJ (lG l i 2) (lG l i 3) l i).length + shB (spS (jS l (aJ (lG l i 2) (lG l i 3) l l.length)) (aJ (lG l i 2) (lG l i 3) l i).length 1) (spG (jGr T l (aJ (lG l i 2) (lG l i 3) l l.length)) (aJ (lG l i 2) (lG l i 3) l i).length 1) K (T 1) ((aJ (lG l i 2) (lG l i 3) l l.length).length + 1 - 1) (aJ (lG l i 2) (lG l i 3) l i).length + shC (spS (jS l (aJ (lG l i 2) (lG l i 3) l l.length)) (aJ (lG l i 2) (lG l i 3) l i).length 1) (spG (jGr T l (aJ (lG l i 2) (lG l i 3) l l.length)) (aJ (lG l i 2) (lG l i 3) l i).length 1) K (T 1) ((aJ (lG l i 2) (lG l i 3) l l.length).length + 1 - 1) (aJ (lG l i 2) (lG l i 3) l i).length = spD (jS l (aJ (lG l i 2) (lG l i 3) l l.length)) (jGr T l (aJ (lG l i 2) (lG l i 3) l l.length)) K (T 1) (aJ (lG l i 2) (lG l i 3) l l.length).length (aJ (lG l i 2) (lG l i 3) l i).length 1 := by rw [hD1]; rfl
            unfold f_X8_splits_89
            rw [ckI_p s8.1, rdA_p s8.2, e8, hm1.2.1 (8 + (lG l i 2).toNat) (by omega) (by omega), kb_p d1, kb2_p (z_has8 (by omega) w1 w2 w3 (jABC_bd o1 _ (by omega))), eh, rdA_p ⟨by omega, by omega⟩, Int.toNat_natCast, v7 _ rk1, v5, ckI_p ⟨by omega, by omega⟩]
            obtain ⟨μ3, g1, g2, g3⟩ := z_shift8 (N := N) (n := qn) (K := K) (side := lG l i 2) (t := t) (had := spD (jS l (aJ (lG l i 2) (lG l i 3) l l.length)) (jGr T l (aJ (lG l i 2) (lG l i 3) l l.length)) K (T 1) (aJ (lG l i 2) (lG l i 3) l l.length).length (aJ (lG l i 2) (lG l i 3) l i).length 1) (size := jS l (aJ (lG l i 2) (lG l i 3) l l.length) (aJ (lG l i 2) (lG l i 3) l i).length) hL hm2 (by omega) (by omega) rk1 v5 v7 hN
            obtain ⟨μ4, b1, b2, b3, b4⟩ := z_spl8c (N := N) (K := K) (side := lG l i 2) (had := spD (jS l (aJ (lG l i 2) (lG l i 3) l l.length)) (jGr T l (aJ (lG l i 2) (lG l i 3) l l.length)) K (T 1) (aJ (lG l i 2) (lG l i 3) l l.length).length (aJ (lG l i 2) (lG l i 3) l i).length 1) hL (by omega) ⟨by omega, nq.2.1, nq.2.2⟩ (by rw [hSr]; omega) rk1 t2 g2 hN
            have hm4 := (hm2.frm hL g1).frm hL b1
            obtain ⟨ν, f1, f2⟩ := z_add8 (N := N) hL hm4 oo (by omega) hK' rk1 nq hsd rfl tb t2 t3 b2 b3 (had := spD (jS l (aJ (lG l i 2) (lG l i 3) l l.length)) (jGr T l (aJ (lG l i 2) (lG l i 3) l l.length)) K (T 1) (aJ (lG l i 2) (lG l i 3) l l.length).length (aJ (lG l i 2) (lG l i 3) l i).length 1) (by omega) hN
            rw [g3, b4]
            refine ⟨ν, ?_, f2⟩
            rw [f1]
            unfold aSpl
            rw [if_neg (by omega), Int.toNat_natCast]
          by_cases d : t = ((aJ (lG l i 2) (lG l i 3) l i).length : Int)
          · rw [if_pos d]; exact oth (-1) (if_pos d)
          · rw [if_neg d]; exact oth t (if_neg d)
        · have hK : ¬ (1 ≤ K ∧ K ≤ aS (wZ (lG l i 2) (lG l i 3)) l) := fun y => c3 (decide_eq_true y)
          rw [if_neg c3, no (by omega)]
          exact ⟨μ1, rfl, hm1⟩
    · have c1' : ¬ (2 ≤ q ∧ q ≤ 9) := fun y => c1 (decide_eq_true y)
      rw [if_neg c1, no (by omega)]
      exact ⟨μ1, rfl, hm1⟩
end SPL8
